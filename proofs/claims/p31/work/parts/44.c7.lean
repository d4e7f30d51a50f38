set_option maxHeartbeats 4000000 in
set_option maxRecDepth 100000 in
theorem c_X2_become (l : Launch) (K : KT) (a : Nat) (N : Int → Int) (b : Nat) (M : Int → Int) (hab : a + 21 ≤ b ∨ b + 21 ≤ a) : CtV l yX2_become cX2_become 2 1 40 K [.ref (a + 3), .ref (b + 3)] (twoW K a N b M) (Bk2 a b) (fun (u : Int → Int) => u = bcL N M) (fun u => twoW K a u b M) := by
  refine CtV_of (by decide) (Nat.le_of_ble_eq_true rfl) ?_
  intro p e s m args below meth c T hr hk hP hK ls hl
  have T : CF p m c cX2_become 2 s args RX2 := T
  have hS : va_S (Bk2 a b) s.heap s.heap [] := va_S.rf
  have hl : lv_has ls 2 [(0, .ref (a + 3)), (1, .ref (b + 3))] := hl
  refine lv_aload_n T.1 T.2.1 dX2_become_0 rfl (lv_at hl 0 rfl) ?_
  refine lv_aload_n T.1 T.2.1 dX2_become_1 rfl (lv_at hl 1 rfl) ?_
  refine g2_number T hK hP 24 rfl (v := .int (iI (M 4))) rfl mw_1_31 dX2_become_2 ?_
  refine p2_number T hK hP (two_D K N M hab) hS 3 rfl (Nat.le_of_ble_eq_true rfl) mw_1_31 dX2_become_5 (two_up (Nat.le_of_ble_eq_true rfl) (su_f4 K a N (M 4))) (fun H locs hP hS => ?_)
  obtain ⟨N1, hN1⟩ : ∃ Y0 : Int → Int, Y0 = uZ N 4 (M 4) := ⟨_, rfl⟩
  have hP : xP K (twoW K a N1 b M) H := by rw [hN1]; exact hP
  refine lv_aload_n T.1 T.2.1 dX2_become_8 rfl (lv_at hl 1 rfl) ?_
  refine g2_state T hK hP 24 rfl rfl mw_1_34 dX2_become_9 ?_
  refine xv_iconst T dX2_become_12 ?_
  refine lv_aload_n T.1 T.2.1 dX2_become_13 rfl (lv_at hl 0 rfl) ?_
  refine g2_state T hK hP 3 rfl rfl mw_1_34 dX2_become_14 ?_
  refine xv_iconst T dX2_become_17 ?_
  refine xv_iconst T dX2_become_18 ?_
  refine xa_copyi T hl.1 hK hP (two_D K N1 M hab) hS mw_2_33 25 4 (by omega) (by decide) rfl rfl ⟨Nat.le_of_ble_eq_true rfl, Nat.le_of_ble_eq_true rfl⟩ dX2_become_19 (two_up (Nat.le_of_ble_eq_true rfl) (su_c14 K a N1 M)) (fun H locs hP hS => ?_)
  obtain ⟨N2, hN2⟩ : ∃ Y : Int → Int, Y = cpZ N1 M 14 5 := ⟨_, rfl⟩
  have hP : xP K (twoW K a N2 b M) H := by rw [hN2]; exact hP
  refine lv_aload_n T.1 T.2.1 dX2_become_22 rfl (lv_at hl 1 rfl) ?_
  refine g2_seal T hK hP 24 rfl rfl mw_1_37 dX2_become_23 ?_
  refine xv_iconst T dX2_become_26 ?_
  refine lv_aload_n T.1 T.2.1 dX2_become_27 rfl (lv_at hl 0 rfl) ?_
  refine g2_seal T hK hP 3 rfl rfl mw_1_37 dX2_become_28 ?_
  refine xv_iconst T dX2_become_31 ?_
  refine xv_iconst T dX2_become_32 ?_
  refine xa_copyi T hl.1 hK hP (two_D K N2 M hab) hS mw_2_33 26 5 (by omega) (by decide) rfl rfl ⟨Nat.le_of_ble_eq_true rfl, Nat.le_of_ble_eq_true rfl⟩ dX2_become_33 (two_up (Nat.le_of_ble_eq_true rfl) (su_c19 K a N2 M)) (fun H locs hP hS => ?_)
  obtain ⟨N3, hN3⟩ : ∃ Y : Int → Int, Y = cpZ N2 M 19 5 := ⟨_, rfl⟩
  have hP : xP K (twoW K a N3 b M) H := by rw [hN3]; exact hP
  refine lv_aload_n T.1 T.2.1 dX2_become_36 rfl (lv_at hl 1 rfl) ?_
  refine g2_units T hK hP 24 rfl rfl mw_1_40 dX2_become_37 ?_
  refine xv_iconst T dX2_become_40 ?_
  refine lv_aload_n T.1 T.2.1 dX2_become_41 rfl (lv_at hl 0 rfl) ?_
  refine g2_units T hK hP 3 rfl rfl mw_1_40 dX2_become_42 ?_
  refine xv_iconst T dX2_become_45 ?_
  refine xv_bipush T dX2_become_46 (by omega) ?_
  refine xa_copyi T hl.1 hK hP (two_D K N3 M hab) hS mw_2_33 27 6 (by omega) (by decide) rfl rfl ⟨Nat.le_of_ble_eq_true rfl, Nat.le_of_ble_eq_true rfl⟩ dX2_become_48 (two_up (Nat.le_of_ble_eq_true rfl) (su_c24 K a N3 M)) (fun H locs hP hS => ?_)
  obtain ⟨N4, hN4⟩ : ∃ Y : Int → Int, Y = cpZ N3 M 24 40 := ⟨_, rfl⟩
  have hP : xP K (twoW K a N4 b M) H := by rw [hN4]; exact hP
  refine lv_aload_n T.1 T.2.1 dX2_become_51 rfl (lv_at hl 1 rfl) ?_
  refine g2_missing T hK hP 24 rfl rfl mw_1_43 dX2_become_52 ?_
  refine xv_iconst T dX2_become_55 ?_
  refine lv_aload_n T.1 T.2.1 dX2_become_56 rfl (lv_at hl 0 rfl) ?_
  refine g2_missing T hK hP 3 rfl rfl mw_1_43 dX2_become_57 ?_
  refine xv_iconst T dX2_become_60 ?_
  refine xv_bipush T dX2_become_61 (by omega) ?_
  refine xa_copyi T hl.1 hK hP (two_D K N4 M hab) hS mw_2_33 28 7 (by omega) (by decide) rfl rfl ⟨Nat.le_of_ble_eq_true rfl, Nat.le_of_ble_eq_true rfl⟩ dX2_become_63 (two_up (Nat.le_of_ble_eq_true rfl) (su_c64 K a N4 M)) (fun H locs hP hS => ?_)
  obtain ⟨N5, hN5⟩ : ∃ Y : Int → Int, Y = cpZ N4 M 64 40 := ⟨_, rfl⟩
  have hP : xP K (twoW K a N5 b M) H := by rw [hN5]; exact hP
  exact rV T (u := N5) hr hk hK hP hS dX2_become_66 (by rw [hN5, hN4, hN3, hN2, hN1]; rfl)
set_option maxHeartbeats 4000000 in
set_option maxRecDepth 100000 in
theorem c_X5_become (l : Launch) (K : KT) (a : Nat) (N : Int → Int) (b : Nat) (M : Int → Int) (hab : a + 21 ≤ b ∨ b + 21 ≤ a) : CtV l yX5_become cX5_become 2 1 40 K [.ref (a + 8), .ref (b + 8)] (twoW K a N b M) (Bk2 a b) (fun (u : Int → Int) => u = bcS N M) (fun u => twoW K a u b M) := by
  refine CtV_of (by decide) (Nat.le_of_ble_eq_true rfl) ?_
  intro p e s m args below meth c T hr hk hP hK ls hl
  have T : CF p m c cX5_become 2 s args RX5 := T
  have hS : va_S (Bk2 a b) s.heap s.heap [] := va_S.rf
  have hl : lv_has ls 2 [(0, .ref (a + 8)), (1, .ref (b + 8))] := hl
  refine lv_aload_n T.1 T.2.1 dX5_become_0 rfl (lv_at hl 0 rfl) ?_
  refine lv_aload_n T.1 T.2.1 dX5_become_1 rfl (lv_at hl 1 rfl) ?_
  refine g5_used T hK hP 29 rfl (v := .int (iI (M 7))) rfl mw_1_64 dX5_become_2 ?_
  refine p5_used T hK hP (two_D K N M hab) hS 8 rfl (Nat.le_of_ble_eq_true rfl) mw_1_64 dX5_become_5 (two_up (Nat.le_of_ble_eq_true rfl) (su_f7 K a N (M 7))) (fun H locs hP hS => ?_)
  obtain ⟨N1, hN1⟩ : ∃ Y0 : Int → Int, Y0 = uZ N 7 (M 7) := ⟨_, rfl⟩
  have hP : xP K (twoW K a N1 b M) H := by rw [hN1]; exact hP
  refine lv_aload_n T.1 T.2.1 dX5_become_8 rfl (lv_at hl 1 rfl) ?_
  refine g5_locker T hK hP 29 rfl rfl mw_1_66 dX5_become_9 ?_
  refine xv_iconst T dX5_become_12 ?_
  refine lv_aload_n T.1 T.2.1 dX5_become_13 rfl (lv_at hl 0 rfl) ?_
  refine g5_locker T hK hP 8 rfl rfl mw_1_66 dX5_become_14 ?_
  refine xv_iconst T dX5_become_17 ?_
  refine xv_sipush T dX5_become_18 (by omega) ?_
  refine xa_copyi T hl.1 hK hP (two_D K N1 M hab) hS mw_2_38 30 9 (by omega) (by decide) rfl rfl ⟨Nat.le_of_ble_eq_true rfl, Nat.le_of_ble_eq_true rfl⟩ dX5_become_21 (two_up (Nat.le_of_ble_eq_true rfl) (su_c452 K a N1 M)) (fun H locs hP hS => ?_)
  obtain ⟨N2, hN2⟩ : ∃ Y : Int → Int, Y = cpZ N1 M 452 201 := ⟨_, rfl⟩
  have hP : xP K (twoW K a N2 b M) H := by rw [hN2]; exact hP
  refine lv_aload_n T.1 T.2.1 dX5_become_24 rfl (lv_at hl 1 rfl) ?_
  refine g5_day T hK hP 29 rfl rfl mw_1_68 dX5_become_25 ?_
  refine xv_iconst T dX5_become_28 ?_
  refine lv_aload_n T.1 T.2.1 dX5_become_29 rfl (lv_at hl 0 rfl) ?_
  refine g5_day T hK hP 8 rfl rfl mw_1_68 dX5_become_30 ?_
  refine xv_iconst T dX5_become_33 ?_
  refine xv_sipush T dX5_become_34 (by omega) ?_
  refine xa_copyi T hl.1 hK hP (two_D K N2 M hab) hS mw_2_38 31 10 (by omega) (by decide) rfl rfl ⟨Nat.le_of_ble_eq_true rfl, Nat.le_of_ble_eq_true rfl⟩ dX5_become_37 (two_up (Nat.le_of_ble_eq_true rfl) (su_c653 K a N2 M)) (fun H locs hP hS => ?_)
  obtain ⟨N3, hN3⟩ : ∃ Y : Int → Int, Y = cpZ N2 M 653 201 := ⟨_, rfl⟩
  have hP : xP K (twoW K a N3 b M) H := by rw [hN3]; exact hP
  refine lv_aload_n T.1 T.2.1 dX5_become_40 rfl (lv_at hl 1 rfl) ?_
  refine g5_fate T hK hP 29 rfl rfl mw_1_70 dX5_become_41 ?_
  refine xv_iconst T dX5_become_44 ?_
  refine lv_aload_n T.1 T.2.1 dX5_become_45 rfl (lv_at hl 0 rfl) ?_
  refine g5_fate T hK hP 8 rfl rfl mw_1_70 dX5_become_46 ?_
  refine xv_iconst T dX5_become_49 ?_
  refine xv_sipush T dX5_become_50 (by omega) ?_
  refine xa_copyi T hl.1 hK hP (two_D K N3 M hab) hS mw_2_38 32 11 (by omega) (by decide) rfl rfl ⟨Nat.le_of_ble_eq_true rfl, Nat.le_of_ble_eq_true rfl⟩ dX5_become_53 (two_up (Nat.le_of_ble_eq_true rfl) (su_c854 K a N3 M)) (fun H locs hP hS => ?_)
  obtain ⟨N4, hN4⟩ : ∃ Y : Int → Int, Y = cpZ N3 M 854 201 := ⟨_, rfl⟩
  have hP : xP K (twoW K a N4 b M) H := by rw [hN4]; exact hP
  exact rV T (u := N4) hr hk hK hP hS dX5_become_56 (by rw [hN4, hN3, hN2, hN1]; rfl)
set_option maxHeartbeats 4000000 in
set_option maxRecDepth 100000 in
theorem c_X0_become (l : Launch) (K : KT) (a : Nat) (N : Int → Int) (b : Nat) (M : Int → Int) (hab : a + 21 ≤ b ∨ b + 21 ≤ a) : CtV l yX0_become cX0_become 2 1 40 K [.ref (a + 12), .ref (b + 12)] (twoW K a N b M) (Bk2 a b) (fun (u : Int → Int) => u = bcB N M) (fun u => twoW K a u b M) := by
  refine CtV_of (by decide) (Nat.le_of_ble_eq_true rfl) ?_
  intro p e s m args below meth c T hr hk hP hK ls hl
  have T : CF p m c cX0_become 2 s args RX0 := T
  have hS : va_S (Bk2 a b) s.heap s.heap [] := va_S.rf
  have hl : lv_has ls 2 [(0, .ref (a + 12)), (1, .ref (b + 12))] := hl
  refine lv_aload_n T.1 T.2.1 dX0_become_0 rfl (lv_at hl 0 rfl) ?_
  refine lv_aload_n T.1 T.2.1 dX0_become_1 rfl (lv_at hl 1 rfl) ?_
  refine g0_number T hK hP 33 rfl (v := .int (iI (M 6))) rfl mw_1_87 dX0_become_2 ?_
  refine p0_number T hK hP (two_D K N M hab) hS 12 rfl (Nat.le_of_ble_eq_true rfl) mw_1_87 dX0_become_5 (two_up (Nat.le_of_ble_eq_true rfl) (su_f6 K a N (M 6))) (fun H locs hP hS => ?_)
  obtain ⟨N1, hN1⟩ : ∃ Y0 : Int → Int, Y0 = uZ N 6 (M 6) := ⟨_, rfl⟩
  have hP : xP K (twoW K a N1 b M) H := by rw [hN1]; exact hP
  refine lv_aload_n T.1 T.2.1 dX0_become_8 rfl (lv_at hl 0 rfl) ?_
  refine lv_aload_n T.1 T.2.1 dX0_become_9 rfl (lv_at hl 1 rfl) ?_
  refine g0_amountMade T hK hP 33 rfl (v := .long (lI (M 9))) rfl mw_1_90 dX0_become_10 ?_
  refine p0_amountMade T hK hP (two_D K N1 M hab) hS 12 rfl (Nat.le_of_ble_eq_true rfl) mw_1_90 dX0_become_13 (two_up (Nat.le_of_ble_eq_true rfl) (su_f9 K a N1 (M 9))) (fun H locs hP hS => ?_)
  obtain ⟨N2, hN2⟩ : ∃ Y0 : Int → Int, Y0 = uZ N1 9 (M 9) := ⟨_, rfl⟩
  have hP : xP K (twoW K a N2 b M) H := by rw [hN2]; exact hP
  refine lv_aload_n T.1 T.2.1 dX0_become_16 rfl (lv_at hl 1 rfl) ?_
  refine g0_good T hK hP 33 rfl rfl mw_1_93 dX0_become_17 ?_
  refine xv_iconst T dX0_become_20 ?_
  refine lv_aload_n T.1 T.2.1 dX0_become_21 rfl (lv_at hl 0 rfl) ?_
  refine g0_good T hK hP 12 rfl rfl mw_1_93 dX0_become_22 ?_
  refine xv_iconst T dX0_become_25 ?_
  refine xv_bipush T dX0_become_26 (by omega) ?_
  refine xa_copyi T hl.1 hK hP (two_D K N2 M hab) hS mw_2_43 34 13 (by omega) (by decide) rfl rfl ⟨Nat.le_of_ble_eq_true rfl, Nat.le_of_ble_eq_true rfl⟩ dX0_become_28 (two_up (Nat.le_of_ble_eq_true rfl) (su_c152 K a N2 M)) (fun H locs hP hS => ?_)
  obtain ⟨N3, hN3⟩ : ∃ Y : Int → Int, Y = cpZ N2 M 152 60 := ⟨_, rfl⟩
  have hP : xP K (twoW K a N3 b M) H := by rw [hN3]; exact hP
  refine lv_aload_n T.1 T.2.1 dX0_become_31 rfl (lv_at hl 1 rfl) ?_
  refine g0_made T hK hP 33 rfl rfl mw_1_96 dX0_become_32 ?_
  refine xv_iconst T dX0_become_35 ?_
  refine lv_aload_n T.1 T.2.1 dX0_become_36 rfl (lv_at hl 0 rfl) ?_
  refine g0_made T hK hP 12 rfl rfl mw_1_96 dX0_become_37 ?_
  refine xv_iconst T dX0_become_40 ?_
  refine xv_bipush T dX0_become_41 (by omega) ?_
  refine xa_copyi T hl.1 hK hP (two_D K N3 M hab) hS mw_2_43 35 14 (by omega) (by decide) rfl rfl ⟨Nat.le_of_ble_eq_true rfl, Nat.le_of_ble_eq_true rfl⟩ dX0_become_43 (two_up (Nat.le_of_ble_eq_true rfl) (su_c212 K a N3 M)) (fun H locs hP hS => ?_)
  obtain ⟨N4, hN4⟩ : ∃ Y : Int → Int, Y = cpZ N3 M 212 60 := ⟨_, rfl⟩
  have hP : xP K (twoW K a N4 b M) H := by rw [hN4]; exact hP
  refine lv_aload_n T.1 T.2.1 dX0_become_46 rfl (lv_at hl 1 rfl) ?_
  refine g0_left T hK hP 33 rfl rfl mw_1_98 dX0_become_47 ?_
  refine xv_iconst T dX0_become_50 ?_
  refine lv_aload_n T.1 T.2.1 dX0_become_51 rfl (lv_at hl 0 rfl) ?_
  refine g0_left T hK hP 12 rfl rfl mw_1_98 dX0_become_52 ?_
  refine xv_iconst T dX0_become_55 ?_
  refine xv_bipush T dX0_become_56 (by omega) ?_
  refine xa_copyi T hl.1 hK hP (two_D K N4 M hab) hS mw_2_43 36 15 (by omega) (by decide) rfl rfl ⟨Nat.le_of_ble_eq_true rfl, Nat.le_of_ble_eq_true rfl⟩ dX0_become_58 (two_up (Nat.le_of_ble_eq_true rfl) (su_c272 K a N4 M)) (fun H locs hP hS => ?_)
  obtain ⟨N5, hN5⟩ : ∃ Y : Int → Int, Y = cpZ N4 M 272 60 := ⟨_, rfl⟩
  have hP : xP K (twoW K a N5 b M) H := by rw [hN5]; exact hP
  refine lv_aload_n T.1 T.2.1 dX0_become_61 rfl (lv_at hl 1 rfl) ?_
  refine g0_duty T hK hP 33 rfl rfl mw_1_101 dX0_become_62 ?_
  refine xv_iconst T dX0_become_65 ?_
  refine lv_aload_n T.1 T.2.1 dX0_become_66 rfl (lv_at hl 0 rfl) ?_
  refine g0_duty T hK hP 12 rfl rfl mw_1_101 dX0_become_67 ?_
  refine xv_iconst T dX0_become_70 ?_
  refine xv_bipush T dX0_become_71 (by omega) ?_
  refine xa_copyi T hl.1 hK hP (two_D K N5 M hab) hS mw_2_43 37 16 (by omega) (by decide) rfl rfl ⟨Nat.le_of_ble_eq_true rfl, Nat.le_of_ble_eq_true rfl⟩ dX0_become_73 (two_up (Nat.le_of_ble_eq_true rfl) (su_c332 K a N5 M)) (fun H locs hP hS => ?_)
  obtain ⟨N6, hN6⟩ : ∃ Y : Int → Int, Y = cpZ N5 M 332 60 := ⟨_, rfl⟩
  have hP : xP K (twoW K a N6 b M) H := by rw [hN6]; exact hP
  refine lv_aload_n T.1 T.2.1 dX0_become_76 rfl (lv_at hl 1 rfl) ?_
  refine g0_due T hK hP 33 rfl rfl mw_1_103 dX0_become_77 ?_
  refine xv_iconst T dX0_become_80 ?_
  refine lv_aload_n T.1 T.2.1 dX0_become_81 rfl (lv_at hl 0 rfl) ?_
  refine g0_due T hK hP 12 rfl rfl mw_1_103 dX0_become_82 ?_
  refine xv_iconst T dX0_become_85 ?_
  refine xv_bipush T dX0_become_86 (by omega) ?_
  refine xa_copyi T hl.1 hK hP (two_D K N6 M hab) hS mw_2_43 38 17 (by omega) (by decide) rfl rfl ⟨Nat.le_of_ble_eq_true rfl, Nat.le_of_ble_eq_true rfl⟩ dX0_become_88 (two_up (Nat.le_of_ble_eq_true rfl) (su_c392 K a N6 M)) (fun H locs hP hS => ?_)
  obtain ⟨N7, hN7⟩ : ∃ Y : Int → Int, Y = cpZ N6 M 392 60 := ⟨_, rfl⟩
  have hP : xP K (twoW K a N7 b M) H := by rw [hN7]; exact hP
  exact rV T (u := N7) hr hk hK hP hS dX0_become_91 (by rw [hN7, hN6, hN5, hN4, hN3, hN2, hN1]; rfl)
set_option maxHeartbeats 4000000 in
set_option maxRecDepth 100000 in
theorem c_X4_become (l : Launch) (K : KT) (a : Nat) (N : Int → Int) (b : Nat) (M : Int → Int) (hab : a + 21 ≤ b ∨ b + 21 ≤ a) : CtV l yX4_become cX4_become 2 1 40 K [.ref (a + 18), .ref (b + 18)] (twoW K a N b M) (Bk2 a b) (fun (u : Int → Int) => u = bcR N M) (fun u => twoW K a u b M) := by
  refine CtV_of (by decide) (Nat.le_of_ble_eq_true rfl) ?_
  intro p e s m args below meth c T hr hk hP hK ls hl
  have T : CF p m c cX4_become 2 s args RX4 := T
  have hS : va_S (Bk2 a b) s.heap s.heap [] := va_S.rf
  have hl : lv_has ls 2 [(0, .ref (a + 18)), (1, .ref (b + 18))] := hl
  refine lv_aload_n T.1 T.2.1 dX4_become_0 rfl (lv_at hl 0 rfl) ?_
  refine lv_aload_n T.1 T.2.1 dX4_become_1 rfl (lv_at hl 1 rfl) ?_
  refine g4_fines T hK hP 39 rfl (v := .long (lI (M 8))) rfl mw_1_127 dX4_become_2 ?_
  refine p4_fines T hK hP (two_D K N M hab) hS 18 rfl (Nat.le_of_ble_eq_true rfl) mw_1_127 dX4_become_5 (two_up (Nat.le_of_ble_eq_true rfl) (su_f8 K a N (M 8))) (fun H locs hP hS => ?_)
  obtain ⟨N1, hN1⟩ : ∃ Y0 : Int → Int, Y0 = uZ N 8 (M 8) := ⟨_, rfl⟩
  have hP : xP K (twoW K a N1 b M) H := by rw [hN1]; exact hP
  refine lv_aload_n T.1 T.2.1 dX4_become_8 rfl (lv_at hl 1 rfl) ?_
  refine g4_units T hK hP 39 rfl rfl mw_1_130 dX4_become_9 ?_
  refine xv_iconst T dX4_become_12 ?_
  refine lv_aload_n T.1 T.2.1 dX4_become_13 rfl (lv_at hl 0 rfl) ?_
  refine g4_units T hK hP 18 rfl rfl mw_1_130 dX4_become_14 ?_
  refine xv_iconst T dX4_become_17 ?_
  refine xv_bipush T dX4_become_18 (by omega) ?_
  refine xa_copyi T hl.1 hK hP (two_D K N1 M hab) hS mw_2_48 40 19 (by omega) (by decide) rfl rfl ⟨Nat.le_of_ble_eq_true rfl, Nat.le_of_ble_eq_true rfl⟩ dX4_become_20 (two_up (Nat.le_of_ble_eq_true rfl) (su_c120 K a N1 M)) (fun H locs hP hS => ?_)
  obtain ⟨N2, hN2⟩ : ∃ Y : Int → Int, Y = cpZ N1 M 120 32 := ⟨_, rfl⟩
  have hP : xP K (twoW K a N2 b M) H := by rw [hN2]; exact hP
  refine lv_aload_n T.1 T.2.1 dX4_become_23 rfl (lv_at hl 1 rfl) ?_
  refine g4_cents T hK hP 39 rfl rfl mw_1_132 dX4_become_24 ?_
  refine xv_iconst T dX4_become_27 ?_
  refine lv_aload_n T.1 T.2.1 dX4_become_28 rfl (lv_at hl 0 rfl) ?_
  refine g4_cents T hK hP 18 rfl rfl mw_1_132 dX4_become_29 ?_
  refine xv_iconst T dX4_become_32 ?_
  refine xv_iconst T dX4_become_33 ?_
  refine xa_copyl T hl.1 hK hP (two_D K N2 M hab) hS mw_2_48 41 20 (by omega) (by decide) rfl rfl ⟨Nat.le_of_ble_eq_true rfl, Nat.le_of_ble_eq_true rfl⟩ dX4_become_34 (two_up (Nat.le_of_ble_eq_true rfl) (su_c10 K a N2 M)) (fun H locs hP hS => ?_)
  obtain ⟨N3, hN3⟩ : ∃ Y : Int → Int, Y = cpZ N2 M 10 4 := ⟨_, rfl⟩
  have hP : xP K (twoW K a N3 b M) H := by rw [hN3]; exact hP
  exact rV T (u := N3) hr hk hK hP hS dX4_become_37 (by rw [hN3, hN2, hN1]; rfl)
set_option maxHeartbeats 4000000 in
set_option maxRecDepth 100000 in
theorem c_X6_become (l : Launch) (K : KT) (a : Nat) (N : Int → Int) (b : Nat) (M : Int → Int) (hab : a + 21 ≤ b ∨ b + 21 ≤ a) : CtV l yX6_become cX6_become 2 2 61 K [.ref a, .ref b] (twoW K a N b M) (Bk2 a b) (fun (u : Unit) => True) (fun u => twoW K a M b M) := by
  refine CtV_of (by decide) (Nat.le_of_ble_eq_true rfl) ?_
  intro p e s m args below meth c T hr hk hP hK ls hl
  have T : CF p m c cX6_become 2 s args RX6 := T
  have hS : va_S (Bk2 a b) s.heap s.heap [] := va_S.rf
  have hl : lv_has ls 2 [(0, .ref a), (1, .ref b)] := hl
  refine lv_aload_n T.1 T.2.1 dX6_become_0 rfl (lv_at hl 0 rfl) ?_
  refine lv_aload_n T.1 T.2.1 dX6_become_1 rfl (lv_at hl 1 rfl) ?_
  refine g6_zone T hK hP 21 rfl (v := .int (iI (M 0))) rfl mw_1_142 dX6_become_2 ?_
  refine p6_zone T hK hP (two_D K N M hab) hS 0 rfl (Nat.le_of_ble_eq_true rfl) mw_1_142 dX6_become_5 (two_up (Nat.le_of_ble_eq_true rfl) (su_f0 K a N (M 0))) (fun H locs hP hS => ?_)
  obtain ⟨N1, hN1⟩ : ∃ Y0 : Int → Int, Y0 = uZ N 0 (M 0) := ⟨_, rfl⟩
  have hP : xP K (twoW K a N1 b M) H := by rw [hN1]; exact hP
  refine lv_aload_n T.1 T.2.1 dX6_become_8 rfl (lv_at hl 0 rfl) ?_
  refine lv_aload_n T.1 T.2.1 dX6_become_9 rfl (lv_at hl 1 rfl) ?_
  refine g6_day T hK hP 21 rfl (v := .int (iI (M 1))) rfl mw_1_144 dX6_become_10 ?_
  refine p6_day T hK hP (two_D K N1 M hab) hS 0 rfl (Nat.le_of_ble_eq_true rfl) mw_1_144 dX6_become_13 (two_up (Nat.le_of_ble_eq_true rfl) (su_f1 K a N1 (M 1))) (fun H locs hP hS => ?_)
  obtain ⟨N2, hN2⟩ : ∃ Y0 : Int → Int, Y0 = uZ N1 1 (M 1) := ⟨_, rfl⟩
  have hP : xP K (twoW K a N2 b M) H := by rw [hN2]; exact hP
  refine lv_aload_n T.1 T.2.1 dX6_become_16 rfl (lv_at hl 0 rfl) ?_
  refine lv_aload_n T.1 T.2.1 dX6_become_17 rfl (lv_at hl 1 rfl) ?_
  refine g6_goods T hK hP 21 rfl (v := .int (iI (M 5))) rfl mw_1_146 dX6_become_18 ?_
  refine p6_goods T hK hP (two_D K N2 M hab) hS 0 rfl (Nat.le_of_ble_eq_true rfl) mw_1_146 dX6_become_21 (two_up (Nat.le_of_ble_eq_true rfl) (su_f5 K a N2 (M 5))) (fun H locs hP hS => ?_)
  obtain ⟨N3, hN3⟩ : ∃ Y0 : Int → Int, Y0 = uZ N2 5 (M 5) := ⟨_, rfl⟩
  have hP : xP K (twoW K a N3 b M) H := by rw [hN3]; exact hP
  refine lv_aload_n T.1 T.2.1 dX6_become_24 rfl (lv_at hl 1 rfl) ?_
  refine g6_duties T hK hP 21 rfl rfl mw_1_148 dX6_become_25 ?_
  refine xv_iconst T dX6_become_28 ?_
  refine lv_aload_n T.1 T.2.1 dX6_become_29 rfl (lv_at hl 0 rfl) ?_
  refine g6_duties T hK hP 0 rfl rfl mw_1_148 dX6_become_30 ?_
  refine xv_iconst T dX6_become_33 ?_
  refine xv_bipush T dX6_become_34 (by omega) ?_
  refine xa_copyi T hl.1 hK hP (two_D K N3 M hab) hS mw_2_26 22 1 (by omega) (by decide) rfl rfl ⟨Nat.le_of_ble_eq_true rfl, Nat.le_of_ble_eq_true rfl⟩ dX6_become_36 (two_up (Nat.le_of_ble_eq_true rfl) (su_c104 K a N3 M)) (fun H locs hP hS => ?_)
  obtain ⟨N4, hN4⟩ : ∃ Y : Int → Int, Y = cpZ N3 M 104 8 := ⟨_, rfl⟩
  have hP : xP K (twoW K a N4 b M) H := by rw [hN4]; exact hP
  refine lv_aload_n T.1 T.2.1 dX6_become_39 rfl (lv_at hl 1 rfl) ?_
  refine g6_settings T hK hP 21 rfl rfl mw_1_149 dX6_become_40 ?_
  refine xv_iconst T dX6_become_43 ?_
  refine lv_aload_n T.1 T.2.1 dX6_become_44 rfl (lv_at hl 0 rfl) ?_
  refine g6_settings T hK hP 0 rfl rfl mw_1_149 dX6_become_45 ?_
  refine xv_iconst T dX6_become_48 ?_
  refine xv_iconst T dX6_become_49 ?_
  refine xa_copyi T hl.1 hK hP (two_D K N4 M hab) hS mw_2_26 23 2 (by omega) (by decide) rfl rfl ⟨Nat.le_of_ble_eq_true rfl, Nat.le_of_ble_eq_true rfl⟩ dX6_become_50 (two_up (Nat.le_of_ble_eq_true rfl) (su_c2 K a N4 M)) (fun H locs hP hS => ?_)
  obtain ⟨N5, hN5⟩ : ∃ Y : Int → Int, Y = cpZ N4 M 2 2 := ⟨_, rfl⟩
  have hP : xP K (twoW K a N5 b M) H := by rw [hN5]; exact hP
  refine lv_aload_n T.1 T.2.1 dX6_become_53 rfl (lv_at hl 0 rfl) ?_
  refine g6_lockers T hK hP 0 rfl rfl mw_1_151 dX6_become_54 ?_
  refine lv_aload_n T.1 T.2.1 dX6_become_57 rfl (lv_at hl 1 rfl) ?_
  refine g6_lockers T hK hP 21 rfl rfl mw_1_151 dX6_become_58 ?_
  refine cV_V T hK hP hS 3 rfl rfl rfl (c_X2_become l K a N5 b M (by omega)) iX2_become mw_2_29 ⟨Nat.le_of_ble_eq_true rfl, Nat.le_of_ble_eq_true rfl⟩ hP (fun _ h => h) rfl hl.1 rfl (Nat.le_of_ble_eq_true rfl) ⟨Nat.zero_le _, Nat.zero_le _⟩ dX6_become_61 (fun Na H1 locs hNa hP1 hg1 hg2 hS => ?_)
  have hP : xP K (twoW K a Na b M) H1 := hP1
  generalize H1 = H at hP hS ⊢
  clear hg1 hg2 hP1
  refine lv_aload_n T.1 T.2.1 dX6_become_64 rfl (lv_at hl 0 rfl) ?_
  refine g6_seals T hK hP 0 rfl rfl mw_1_153 dX6_become_65 ?_
  refine lv_aload_n T.1 T.2.1 dX6_become_68 rfl (lv_at hl 1 rfl) ?_
  refine g6_seals T hK hP 21 rfl rfl mw_1_153 dX6_become_69 ?_
  refine cV_V T hK hP hS 8 rfl rfl rfl (c_X5_become l K a Na b M (by omega)) iX5_become mw_2_34 ⟨Nat.le_of_ble_eq_true rfl, Nat.le_of_ble_eq_true rfl⟩ hP (fun _ h => h) rfl hl.1 rfl (Nat.le_of_ble_eq_true rfl) ⟨Nat.zero_le _, Nat.zero_le _⟩ dX6_become_72 (fun Nb H1 locs hNb hP1 hg1 hg2 hS => ?_)
  have hP : xP K (twoW K a Nb b M) H1 := hP1
  generalize H1 = H at hP hS ⊢
  clear hg1 hg2 hP1
  refine lv_aload_n T.1 T.2.1 dX6_become_75 rfl (lv_at hl 0 rfl) ?_
  refine g6_bonds T hK hP 0 rfl rfl mw_1_155 dX6_become_76 ?_
  refine lv_aload_n T.1 T.2.1 dX6_become_79 rfl (lv_at hl 1 rfl) ?_
  refine g6_bonds T hK hP 21 rfl rfl mw_1_155 dX6_become_80 ?_
  refine cV_V T hK hP hS 12 rfl rfl rfl (c_X0_become l K a Nb b M (by omega)) iX0_become mw_2_39 ⟨Nat.le_of_ble_eq_true rfl, Nat.le_of_ble_eq_true rfl⟩ hP (fun _ h => h) rfl hl.1 rfl (Nat.le_of_ble_eq_true rfl) ⟨Nat.zero_le _, Nat.zero_le _⟩ dX6_become_83 (fun Nc H1 locs hNc hP1 hg1 hg2 hS => ?_)
  have hP : xP K (twoW K a Nc b M) H1 := hP1
  generalize H1 = H at hP hS ⊢
  clear hg1 hg2 hP1
  refine lv_aload_n T.1 T.2.1 dX6_become_86 rfl (lv_at hl 0 rfl) ?_
  refine g6_releases T hK hP 0 rfl rfl mw_1_157 dX6_become_87 ?_
  refine lv_aload_n T.1 T.2.1 dX6_become_90 rfl (lv_at hl 1 rfl) ?_
  refine g6_releases T hK hP 21 rfl rfl mw_1_157 dX6_become_91 ?_
  refine cV_V T hK hP hS 18 rfl rfl rfl (c_X4_become l K a Nc b M (by omega)) iX4_become mw_2_44 ⟨Nat.le_of_ble_eq_true rfl, Nat.le_of_ble_eq_true rfl⟩ hP (fun _ h => h) rfl hl.1 rfl (Nat.le_of_ble_eq_true rfl) ⟨Nat.zero_le _, Nat.zero_le _⟩ dX6_become_94 (fun Nd H1 locs hNd hP1 hg1 hg2 hS => ?_)
  have hP : xP K (twoW K a Nd b M) H1 := hP1
  generalize H1 = H at hP hS ⊢
  clear hg1 hg2 hP1
  rw [hNd, hNc, hNb, hNa, hN5, hN4, hN3, hN2, hN1] at hP
  have hP : xP K (twoW K a M b M) H := two_bc hP
  exact rV T (u := ()) hr hk hK hP hS dX6_become_97 (trivial)
