set_option maxHeartbeats 4000000 in
set_option maxRecDepth 100000 in
theorem c_X5_putOn (l : Launch) (K : KT) (o : Nat) (N : Int → Int) (lk dy : Int) (r_ns : 0 ≤ N 7 ∧ N 7 < 200) : CtI l yX5_putOn cX5_putOn 3 .int 0 0 K [.ref (o + 8), .int (iI lk), .int (iI dy)] (shipW K o N) (Blk o 21) (fun (z : Int) (u : Int → Int) => z = N 7 + 1 ∧ u = putF N lk dy) (fun u => shipW K o u) := by
  refine CtI_of (by decide) (Nat.le_of_ble_eq_true rfl) ?_
  intro p e s m args below meth c T hr hk hP hK ls hl
  have T : CF p m c cX5_putOn 3 s args RX5 := T
  have hS : va_S (Blk o 21) s.heap s.heap [] := va_S.rf
  have hl : lv_has ls 3 [(0, .ref (o + 8)), (1, .int (iI lk)), (2, .int (iI dy))] := hl
  refine lv_aload_n T.1 T.2.1 dX5_putOn_0 rfl (lv_at hl 0 rfl) ?_
  refine g5_used T hK hP 8 rfl (v := .int (iI (N 7))) rfl mw_1_64 dX5_putOn_1 ?_
  refine xv_sipush T dX5_putOn_4 (by omega) ?_
  refine xv_icmp_lt T (by omega) (tgt := 12) dX5_putOn_7 (by decide) (fun c1 => ?_) (fun c1 => ?_)
  · skip
    refine lv_aload_n T.1 T.2.1 dX5_putOn_12 rfl (lv_at hl 0 rfl) ?_
    refine lv_dup T.1 T.2.1 dX5_putOn_13 rfl ?_
    refine g5_used T hK hP 8 rfl (v := .int (iI (N 7))) rfl mw_1_64 dX5_putOn_14 ?_
    refine xv_iconst T dX5_putOn_17 ?_
    refine xv_iadd T dX5_putOn_18 ?_
    refine p5_used T hK hP (ship_D K o N) hS 8 rfl (Nat.le_of_ble_eq_true rfl) mw_1_64 dX5_putOn_19 (su_f7 K o N (N 7 + 1)) (fun H locs hP hS => ?_)
    obtain ⟨N2, hN2⟩ : ∃ Y0 : Int → Int, Y0 = uZ N 7 (N 7 + 1) := ⟨_, rfl⟩
    have hP : xP K (shipW K o N2) H := by rw [hN2]; exact hP
    refine lv_aload_n T.1 T.2.1 dX5_putOn_22 rfl (lv_at hl 0 rfl) ?_
    refine g5_locker T hK hP 8 rfl rfl mw_1_66 dX5_putOn_23 ?_
    refine lv_aload_n T.1 T.2.1 dX5_putOn_26 rfl (lv_at hl 0 rfl) ?_
    refine g5_used T hK hP 8 rfl (v := .int (iI (N2 7))) rfl mw_1_64 dX5_putOn_27 ?_
    refine xv_cv (b := N 7 + 1) (by rw [hN2, uZ_eq]) ?_
    refine lv_iload_n T.1 T.2.1 dX5_putOn_30 rfl (lv_at hl 1 rfl) ?_
    refine xa_iast T hK hP (ship_D K o N2) hS 9 rfl rfl (by omega) (by decide) dX5_putOn_31 (su_a452 K o N2 (i := 453 + N 7) lk (by omega) (by omega)) (fun H locs hP hS => ?_)
    obtain ⟨N3, hN3⟩ : ∃ Y0 : Int → Int, Y0 = uZ N2 (453 + N 7) lk := ⟨_, rfl⟩
    have hP : xP K (shipW K o N3) H := by rw [hN3]; exact hP
    refine lv_aload_n T.1 T.2.1 dX5_putOn_32 rfl (lv_at hl 0 rfl) ?_
    refine g5_day T hK hP 8 rfl rfl mw_1_68 dX5_putOn_33 ?_
    refine lv_aload_n T.1 T.2.1 dX5_putOn_36 rfl (lv_at hl 0 rfl) ?_
    refine g5_used T hK hP 8 rfl (v := .int (iI (N3 7))) rfl mw_1_64 dX5_putOn_37 ?_
    refine xv_cv (b := N 7 + 1) (by rw [hN3, uZ_ne (by omega), hN2, uZ_eq]) ?_
    refine lv_iload_n T.1 T.2.1 dX5_putOn_40 rfl (lv_at hl 2 rfl) ?_
    refine xa_iast T hK hP (ship_D K o N3) hS 10 rfl rfl (by omega) (by decide) dX5_putOn_41 (su_a653 K o N3 (i := 654 + N 7) dy (by omega) (by omega)) (fun H locs hP hS => ?_)
    obtain ⟨N4, hN4⟩ : ∃ Y0 : Int → Int, Y0 = uZ N3 (654 + N 7) dy := ⟨_, rfl⟩
    have hP : xP K (shipW K o N4) H := by rw [hN4]; exact hP
    refine lv_aload_n T.1 T.2.1 dX5_putOn_42 rfl (lv_at hl 0 rfl) ?_
    refine g5_fate T hK hP 8 rfl rfl mw_1_70 dX5_putOn_43 ?_
    refine lv_aload_n T.1 T.2.1 dX5_putOn_46 rfl (lv_at hl 0 rfl) ?_
    refine g5_used T hK hP 8 rfl (v := .int (iI (N4 7))) rfl mw_1_64 dX5_putOn_47 ?_
    refine xv_cv (b := N 7 + 1) (by rw [hN4, uZ_ne (by omega), hN3, uZ_ne (by omega), hN2, uZ_eq]) ?_
    refine xv_iconst T dX5_putOn_50 ?_
    refine xa_iast T hK hP (ship_D K o N4) hS 11 rfl rfl (by omega) (by decide) dX5_putOn_51 (su_a854 K o N4 (i := 855 + N 7) 0 (by omega) (by omega)) (fun H locs hP hS => ?_)
    obtain ⟨N5, hN5⟩ : ∃ Y0 : Int → Int, Y0 = uZ N4 (855 + N 7) 0 := ⟨_, rfl⟩
    have hP : xP K (shipW K o N5) H := by rw [hN5]; exact hP
    refine lv_aload_n T.1 T.2.1 dX5_putOn_52 rfl (lv_at hl 0 rfl) ?_
    refine g5_used T hK hP 8 rfl (v := .int (iI (N5 7))) rfl mw_1_64 dX5_putOn_53 ?_
    refine xv_cv (b := N 7 + 1) (by rw [hN5, uZ_ne (by omega), hN4, uZ_ne (by omega), hN3, uZ_ne (by omega), hN2, uZ_eq]) ?_
    exact rI T (u := N5) hr hk hK hP hS dX5_putOn_56 (by subst hN5 hN4 hN3 hN2; exact ⟨rfl, rfl⟩)
  · skip
    refine xv_iconst T dX5_putOn_10 ?_
    exact rI T (u := N) hr hk hK hP hS dX5_putOn_11 (by exfalso; omega)
set_option maxHeartbeats 4000000 in
set_option maxRecDepth 100000 in
theorem c_X5_end (l : Launch) (K : KT) (o : Nat) (N : Int → Int) (sl ft : Int) (h_sl : 1 ≤ sl ∧ sl ≤ N 7) (h7 : N 7 ≤ 200) : CtV l yX5_end cX5_end 3 0 0 K [.ref (o + 8), .int (iI sl), .int (iI ft)] (shipW K o N) (Blk o 21) (fun (u : Int → Int) => u = uZ N (854 + sl) ft) (fun u => shipW K o u) := by
  refine CtV_of (by decide) (Nat.le_of_ble_eq_true rfl) ?_
  intro p e s m args below meth c T hr hk hP hK ls hl
  have T : CF p m c cX5_end 3 s args RX5 := T
  have hS : va_S (Blk o 21) s.heap s.heap [] := va_S.rf
  have hl : lv_has ls 3 [(0, .ref (o + 8)), (1, .int (iI sl)), (2, .int (iI ft))] := hl
  refine lv_iload_n T.1 T.2.1 dX5_end_0 rfl (lv_at hl 1 rfl) ?_
  refine xv_iconst T dX5_end_1 ?_
  refine xv_icmp_lt T (by omega) (tgt := 20) dX5_end_2 (by decide) (fun c1 => ?_) (fun c1 => ?_)
  · skip
    exact rV T (u := N) hr hk hK hP hS dX5_end_20 (by exfalso; omega)
  · skip
    refine lv_iload_n T.1 T.2.1 dX5_end_5 rfl (lv_at hl 1 rfl) ?_
    refine lv_aload_n T.1 T.2.1 dX5_end_6 rfl (lv_at hl 0 rfl) ?_
    refine g5_used T hK hP 8 rfl (v := .int (iI (N 7))) rfl mw_1_64 dX5_end_7 ?_
    refine xv_icmp_gt T (by omega) (tgt := 20) dX5_end_10 (by decide) (fun c2 => ?_) (fun c2 => ?_)
    · skip
      exact rV T (u := N) hr hk hK hP hS dX5_end_20 (by exfalso; omega)
    · skip
      refine lv_aload_n T.1 T.2.1 dX5_end_13 rfl (lv_at hl 0 rfl) ?_
      refine g5_fate T hK hP 8 rfl rfl mw_1_70 dX5_end_14 ?_
      refine lv_iload_n T.1 T.2.1 dX5_end_17 rfl (lv_at hl 1 rfl) ?_
      refine lv_iload_n T.1 T.2.1 dX5_end_18 rfl (lv_at hl 2 rfl) ?_
      refine xa_iast T hK hP (ship_D K o N) hS 11 rfl rfl (by omega) (by decide) dX5_end_19 (su_a854 K o N (i := 854 + sl) ft (by omega) (by omega)) (fun H locs hP hS => ?_)
      obtain ⟨N3, hN3⟩ : ∃ Y0 : Int → Int, Y0 = uZ N (854 + sl) ft := ⟨_, rfl⟩
      have hP : xP K (shipW K o N3) H := by rw [hN3]; exact hP
      exact rV T (u := N3) hr hk hK hP hS dX5_end_20 (by subst hN3; rfl)
set_option maxHeartbeats 4000000 in
set_option maxRecDepth 100000 in
theorem c_X0_add (l : Launch) (K : KT) (o : Nat) (N : Int → Int) (gd un dt du : Int) (r_un : -2147483648 ≤ un ∧ un ≤ 2147483647) (r_dt : -2147483648 ≤ dt ∧ dt ≤ 2147483647) (r_nb : 0 ≤ N 6 ∧ N 6 < 60) : CtI l yX0_add cX0_add 6 .int 0 0 K [.ref (o + 12), .int (iI gd), .int (iI un), .int (iI dt), .int (iI du)] (shipW K o N) (Blk o 21) (fun (z : Int) (u : Int → Int) => z = N 6 ∧ u = addF N gd un dt du) (fun u => shipW K o u) := by
  refine CtI_of (by decide) (Nat.le_of_ble_eq_true rfl) ?_
  intro p e s m args below meth c T hr hk hP hK ls hl
  have T : CF p m c cX0_add 6 s args RX0 := T
  have hS : va_S (Blk o 21) s.heap s.heap [] := va_S.rf
  have hl : lv_has ls 6 [(0, .ref (o + 12)), (1, .int (iI gd)), (2, .int (iI un)), (3, .int (iI dt)), (4, .int (iI du))] := hl
  refine lv_aload_n T.1 T.2.1 dX0_add_0 rfl (lv_at hl 0 rfl) ?_
  refine g0_number T hK hP 12 rfl (v := .int (iI (N 6))) rfl mw_1_87 dX0_add_1 ?_
  refine xv_bipush T dX0_add_4 (by omega) ?_
  refine xv_icmp_lt T (by omega) (tgt := 12) dX0_add_6 (by decide) (fun c1 => ?_) (fun c1 => ?_)
  · skip
    refine lv_aload_n T.1 T.2.1 dX0_add_12 rfl (lv_at hl 0 rfl) ?_
    refine g0_number T hK hP 12 rfl (v := .int (iI (N 6))) rfl mw_1_87 dX0_add_13 ?_
    refine lv_istore (lv' := [(5, .int (iI (N 6))), (0, .ref (o + 12)), (1, .int (iI gd)), (2, .int (iI un)), (3, .int (iI dt)), (4, .int (iI du))]) T.1 T.2.1 dX0_add_16 hl (by decide) rfl (fun ls hl => ?_)
    refine lv_aload_n T.1 T.2.1 dX0_add_18 rfl (lv_at hl 1 rfl) ?_
    refine lv_dup T.1 T.2.1 dX0_add_19 rfl ?_
    refine g0_number T hK hP 12 rfl (v := .int (iI (N 6))) rfl mw_1_87 dX0_add_20 ?_
    refine xv_iconst T dX0_add_23 ?_
    refine xv_iadd T dX0_add_24 ?_
    refine p0_number T hK hP (ship_D K o N) hS 12 rfl (Nat.le_of_ble_eq_true rfl) mw_1_87 dX0_add_25 (su_f6 K o N (N 6 + 1)) (fun H locs hP hS => ?_)
    obtain ⟨N2, hN2⟩ : ∃ Y0 : Int → Int, Y0 = uZ N 6 (N 6 + 1) := ⟨_, rfl⟩
    have hP : xP K (shipW K o N2) H := by rw [hN2]; exact hP
    refine lv_aload_n T.1 T.2.1 dX0_add_28 rfl (lv_at hl 1 rfl) ?_
    refine g0_good T hK hP 12 rfl rfl mw_1_93 dX0_add_29 ?_
    refine lv_iload T.1 T.2.1 dX0_add_32 (lv_at hl 0 rfl) ?_
    refine lv_iload_n T.1 T.2.1 dX0_add_34 rfl (lv_at hl 2 rfl) ?_
    refine xa_iast T hK hP (ship_D K o N2) hS 13 rfl rfl (by omega) (by decide) dX0_add_35 (su_a152 K o N2 (i := 152 + N 6) gd (by omega) (by omega)) (fun H locs hP hS => ?_)
    obtain ⟨N3, hN3⟩ : ∃ Y0 : Int → Int, Y0 = uZ N2 (152 + N 6) gd := ⟨_, rfl⟩
    have hP : xP K (shipW K o N3) H := by rw [hN3]; exact hP
    refine lv_aload_n T.1 T.2.1 dX0_add_36 rfl (lv_at hl 1 rfl) ?_
    refine g0_made T hK hP 12 rfl rfl mw_1_96 dX0_add_37 ?_
    refine lv_iload T.1 T.2.1 dX0_add_40 (lv_at hl 0 rfl) ?_
    refine lv_iload_n T.1 T.2.1 dX0_add_42 rfl (lv_at hl 3 rfl) ?_
    refine xa_iast T hK hP (ship_D K o N3) hS 14 rfl rfl (by omega) (by decide) dX0_add_43 (su_a212 K o N3 (i := 212 + N 6) un (by omega) (by omega)) (fun H locs hP hS => ?_)
    obtain ⟨N4, hN4⟩ : ∃ Y0 : Int → Int, Y0 = uZ N3 (212 + N 6) un := ⟨_, rfl⟩
    have hP : xP K (shipW K o N4) H := by rw [hN4]; exact hP
    refine lv_aload_n T.1 T.2.1 dX0_add_44 rfl (lv_at hl 1 rfl) ?_
    refine g0_left T hK hP 12 rfl rfl mw_1_98 dX0_add_45 ?_
    refine lv_iload T.1 T.2.1 dX0_add_48 (lv_at hl 0 rfl) ?_
    refine lv_iload_n T.1 T.2.1 dX0_add_50 rfl (lv_at hl 3 rfl) ?_
    refine xa_iast T hK hP (ship_D K o N4) hS 15 rfl rfl (by omega) (by decide) dX0_add_51 (su_a272 K o N4 (i := 272 + N 6) un (by omega) (by omega)) (fun H locs hP hS => ?_)
    obtain ⟨N5, hN5⟩ : ∃ Y0 : Int → Int, Y0 = uZ N4 (272 + N 6) un := ⟨_, rfl⟩
    have hP : xP K (shipW K o N5) H := by rw [hN5]; exact hP
    refine lv_aload_n T.1 T.2.1 dX0_add_52 rfl (lv_at hl 1 rfl) ?_
    refine g0_duty T hK hP 12 rfl rfl mw_1_101 dX0_add_53 ?_
    refine lv_iload T.1 T.2.1 dX0_add_56 (lv_at hl 0 rfl) ?_
    refine lv_iload_n T.1 T.2.1 dX0_add_58 rfl (lv_at hl 4 rfl) ?_
    refine xa_iast T hK hP (ship_D K o N5) hS 16 rfl rfl (by omega) (by decide) dX0_add_59 (su_a332 K o N5 (i := 332 + N 6) dt (by omega) (by omega)) (fun H locs hP hS => ?_)
    obtain ⟨N6, hN6⟩ : ∃ Y0 : Int → Int, Y0 = uZ N5 (332 + N 6) dt := ⟨_, rfl⟩
    have hP : xP K (shipW K o N6) H := by rw [hN6]; exact hP
    refine lv_aload_n T.1 T.2.1 dX0_add_60 rfl (lv_at hl 1 rfl) ?_
    refine g0_due T hK hP 12 rfl rfl mw_1_103 dX0_add_61 ?_
    refine lv_iload T.1 T.2.1 dX0_add_64 (lv_at hl 0 rfl) ?_
    refine lv_iload T.1 T.2.1 dX0_add_66 (lv_at hl 5 rfl) ?_
    refine xa_iast T hK hP (ship_D K o N6) hS 17 rfl rfl (by omega) (by decide) dX0_add_68 (su_a392 K o N6 (i := 392 + N 6) du (by omega) (by omega)) (fun H locs hP hS => ?_)
    obtain ⟨N7, hN7⟩ : ∃ Y0 : Int → Int, Y0 = uZ N6 (392 + N 6) du := ⟨_, rfl⟩
    have hP : xP K (shipW K o N7) H := by rw [hN7]; exact hP
    refine lv_aload_n T.1 T.2.1 dX0_add_69 rfl (lv_at hl 1 rfl) ?_
    refine lv_dup T.1 T.2.1 dX0_add_70 rfl ?_
    refine g0_amountMade T hK hP 12 rfl (v := .long (lI (N7 9))) rfl mw_1_90 dX0_add_71 ?_
    refine xv_cvL (b := N 9) (by rw [hN7, uZ_ne (by omega), hN6, uZ_ne (by omega), hN5, uZ_ne (by omega), hN4, uZ_ne (by omega), hN3, uZ_ne (by omega), hN2, uZ_ne (by omega)]) ?_
    refine lv_iload_n T.1 T.2.1 dX0_add_74 rfl (lv_at hl 3 rfl) ?_
    refine xv_i2l T (by omega) dX0_add_75 ?_
    refine lv_iload_n T.1 T.2.1 dX0_add_76 rfl (lv_at hl 4 rfl) ?_
    refine xv_i2l T (by omega) dX0_add_77 ?_
    refine xv_lmul T dX0_add_78 ?_
    refine xv_ladd T dX0_add_79 ?_
    refine p0_amountMade T hK hP (ship_D K o N7) hS 12 rfl (Nat.le_of_ble_eq_true rfl) mw_1_90 dX0_add_80 (su_f9 K o N7 (N 9 + (un * dt))) (fun H locs hP hS => ?_)
    obtain ⟨N8, hN8⟩ : ∃ Y0 : Int → Int, Y0 = uZ N7 9 (N 9 + (un * dt)) := ⟨_, rfl⟩
    have hP : xP K (shipW K o N8) H := by rw [hN8]; exact hP
    refine lv_iload T.1 T.2.1 dX0_add_83 (lv_at hl 0 rfl) ?_
    exact rI T (u := N8) hr hk hK hP hS dX0_add_85 (by subst hN8 hN7 hN6 hN5 hN4 hN3 hN2; exact ⟨rfl, rfl⟩)
  · skip
    refine xv_bipush T dX0_add_9 (by omega) ?_
    exact rI T (u := N) hr hk hK hP hS dX0_add_11 (by exfalso; omega)
set_option maxHeartbeats 4000000 in
set_option maxRecDepth 100000 in
theorem c_X4_add (l : Launch) (K : KT) (o : Nat) (N : Int → Int) (gd re un ct : Int) (r_gd : 0 ≤ gd ∧ gd < 8) (r_re : 0 ≤ re ∧ re < 4) : CtV l yX4_add cX4_add 6 1 22 K [.ref (o + 18), .int (iI gd), .int (iI re), .int (iI un), .long (lI ct)] (shipW K o N) (Blk o 21) (fun (u : Int → Int) => u = radF N gd re un ct) (fun u => shipW K o u) := by
  refine CtV_of (by decide) (Nat.le_of_ble_eq_true rfl) ?_
  intro p e s m args below meth c T hr hk hP hK ls hl
  have T : CF p m c cX4_add 6 s args RX4 := T
  have hS : va_S (Blk o 21) s.heap s.heap [] := va_S.rf
  have hl : lv_has ls 6 [(0, .ref (o + 18)), (1, .int (iI gd)), (2, .int (iI re)), (3, .int (iI un)), (4, .long (lI ct))] := hl
  refine lv_aload_n T.1 T.2.1 dX4_add_0 rfl (lv_at hl 0 rfl) ?_
  refine g4_units T hK hP 18 rfl rfl mw_1_130 dX4_add_1 ?_
  refine lv_aload_n T.1 T.2.1 dX4_add_4 rfl (lv_at hl 0 rfl) ?_
  refine lv_iload_n T.1 T.2.1 dX4_add_5 rfl (lv_at hl 1 rfl) ?_
  refine lv_iload_n T.1 T.2.1 dX4_add_6 rfl (lv_at hl 2 rfl) ?_
  refine cI_V T hK hP hS 18 rfl rfl rfl (c_X4_place l K o N gd re ) iX4_place mw_2_172 ⟨Nat.le_of_ble_eq_true rfl, Nat.le_of_ble_eq_true rfl⟩ hP noA rfl hl.1 rfl (Nat.le_of_ble_eq_true rfl) ⟨Nat.zero_le _, Nat.zero_le _⟩ dX4_add_7 (fun z1 _ H1 locs q2 hP1 hg1 hg2 hS => ?_)
  have hP := xP_kept hP hg2
  generalize H1 = H at hP hS ⊢
  clear hg1 hg2 hP1
  obtain rfl : z1 = gd * 4 + re := q2
  refine lv_dup2_11 T.1 T.2.1 dX4_add_10 rfl rfl ?_
  refine xa_iald T hK hP 19 rfl rfl (120 + 4 * gd + re) (by omega) (by omega) (by decide) dX4_add_11 ?_
  refine lv_iload_n T.1 T.2.1 dX4_add_12 rfl (lv_at hl 3 rfl) ?_
  refine xv_iadd T dX4_add_13 ?_
  refine xa_iast T hK hP (ship_D K o N) hS 19 rfl rfl (by omega) (by decide) dX4_add_14 (su_a120 K o N (i := 120 + 4 * gd + re) (N (120 + 4 * gd + re) + un) (by omega) (by omega)) (fun H locs hP hS => ?_)
  obtain ⟨N3, hN3⟩ : ∃ Y0 : Int → Int, Y0 = uZ N (120 + 4 * gd + re) (N (120 + 4 * gd + re) + un) := ⟨_, rfl⟩
  have hP : xP K (shipW K o N3) H := by rw [hN3]; exact hP
  refine lv_aload_n T.1 T.2.1 dX4_add_15 rfl (lv_at hl 0 rfl) ?_
  refine g4_cents T hK hP 18 rfl rfl mw_1_132 dX4_add_16 ?_
  refine lv_iload_n T.1 T.2.1 dX4_add_19 rfl (lv_at hl 2 rfl) ?_
  refine lv_dup2_11 T.1 T.2.1 dX4_add_20 rfl rfl ?_
  refine xa_lald T hK hP 20 rfl rfl (10 + re) (by omega) (by omega) (by decide) dX4_add_21 ?_
  refine xv_cvL (b := N (10 + re)) (by rw [hN3, uZ_ne (by omega)]) ?_
  refine lv_lload T.1 T.2.1 dX4_add_22 (lv_at hl 4 rfl) ?_
  refine xv_ladd T dX4_add_24 ?_
  refine xa_last T hK hP (ship_D K o N3) hS 20 rfl rfl (by omega) (by decide) dX4_add_25 (su_a10 K o N3 (i := 10 + re) (N (10 + re) + ct) (by omega) (by omega)) (fun H locs hP hS => ?_)
  obtain ⟨N4, hN4⟩ : ∃ Y0 : Int → Int, Y0 = uZ N3 (10 + re) (N (10 + re) + ct) := ⟨_, rfl⟩
  have hP : xP K (shipW K o N4) H := by rw [hN4]; exact hP
  exact rV T (u := N4) hr hk hK hP hS dX4_add_26 (by subst hN4 hN3; rfl)
set_option maxHeartbeats 4000000 in
set_option maxRecDepth 100000 in
theorem c_X6_hasLocker (l : Launch) (K : KT) (o : Nat) (N : Int → Int) (lk : Int) (r_lk : -2147483648 ≤ lk ∧ lk ≤ 2147483647) (hI0 : In0 N) : CtI l yX6_hasLocker cX6_hasLocker 2 .boolean 0 0 K [.ref o, .int (iI lk)] (shipW K o N) (NoA) (fun (z : Int) (_ : Unit) => (z = 1 ∧ (0 ≤ lk ∧ lk < N 4)) ∨ (z = 0 ∧ ¬ (0 ≤ lk ∧ lk < N 4))) (fun _ => shipW K o N) := by
  refine CtI_of (by decide) (Nat.le_of_ble_eq_true rfl) ?_
  intro p e s m args below meth c T hr hk hP hK ls hl
  have T : CF p m c cX6_hasLocker 2 s args RX6 := T
  have hS : va_S (NoA) s.heap s.heap [] := va_S.rf
  have hl : lv_has ls 2 [(0, .ref o), (1, .int (iI lk))] := hl
  obtain ⟨b0, b1, b2, b3, b4, b5, b6, b7, b8, b9⟩ := id hI0
  refine lv_iload_n T.1 T.2.1 dX6_hasLocker_0 rfl (lv_at hl 1 rfl) ?_
  refine xv_if_lt T (by omega) (tgt := 19) dX6_hasLocker_1 (by decide) (fun c1 => ?_) (fun c1 => ?_)
  · skip
    refine xv_iconst T dX6_hasLocker_19 ?_
    exact rB T (u := ()) hr hk hK hP hS (by omega) dX6_hasLocker_20 (by omega)
  · skip
    refine lv_iload_n T.1 T.2.1 dX6_hasLocker_4 rfl (lv_at hl 1 rfl) ?_
    refine lv_aload_n T.1 T.2.1 dX6_hasLocker_5 rfl (lv_at hl 0 rfl) ?_
    refine g6_lockers T hK hP 0 rfl rfl mw_1_151 dX6_hasLocker_6 ?_
    refine g2_number T hK hP 3 rfl (v := .int (iI (N 4))) rfl mw_1_32 dX6_hasLocker_9 ?_
    refine xv_icmp_ge T (by omega) (tgt := 19) dX6_hasLocker_12 (by decide) (fun c2 => ?_) (fun c2 => ?_)
    · skip
      refine xv_iconst T dX6_hasLocker_19 ?_
      exact rB T (u := ()) hr hk hK hP hS (by omega) dX6_hasLocker_20 (by omega)
    · skip
      refine xv_iconst T dX6_hasLocker_15 ?_
      refine lv_goto T.1 T.2.1 (tgt := 20) dX6_hasLocker_16 (by decide) ?_
      exact rB T (u := ()) hr hk hK hP hS (by omega) dX6_hasLocker_20 (by omega)
set_option maxHeartbeats 4000000 in
set_option maxRecDepth 100000 in
theorem c_X6_hasGood (l : Launch) (K : KT) (o : Nat) (N : Int → Int) (gd : Int) (r_gd : -2147483648 ≤ gd ∧ gd ≤ 2147483647) (hI0 : In0 N) : CtI l yX6_hasGood cX6_hasGood 2 .boolean 0 0 K [.ref o, .int (iI gd)] (shipW K o N) (NoA) (fun (z : Int) (_ : Unit) => (z = 1 ∧ (0 ≤ gd ∧ gd < N 5)) ∨ (z = 0 ∧ ¬ (0 ≤ gd ∧ gd < N 5))) (fun _ => shipW K o N) := by
  refine CtI_of (by decide) (Nat.le_of_ble_eq_true rfl) ?_
  intro p e s m args below meth c T hr hk hP hK ls hl
  have T : CF p m c cX6_hasGood 2 s args RX6 := T
  have hS : va_S (NoA) s.heap s.heap [] := va_S.rf
  have hl : lv_has ls 2 [(0, .ref o), (1, .int (iI gd))] := hl
  obtain ⟨b0, b1, b2, b3, b4, b5, b6, b7, b8, b9⟩ := id hI0
  refine lv_iload_n T.1 T.2.1 dX6_hasGood_0 rfl (lv_at hl 1 rfl) ?_
  refine xv_if_lt T (by omega) (tgt := 16) dX6_hasGood_1 (by decide) (fun c1 => ?_) (fun c1 => ?_)
  · skip
    refine xv_iconst T dX6_hasGood_16 ?_
    exact rB T (u := ()) hr hk hK hP hS (by omega) dX6_hasGood_17 (by omega)
  · skip
    refine lv_iload_n T.1 T.2.1 dX6_hasGood_4 rfl (lv_at hl 1 rfl) ?_
    refine lv_aload_n T.1 T.2.1 dX6_hasGood_5 rfl (lv_at hl 0 rfl) ?_
    refine g6_goods T hK hP 0 rfl (v := .int (iI (N 5))) rfl mw_1_146 dX6_hasGood_6 ?_
    refine xv_icmp_ge T (by omega) (tgt := 16) dX6_hasGood_9 (by decide) (fun c2 => ?_) (fun c2 => ?_)
    · skip
      refine xv_iconst T dX6_hasGood_16 ?_
      exact rB T (u := ()) hr hk hK hP hS (by omega) dX6_hasGood_17 (by omega)
    · skip
      refine xv_iconst T dX6_hasGood_12 ?_
      refine lv_goto T.1 T.2.1 (tgt := 17) dX6_hasGood_13 (by decide) ?_
      exact rB T (u := ()) hr hk hK hP hS (by omega) dX6_hasGood_17 (by omega)
set_option maxHeartbeats 4000000 in
set_option maxRecDepth 100000 in
theorem c_X6_isDuty (l : Launch) (K : KT) (o : Nat) (N : Int → Int) (dt : Int) (r_dt : -2147483648 ≤ dt ∧ dt ≤ 2147483647) : CtI l yX6_isDuty cX6_isDuty 2 .boolean 0 0 K [.ref o, .int (iI dt)] (shipW K o N) (NoA) (fun (z : Int) (_ : Unit) => (z = 1 ∧ (1 ≤ dt ∧ dt ≤ 1000000)) ∨ (z = 0 ∧ ¬ (1 ≤ dt ∧ dt ≤ 1000000))) (fun _ => shipW K o N) := by
  refine CtI_of (by decide) (Nat.le_of_ble_eq_true rfl) ?_
  intro p e s m args below meth c T hr hk hP hK ls hl
  have T : CF p m c cX6_isDuty 2 s args RX6 := T
  have hS : va_S (NoA) s.heap s.heap [] := va_S.rf
  have hl : lv_has ls 2 [(0, .ref o), (1, .int (iI dt))] := hl
  refine lv_iload_n T.1 T.2.1 dX6_isDuty_0 rfl (lv_at hl 1 rfl) ?_
  refine xv_iconst T dX6_isDuty_1 ?_
  refine xv_icmp_lt T (by omega) (tgt := 15) dX6_isDuty_2 (by decide) (fun c1 => ?_) (fun c1 => ?_)
  · skip
    refine xv_iconst T dX6_isDuty_15 ?_
    exact rB T (u := ()) hr hk hK hP hS (by omega) dX6_isDuty_16 (by omega)
  · skip
    refine lv_iload_n T.1 T.2.1 dX6_isDuty_5 rfl (lv_at hl 1 rfl) ?_
    refine xv_ldc T mw_2_84 (n := 1000000) (by decide +kernel) dX6_isDuty_6 ?_
    refine xv_icmp_gt T (by omega) (tgt := 15) dX6_isDuty_8 (by decide) (fun c2 => ?_) (fun c2 => ?_)
    · skip
      refine xv_iconst T dX6_isDuty_15 ?_
      exact rB T (u := ()) hr hk hK hP hS (by omega) dX6_isDuty_16 (by omega)
    · skip
      refine xv_iconst T dX6_isDuty_11 ?_
      refine lv_goto T.1 T.2.1 (tgt := 16) dX6_isDuty_12 (by decide) ?_
      exact rB T (u := ()) hr hk hK hP hS (by omega) dX6_isDuty_16 (by omega)
set_option maxHeartbeats 4000000 in
set_option maxRecDepth 100000 in
theorem c_X6_canMove (l : Launch) (K : KT) (o : Nat) (N : Int → Int) (lk gd un : Int) (r_lk : -2147483648 ≤ lk ∧ lk ≤ 2147483647) (r_gd : -2147483648 ≤ gd ∧ gd ≤ 2147483647) (r_un : -2147483648 ≤ un ∧ un ≤ 2147483647) (hI0 : In0 N) : CtI l yX6_canMove cX6_canMove 4 .boolean 1 21 K [.ref o, .int (iI lk), .int (iI gd), .int (iI un)] (shipW K o N) (NoA) (fun (z : Int) (_ : Unit) => (z = 1 ∧ ((0 ≤ lk ∧ lk < N 4) ∧ (0 ≤ gd ∧ gd < N 5) ∧ (1 ≤ un ∧ un ≤ 9999))) ∨ (z = 0 ∧ ¬ ((0 ≤ lk ∧ lk < N 4) ∧ (0 ≤ gd ∧ gd < N 5) ∧ (1 ≤ un ∧ un ≤ 9999)))) (fun _ => shipW K o N) := by
  refine CtI_of (by decide) (Nat.le_of_ble_eq_true rfl) ?_
  intro p e s m args below meth c T hr hk hP hK ls hl
  have T : CF p m c cX6_canMove 4 s args RX6 := T
  have hS : va_S (NoA) s.heap s.heap [] := va_S.rf
  have hl : lv_has ls 4 [(0, .ref o), (1, .int (iI lk)), (2, .int (iI gd)), (3, .int (iI un))] := hl
  obtain ⟨b0, b1, b2, b3, b4, b5, b6, b7, b8, b9⟩ := id hI0
  refine lv_aload_n T.1 T.2.1 dX6_canMove_0 rfl (lv_at hl 0 rfl) ?_
  refine lv_iload_n T.1 T.2.1 dX6_canMove_1 rfl (lv_at hl 1 rfl) ?_
  refine cI_V T hK hP hS 0 rfl rfl rfl (c_X6_hasLocker l K o N lk (by omega) (by omega)) iX6_hasLocker mw_2_97 ⟨Nat.le_of_ble_eq_true rfl, Nat.le_of_ble_eq_true rfl⟩ hP noA rfl hl.1 rfl (Nat.le_of_ble_eq_true rfl) ⟨Nat.zero_le _, Nat.zero_le _⟩ dX6_canMove_2 (fun z1 _ H1 locs q2 hP1 hg1 hg2 hS => ?_)
  have hP := xP_kept hP hg2
  generalize H1 = H at hP hS ⊢
  clear hg1 hg2 hP1
  rcases q2 with ⟨rfl, q2⟩ | ⟨rfl, q2⟩
  · skip
    refine xv_if_eq T (by omega) (tgt := 32) dX6_canMove_5 (by decide) (fun c3 => absurd c3 (by omega)) (fun _ => ?_)
    refine lv_aload_n T.1 T.2.1 dX6_canMove_8 rfl (lv_at hl 0 rfl) ?_
    refine lv_iload_n T.1 T.2.1 dX6_canMove_9 rfl (lv_at hl 2 rfl) ?_
    refine cI_V T hK hP hS 0 rfl rfl rfl (c_X6_hasGood l K o N gd (by omega) (by omega)) iX6_hasGood mw_2_101 ⟨Nat.le_of_ble_eq_true rfl, Nat.le_of_ble_eq_true rfl⟩ hP noA rfl hl.1 rfl (Nat.le_of_ble_eq_true rfl) ⟨Nat.zero_le _, Nat.zero_le _⟩ dX6_canMove_10 (fun z4 _ H1 locs q5 hP1 hg1 hg2 hS => ?_)
    have hP := xP_kept hP hg2
    generalize H1 = H at hP hS ⊢
    clear hg1 hg2 hP1
    rcases q5 with ⟨rfl, q5⟩ | ⟨rfl, q5⟩
    · skip
      refine xv_if_eq T (by omega) (tgt := 32) dX6_canMove_13 (by decide) (fun c6 => absurd c6 (by omega)) (fun _ => ?_)
      refine lv_iload_n T.1 T.2.1 dX6_canMove_16 rfl (lv_at hl 3 rfl) ?_
      refine xv_iconst T dX6_canMove_17 ?_
      refine xv_icmp_lt T (by omega) (tgt := 32) dX6_canMove_18 (by decide) (fun c7 => ?_) (fun c7 => ?_)
      · skip
        refine xv_iconst T dX6_canMove_32 ?_
        exact rB T (u := ()) hr hk hK hP hS (by omega) dX6_canMove_33 (by omega)
      · skip
        refine lv_iload_n T.1 T.2.1 dX6_canMove_21 rfl (lv_at hl 3 rfl) ?_
        refine xv_sipush T dX6_canMove_22 (by omega) ?_
        refine xv_icmp_gt T (by omega) (tgt := 32) dX6_canMove_25 (by decide) (fun c8 => ?_) (fun c8 => ?_)
        · skip
          refine xv_iconst T dX6_canMove_32 ?_
          exact rB T (u := ()) hr hk hK hP hS (by omega) dX6_canMove_33 (by omega)
        · skip
          refine xv_iconst T dX6_canMove_28 ?_
          refine lv_goto T.1 T.2.1 (tgt := 33) dX6_canMove_29 (by decide) ?_
          exact rB T (u := ()) hr hk hK hP hS (by omega) dX6_canMove_33 (by omega)
    · skip
      refine xv_if_eq T (by omega) (tgt := 32) dX6_canMove_13 (by decide) (fun _ => ?_) (fun c9 => absurd c9 (by omega))
      refine xv_iconst T dX6_canMove_32 ?_
      exact rB T (u := ()) hr hk hK hP hS (by omega) dX6_canMove_33 (by omega)
  · skip
    refine xv_if_eq T (by omega) (tgt := 32) dX6_canMove_5 (by decide) (fun _ => ?_) (fun c10 => absurd c10 (by omega))
    refine xv_iconst T dX6_canMove_32 ?_
    exact rB T (u := ()) hr hk hK hP hS (by omega) dX6_canMove_33 (by omega)
set_option maxHeartbeats 4000000 in
set_option maxRecDepth 100000 in
theorem c_X6_putSeal (l : Launch) (K : KT) (o : Nat) (N : Int → Int) (lk : Int) (r_lk : 0 ≤ lk ∧ lk < 5) (r_ns : 0 ≤ N 7 ∧ N 7 < 200) : CtV l yX6_putSeal cX6_putSeal 2 1 22 K [.ref o, .int (iI lk)] (shipW K o N) (Blk o 21) (fun (u : Int → Int) => u = sealsF N lk) (fun u => shipW K o u) := by
  refine CtV_of (by decide) (Nat.le_of_ble_eq_true rfl) ?_
  intro p e s m args below meth c T hr hk hP hK ls hl
  have T : CF p m c cX6_putSeal 2 s args RX6 := T
  have hS : va_S (Blk o 21) s.heap s.heap [] := va_S.rf
  have hl : lv_has ls 2 [(0, .ref o), (1, .int (iI lk))] := hl
  refine lv_aload_n T.1 T.2.1 dX6_putSeal_0 rfl (lv_at hl 0 rfl) ?_
  refine g6_lockers T hK hP 0 rfl rfl mw_1_151 dX6_putSeal_1 ?_
  refine g2_state T hK hP 3 rfl rfl mw_1_36 dX6_putSeal_4 ?_
  refine lv_iload_n T.1 T.2.1 dX6_putSeal_7 rfl (lv_at hl 1 rfl) ?_
  refine xv_iconst T dX6_putSeal_8 ?_
  refine xa_iast T hK hP (ship_D K o N) hS 4 rfl rfl (by omega) (by decide) dX6_putSeal_9 (su_a14 K o N (i := 14 + lk) 1 (by omega) (by omega)) (fun H locs hP hS => ?_)
  obtain ⟨Na, hNa⟩ : ∃ Y0 : Int → Int, Y0 = uZ N (14 + lk) 1 := ⟨_, rfl⟩
  have hP : xP K (shipW K o Na) H := by rw [hNa]; exact hP
  refine lv_aload_n T.1 T.2.1 dX6_putSeal_10 rfl (lv_at hl 0 rfl) ?_
  refine g6_lockers T hK hP 0 rfl rfl mw_1_151 dX6_putSeal_11 ?_
  refine g2_seal T hK hP 3 rfl rfl mw_1_39 dX6_putSeal_14 ?_
  refine lv_iload_n T.1 T.2.1 dX6_putSeal_17 rfl (lv_at hl 1 rfl) ?_
  refine lv_aload_n T.1 T.2.1 dX6_putSeal_18 rfl (lv_at hl 0 rfl) ?_
  refine g6_seals T hK hP 0 rfl rfl mw_1_153 dX6_putSeal_19 ?_
  refine lv_iload_n T.1 T.2.1 dX6_putSeal_22 rfl (lv_at hl 1 rfl) ?_
  refine lv_aload_n T.1 T.2.1 dX6_putSeal_23 rfl (lv_at hl 0 rfl) ?_
  refine g6_day T hK hP 0 rfl (v := .int (iI (Na 1))) rfl mw_1_144 dX6_putSeal_24 ?_
  refine xv_cv (b := N 1) (by rw [hNa, uZ_ne (by omega)]) ?_
  refine cI_V T hK hP hS 8 rfl rfl rfl (c_X5_putOn l K o Na lk (N 1) (by rw [hNa, uZ_ne (by omega)]; omega)) iX5_putOn mw_2_61 ⟨Nat.le_of_ble_eq_true rfl, Nat.le_of_ble_eq_true rfl⟩ hP (fun _ h => h) rfl hl.1 rfl (Nat.le_of_ble_eq_true rfl) ⟨Nat.zero_le _, Nat.zero_le _⟩ dX6_putSeal_27 (fun zp Nb H1 locs qp hP1 hg1 hg2 hS => ?_)
  have hP : xP K (shipW K o Nb) H1 := hP1
  generalize H1 = H at hP hS ⊢
  clear hg1 hg2 hP1
  obtain ⟨hz, hNb⟩ := qp
  refine xa_iast T hK hP (ship_D K o Nb) hS 5 rfl rfl (by omega) (by decide) dX6_putSeal_30 (su_a19 K o Nb (i := 19 + lk) zp (by omega) (by omega)) (fun H locs hP hS => ?_)
  obtain ⟨Nc, hNc⟩ : ∃ Y0 : Int → Int, Y0 = uZ Nb (19 + lk) zp := ⟨_, rfl⟩
  have hP : xP K (shipW K o Nc) H := by rw [hNc]; exact hP
  exact rV T (u := Nc) hr hk hK hP hS dX6_putSeal_31 (by rw [hNc, hz, hNb, hNa, show uZ N (14 + lk) 1 7 = N 7 from uZ_ne (by omega)]; exact putF_seals (by omega) (by omega))
set_option maxHeartbeats 4000000 in
set_option maxRecDepth 100000 in
theorem c_X6_sealByOfficer (l : Launch) (K : KT) (o : Nat) (N : Int → Int) (lk : Int) (r_lk : 0 ≤ lk ∧ lk < 5) (r_ns : 0 ≤ N 7 ∧ N 7 < 200) (h_l : (0 ≤ N (14 + lk) ∧ N (14 + lk) ≤ 2) ∧ (0 ≤ N (19 + lk) ∧ N (19 + lk) ≤ N 7) ∧ (N (14 + lk) = 1 → 1 ≤ N (19 + lk))) : CtV l yX6_sealByOfficer cX6_sealByOfficer 2 2 43 K [.ref o, .int (iI lk)] (shipW K o N) (Blk o 21) (fun (u : Int → Int) => u = sealsF (offF N lk 2) lk) (fun u => shipW K o u) := by
  refine CtV_of (by decide) (Nat.le_of_ble_eq_true rfl) ?_
  intro p e s m args below meth c T hr hk hP hK ls hl
  have T : CF p m c cX6_sealByOfficer 2 s args RX6 := T
  have hS : va_S (Blk o 21) s.heap s.heap [] := va_S.rf
  have hl : lv_has ls 2 [(0, .ref o), (1, .int (iI lk))] := hl
  refine lv_aload_n T.1 T.2.1 dX6_sealByOfficer_0 rfl (lv_at hl 0 rfl) ?_
  refine g6_lockers T hK hP 0 rfl rfl mw_1_151 dX6_sealByOfficer_1 ?_
  refine g2_state T hK hP 3 rfl rfl mw_1_36 dX6_sealByOfficer_4 ?_
  refine lv_iload_n T.1 T.2.1 dX6_sealByOfficer_7 rfl (lv_at hl 1 rfl) ?_
  refine xa_iald T hK hP 4 rfl rfl (14 + lk) (by omega) (by omega) (by decide) dX6_sealByOfficer_8 ?_
  refine xv_iconst T dX6_sealByOfficer_9 ?_
  refine xv_icmp_ne T (by omega) (tgt := 30) dX6_sealByOfficer_10 (by decide) (fun c1 => ?_) (fun c1 => ?_)
  · skip
    refine lv_aload_n T.1 T.2.1 dX6_sealByOfficer_30 rfl (lv_at hl 0 rfl) ?_
    refine lv_iload_n T.1 T.2.1 dX6_sealByOfficer_31 rfl (lv_at hl 1 rfl) ?_
    refine cV_V T hK hP hS 0 rfl rfl rfl (c_X6_putSeal l K o N lk (by omega) (by omega)) iX6_putSeal mw_2_57 ⟨Nat.le_of_ble_eq_true rfl, Nat.le_of_ble_eq_true rfl⟩ hP (fun _ h => h) rfl hl.1 rfl (Nat.le_of_ble_eq_true rfl) ⟨Nat.zero_le _, Nat.zero_le _⟩ dX6_sealByOfficer_32 (fun Nb H1 locs qp hP1 hg1 hg2 hS => ?_)
    have hP : xP K (shipW K o Nb) H1 := hP1
    generalize H1 = H at hP hS ⊢
    clear hg1 hg2 hP1
    exact rV T (u := Nb) hr hk hK hP hS dX6_sealByOfficer_35 (by rw [seals_offF (by omega) (by omega) (by omega), if_neg (by assumption), qp])
  · skip
    refine lv_aload_n T.1 T.2.1 dX6_sealByOfficer_13 rfl (lv_at hl 0 rfl) ?_
    refine g6_seals T hK hP 0 rfl rfl mw_1_153 dX6_sealByOfficer_14 ?_
    refine lv_aload_n T.1 T.2.1 dX6_sealByOfficer_17 rfl (lv_at hl 0 rfl) ?_
    refine g6_lockers T hK hP 0 rfl rfl mw_1_151 dX6_sealByOfficer_18 ?_
    refine g2_seal T hK hP 3 rfl rfl mw_1_39 dX6_sealByOfficer_21 ?_
    refine lv_iload_n T.1 T.2.1 dX6_sealByOfficer_24 rfl (lv_at hl 1 rfl) ?_
    refine xa_iald T hK hP 5 rfl rfl (19 + lk) (by omega) (by omega) (by decide) dX6_sealByOfficer_25 ?_
    refine xv_iconst T dX6_sealByOfficer_26 ?_
    refine cV_V T hK hP hS 8 rfl rfl rfl (c_X5_end l K o N (N (19 + lk)) 2 (by omega) (by omega)) iX5_end mw_2_115 ⟨Nat.le_of_ble_eq_true rfl, Nat.le_of_ble_eq_true rfl⟩ hP (fun _ h => h) rfl hl.1 rfl (Nat.le_of_ble_eq_true rfl) ⟨Nat.zero_le _, Nat.zero_le _⟩ dX6_sealByOfficer_27 (fun Na H1 locs hNa hP1 hg1 hg2 hS => ?_)
    have hP : xP K (shipW K o Na) H1 := hP1
    generalize H1 = H at hP hS ⊢
    clear hg1 hg2 hP1
    refine lv_aload_n T.1 T.2.1 dX6_sealByOfficer_30 rfl (lv_at hl 0 rfl) ?_
    refine lv_iload_n T.1 T.2.1 dX6_sealByOfficer_31 rfl (lv_at hl 1 rfl) ?_
    refine cV_V T hK hP hS 0 rfl rfl rfl (c_X6_putSeal l K o Na lk (by omega) (by rw [hNa, uZ_ne (by omega)]; omega)) iX6_putSeal mw_2_57 ⟨Nat.le_of_ble_eq_true rfl, Nat.le_of_ble_eq_true rfl⟩ hP (fun _ h => h) rfl hl.1 rfl (Nat.le_of_ble_eq_true rfl) ⟨Nat.zero_le _, Nat.zero_le _⟩ dX6_sealByOfficer_32 (fun Nb H1 locs qp hP1 hg1 hg2 hS => ?_)
    have hP : xP K (shipW K o Nb) H1 := hP1
    generalize H1 = H at hP hS ⊢
    clear hg1 hg2 hP1
    exact rV T (u := Nb) hr hk hK hP hS dX6_sealByOfficer_35 (by rw [seals_offF (by omega) (by omega) (by omega), if_pos (by assumption), qp, hNa])
set_option maxHeartbeats 4000000 in
set_option maxRecDepth 100000 in
theorem c_X6_sealOpenLockers (l : Launch) (K : KT) (o : Nat) (N : Int → Int) (hI0 : In0 N) (hz0 : ∀ l : Int, 0 ≤ l → l < N 4 → N (14 + l) = 0) (h74 : N 7 + N 4 ≤ 200) : CtI l yX6_sealOpenLockers cX6_sealOpenLockers 3 .int 2 43 K [.ref o] (shipW K o N) (Blk o 21) (fun (z : Int) (u : Int → Int) => z = N 4 ∧ u = soF (N 4).toNat N) (fun u => shipW K o u) := by
  refine CtI_of (by decide) (Nat.le_of_ble_eq_true rfl) ?_
  intro p e s m args below meth c T hr hk hP hK ls hl
  have T : CF p m c cX6_sealOpenLockers 3 s args RX6 := T
  have hS : va_S (Blk o 21) s.heap s.heap [] := va_S.rf
  have hl : lv_has ls 3 [(0, .ref o)] := hl
  obtain ⟨b0, b1, b2, b3, b4, b5, b6, b7, b8, b9⟩ := id hI0
  refine xv_iconst T dX6_sealOpenLockers_0 ?_
  refine lv_istore_n (lv' := [(1, .int (iI 0)), (0, .ref o)]) T.1 T.2.1 dX6_sealOpenLockers_1 rfl hl (by decide) rfl (fun ls hl => ?_)
  refine xv_iconst T dX6_sealOpenLockers_2 ?_
  refine lv_istore_n (lv' := [(2, .int (iI 0)), (1, .int (iI 0)), (0, .ref o)]) T.1 T.2.1 dX6_sealOpenLockers_3 rfl hl (by decide) rfl (fun ls hl => ?_)
  have lp4 : ∀ (fuel : Nat) (acc : Int) (i : Int) (NL : Int → Int) (H : Heap) (locs : List Loc) (ls : Array Slot), (0 ≤ i ∧ i ≤ N 4) → (acc = i) → (NL = soF i.toNat N) → (NL 4 = N 4 ∧ NL 7 = N 7 + i) → (∀ l : Int, i ≤ l → l < N 4 → NL (14 + l) = 0) → N 4 - i < (fuel : Int) → xP K (shipW K o NL) H → va_S (Blk o 21) s.heap H locs → lv_has ls 3 [(0, .ref o), (1, .int (iI acc)), (2, .int (iI i))] → W p l e (rmF 2 43) s m args below meth c H locs 0 0 (MQ below (qI K (fun (z : Int) (u : Int → Int) => z = N 4 ∧ u = soF (N 4).toNat N) (fun u => shipW K o u) (Blk o 21)) args s 0 0 (Blk o 21)) (F0 m 4 ls []) := by
    intro fuel
    induction fuel with
    | zero =>
      intro acc i NL H locs ls hi ha hq h4 hh hm hP hS hl
      exact absurd hm (by omega)
    | succ fuel ih4 =>
      intro acc i NL H locs ls hi ha hq h4 hh hm hP hS hl
      refine lv_iload_n T.1 T.2.1 dX6_sealOpenLockers_4 rfl (lv_at hl 2 rfl) ?_
      refine lv_aload_n T.1 T.2.1 dX6_sealOpenLockers_5 rfl (lv_at hl 0 rfl) ?_
      refine g6_lockers T hK hP 0 rfl rfl mw_1_151 dX6_sealOpenLockers_6 ?_
      refine g2_number T hK hP 3 rfl (v := .int (iI (NL 4))) rfl mw_1_32 dX6_sealOpenLockers_9 ?_
      refine xv_icmp_ge T (by omega) (tgt := 41) dX6_sealOpenLockers_12 (by decide) (fun c1 => ?_) (fun c1 => ?_)
      · skip
        refine lv_iload_n T.1 T.2.1 dX6_sealOpenLockers_41 rfl (lv_at hl 1 rfl) ?_
        exact rI T (u := NL) hr hk hK hP hS dX6_sealOpenLockers_42 (by rw [hq, ha, show i = N 4 by omega]; exact ⟨rfl, rfl⟩)
      · skip
        have h0 := hh i (by omega) (by omega)
        refine lv_aload_n T.1 T.2.1 dX6_sealOpenLockers_15 rfl (lv_at hl 0 rfl) ?_
        refine g6_lockers T hK hP 0 rfl rfl mw_1_151 dX6_sealOpenLockers_16 ?_
        refine g2_state T hK hP 3 rfl rfl mw_1_36 dX6_sealOpenLockers_19 ?_
        refine lv_iload_n T.1 T.2.1 dX6_sealOpenLockers_22 rfl (lv_at hl 2 rfl) ?_
        refine xa_iald T hK hP 4 rfl rfl (14 + i) (by omega) (by omega) (by decide) dX6_sealOpenLockers_23 ?_
        refine xv_if_ne T (by omega) (tgt := 35) dX6_sealOpenLockers_24 (by decide) (fun c2 => ?_) (fun c2 => ?_)
        · exact absurd h0 (by omega)
        · skip
          refine lv_aload_n T.1 T.2.1 dX6_sealOpenLockers_27 rfl (lv_at hl 0 rfl) ?_
          refine lv_iload_n T.1 T.2.1 dX6_sealOpenLockers_28 rfl (lv_at hl 2 rfl) ?_
          refine cV_V T hK hP hS 0 rfl rfl rfl (c_X6_putSeal l K o NL i (by omega) (by omega)) iX6_putSeal mw_2_57 ⟨Nat.le_of_ble_eq_true rfl, Nat.le_of_ble_eq_true rfl⟩ hP (fun _ h => h) rfl hl.1 rfl (Nat.le_of_ble_eq_true rfl) ⟨Nat.zero_le _, Nat.zero_le _⟩ dX6_sealOpenLockers_29 (fun Nb H1 locs qb hP1 hg1 hg2 hS => ?_)
          have hP : xP K (shipW K o Nb) H1 := hP1
          generalize H1 = H at hP hS ⊢
          clear hg1 hg2 hP1
          refine xv_iinc T (y := acc + 1) (lv' := [(1, .int (iI (acc + 1))), (0, .ref o), (2, .int (iI i))]) dX6_sealOpenLockers_32 hl (q := 1) rfl (by omega) (by decide) rfl (fun ls hl => ?_)
          refine xv_iinc T (y := i + 1) (lv' := [(2, .int (iI (i + 1))), (1, .int (iI (acc + 1))), (0, .ref o)]) dX6_sealOpenLockers_35 hl (q := 2) rfl (by omega) (by decide) rfl (fun ls hl => ?_)
          refine lv_goto T.1 T.2.1 (tgt := 4) dX6_sealOpenLockers_38 (by decide) ?_
          exact ih4 (acc + 1) (i + 1) Nb _ _ ls (by omega) (by omega) (by rw [soF_s (by omega), ← hq, qb]) (by rw [qb, sealsF_ne (by omega), sealsF_7 (by omega) (by omega)]; omega) (fun l a b => by rw [qb, sealsF_ne (by omega)]; exact hh l (by omega) b) (by omega) hP hS (lv_sub hl [2, 1, 0] rfl)
  exact lp4 6 0 0 N _ _ ls (by omega) (by omega) rfl ⟨rfl, by omega⟩ (fun l a b => hz0 l (by omega) b) (by omega) hP hS (lv_sub hl [2, 1, 0] rfl)
set_option maxHeartbeats 4000000 in
set_option maxRecDepth 100000 in
theorem c_X6_openLockers (l : Launch) (K : KT) (o : Nat) (N : Int → Int) (hI0 : In0 N) (hIL : InL N) : CtI l yX6_openLockers cX6_openLockers 3 .int 1 22 K [.ref o] (shipW K o N) (Blk o 21) (fun (z : Int) (u : Int → Int) => z = cntF N 1 ∧ u = crF (N 4).toNat N 0 0) (fun u => shipW K o u) := by
  refine CtI_of (by decide) (Nat.le_of_ble_eq_true rfl) ?_
  intro p e s m args below meth c T hr hk hP hK ls hl
  have T : CF p m c cX6_openLockers 3 s args RX6 := T
  have hS : va_S (Blk o 21) s.heap s.heap [] := va_S.rf
  have hl : lv_has ls 3 [(0, .ref o)] := hl
  obtain ⟨b0, b1, b2, b3, b4, b5, b6, b7, b8, b9⟩ := id hI0
  refine xv_iconst T dX6_openLockers_0 ?_
  refine lv_istore_n (lv' := [(1, .int (iI 0)), (0, .ref o)]) T.1 T.2.1 dX6_openLockers_1 rfl hl (by decide) rfl (fun ls hl => ?_)
  refine xv_iconst T dX6_openLockers_2 ?_
  refine lv_istore_n (lv' := [(2, .int (iI 0)), (1, .int (iI 0)), (0, .ref o)]) T.1 T.2.1 dX6_openLockers_3 rfl hl (by decide) rfl (fun ls hl => ?_)
  have lp4 : ∀ (fuel : Nat) (acc : Int) (i : Int) (NL : Int → Int) (H : Heap) (locs : List Loc) (ls : Array Slot), (0 ≤ i ∧ i ≤ N 4) → (acc = sumZ (fun k => if N (14 + k) = 1 then 1 else 0) i.toNat) → (NL = crF i.toNat N 0 0) → (NL 4 = N 4 ∧ NL 7 = N 7) → (∀ l : Int, i ≤ l → l < 5 → NL (14 + l) = N (14 + l) ∧ NL (19 + l) = N (19 + l)) → N 4 - i < (fuel : Int) → xP K (shipW K o NL) H → va_S (Blk o 21) s.heap H locs → lv_has ls 3 [(0, .ref o), (1, .int (iI acc)), (2, .int (iI i))] → W p l e (rmF 1 22) s m args below meth c H locs 0 0 (MQ below (qI K (fun (z : Int) (u : Int → Int) => z = cntF N 1 ∧ u = crF (N 4).toNat N 0 0) (fun u => shipW K o u) (Blk o 21)) args s 0 0 (Blk o 21)) (F0 m 4 ls []) := by
    intro fuel
    induction fuel with
    | zero =>
      intro acc i NL H locs ls hi ha hq h4 hh hm hP hS hl
      exact absurd hm (by omega)
    | succ fuel ih4 =>
      intro acc i NL H locs ls hi ha hq h4 hh hm hP hS hl
      refine lv_iload_n T.1 T.2.1 dX6_openLockers_4 rfl (lv_at hl 2 rfl) ?_
      refine lv_aload_n T.1 T.2.1 dX6_openLockers_5 rfl (lv_at hl 0 rfl) ?_
      refine g6_lockers T hK hP 0 rfl rfl mw_1_151 dX6_openLockers_6 ?_
      refine g2_number T hK hP 3 rfl (v := .int (iI (NL 4))) rfl mw_1_32 dX6_openLockers_9 ?_
      refine xv_icmp_ge T (by omega) (tgt := 64) dX6_openLockers_12 (by decide) (fun c1 => ?_) (fun c1 => ?_)
      · skip
        refine lv_iload_n T.1 T.2.1 dX6_openLockers_64 rfl (lv_at hl 1 rfl) ?_
        exact rI T (u := NL) hr hk hK hP hS dX6_openLockers_65 (by rw [hq, ha, show i = N 4 by omega]; exact ⟨rfl, rfl⟩)
      · skip
        have h0 := hh i (by omega) (by omega)
        have hl0 := hIL i (by omega) (by omega)
        refine lv_aload_n T.1 T.2.1 dX6_openLockers_15 rfl (lv_at hl 0 rfl) ?_
        refine g6_lockers T hK hP 0 rfl rfl mw_1_151 dX6_openLockers_16 ?_
        refine g2_state T hK hP 3 rfl rfl mw_1_36 dX6_openLockers_19 ?_
        refine lv_iload_n T.1 T.2.1 dX6_openLockers_22 rfl (lv_at hl 2 rfl) ?_
        refine xa_iald T hK hP 4 rfl rfl (14 + i) (by omega) (by omega) (by decide) dX6_openLockers_23 ?_
        refine xv_iconst T dX6_openLockers_24 ?_
        refine xv_icmp_ne T (by omega) (tgt := 48) dX6_openLockers_25 (by decide) (fun c2 => ?_) (fun c2 => ?_)
        · skip
          refine lv_aload_n T.1 T.2.1 dX6_openLockers_48 rfl (lv_at hl 0 rfl) ?_
          refine g6_lockers T hK hP 0 rfl rfl mw_1_151 dX6_openLockers_49 ?_
          refine g2_state T hK hP 3 rfl rfl mw_1_36 dX6_openLockers_52 ?_
          refine lv_iload_n T.1 T.2.1 dX6_openLockers_55 rfl (lv_at hl 2 rfl) ?_
          refine xv_iconst T dX6_openLockers_56 ?_
          refine xa_iast T hK hP (ship_D K o NL) hS 4 rfl rfl (by omega) (by decide) dX6_openLockers_57 (su_a14 K o NL (i := 14 + i) 0 (by omega) (by omega)) (fun H locs hP hS => ?_)
          obtain ⟨N3, hN3⟩ : ∃ Y0 : Int → Int, Y0 = uZ NL (14 + i) 0 := ⟨_, rfl⟩
          have hP : xP K (shipW K o N3) H := by rw [hN3]; exact hP
          refine xv_iinc T (y := i + 1) (lv' := [(2, .int (iI (i + 1))), (0, .ref o), (1, .int (iI acc))]) dX6_openLockers_58 hl (q := 2) rfl (by omega) (by decide) rfl (fun ls hl => ?_)
          refine lv_goto T.1 T.2.1 (tgt := 4) dX6_openLockers_61 (by decide) ?_
          exact ih4 acc (i + 1) N3 _ _ ls (by omega) (by rw [sumZ_step (by omega), ← ha]; first | rw [if_pos (by omega)] | (rw [if_neg (by omega)]; omega)) (by rw [crF_s (by omega), if_pos rfl, ← hq, hN3]; unfold offF; rw [if_neg (by omega)]) (by rw [hN3, uZ_ne (by omega), uZ_ne (by omega)]; exact h4) (fun l a b => by rw [hN3, uZ_ne (by omega), uZ_ne (by omega)]; exact hh l (by omega) b) (by omega) hP hS (lv_sub hl [1, 2, 0] rfl)
        · skip
          refine lv_aload_n T.1 T.2.1 dX6_openLockers_28 rfl (lv_at hl 0 rfl) ?_
          refine g6_seals T hK hP 0 rfl rfl mw_1_153 dX6_openLockers_29 ?_
          refine lv_aload_n T.1 T.2.1 dX6_openLockers_32 rfl (lv_at hl 0 rfl) ?_
          refine g6_lockers T hK hP 0 rfl rfl mw_1_151 dX6_openLockers_33 ?_
          refine g2_seal T hK hP 3 rfl rfl mw_1_39 dX6_openLockers_36 ?_
          refine lv_iload_n T.1 T.2.1 dX6_openLockers_39 rfl (lv_at hl 2 rfl) ?_
          refine xa_iald T hK hP 5 rfl rfl (19 + i) (by omega) (by omega) (by decide) dX6_openLockers_40 ?_
          refine xv_iconst T dX6_openLockers_41 ?_
          refine cV_V T hK hP hS 8 rfl rfl rfl (c_X5_end l K o NL (NL (19 + i)) 1 (by omega) (by omega)) iX5_end mw_2_115 ⟨Nat.le_of_ble_eq_true rfl, Nat.le_of_ble_eq_true rfl⟩ hP (fun _ h => h) rfl hl.1 rfl (Nat.le_of_ble_eq_true rfl) ⟨Nat.zero_le _, Nat.zero_le _⟩ dX6_openLockers_42 (fun Na H1 locs hNa hP1 hg1 hg2 hS => ?_)
          have hP : xP K (shipW K o Na) H1 := hP1
          generalize H1 = H at hP hS ⊢
          clear hg1 hg2 hP1
          refine xv_iinc T (y := acc + 1) (lv' := [(1, .int (iI (acc + 1))), (0, .ref o), (2, .int (iI i))]) dX6_openLockers_45 hl (q := 1) rfl (by omega) (by decide) rfl (fun ls hl => ?_)
          refine lv_aload_n T.1 T.2.1 dX6_openLockers_48 rfl (lv_at hl 1 rfl) ?_
          refine g6_lockers T hK hP 0 rfl rfl mw_1_151 dX6_openLockers_49 ?_
          refine g2_state T hK hP 3 rfl rfl mw_1_36 dX6_openLockers_52 ?_
          refine lv_iload_n T.1 T.2.1 dX6_openLockers_55 rfl (lv_at hl 2 rfl) ?_
          refine xv_iconst T dX6_openLockers_56 ?_
          refine xa_iast T hK hP (ship_D K o Na) hS 4 rfl rfl (by omega) (by decide) dX6_openLockers_57 (su_a14 K o Na (i := 14 + i) 0 (by omega) (by omega)) (fun H locs hP hS => ?_)
          obtain ⟨N5, hN5⟩ : ∃ Y0 : Int → Int, Y0 = uZ Na (14 + i) 0 := ⟨_, rfl⟩
          have hP : xP K (shipW K o N5) H := by rw [hN5]; exact hP
          refine xv_iinc T (y := i + 1) (lv' := [(2, .int (iI (i + 1))), (1, .int (iI (acc + 1))), (0, .ref o)]) dX6_openLockers_58 hl (q := 2) rfl (by omega) (by decide) rfl (fun ls hl => ?_)
          refine lv_goto T.1 T.2.1 (tgt := 4) dX6_openLockers_61 (by decide) ?_
          exact ih4 (acc + 1) (i + 1) N5 _ _ ls (by omega) (by rw [sumZ_step (by omega), ← ha]; first | rw [if_pos (by omega)] | (rw [if_neg (by omega)]; omega)) (by rw [crF_s (by omega), if_pos rfl, ← hq, hN5, hNa]; unfold offF; rw [if_pos (by omega), uZ_uZ]) (by rw [hN5, uZ_ne (by omega), uZ_ne (by omega), hNa, uZ_ne (by omega), uZ_ne (by omega)]; exact h4) (fun l a b => by rw [hN5, uZ_ne (by omega), uZ_ne (by omega), hNa, uZ_ne (by omega), uZ_ne (by omega)]; exact hh l (by omega) b) (by omega) hP hS (lv_sub hl [2, 1, 0] rfl)
  exact lp4 6 0 0 N _ _ ls (by omega) rfl rfl ⟨rfl, rfl⟩ (fun l a b => ⟨rfl, rfl⟩) (by omega) hP hS (lv_sub hl [2, 1, 0] rfl)
