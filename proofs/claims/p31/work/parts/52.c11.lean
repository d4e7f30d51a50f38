set_option maxHeartbeats 4000000 in
set_option maxRecDepth 100000 in
theorem c_X7_locker (l : Launch) (K : KT) (o : Nat) (N M : Int → Int) (R : Nat → Int → Int) (G L NU TT : Int → Int) (hI : Inv N) (hG : (0 ≤ G 0 ∧ G 0 ≤ 4) ∧ (0 ≤ G 1 ∧ G 1 ≤ 4)) : CtI l yX7_locker cX7_locker 1 .int 4 103 K [.ref o] (xW K o N M R G L NU TT) (Blk o 153) (fun (z : Int) (u : (Int → Int) × (Nat → Int → Int) × (Int → Int)) => (z, u.1) = sLocker N ∧ u.2.1 = upR R (spF G).toNat N ∧ u.2.2 = fiG G z) (fun u => xW K o u.1 M u.2.1 u.2.2 L NU TT) := by
  refine CtI_of (by decide) (Nat.le_of_ble_eq_true rfl) ?_
  intro p e s m args below meth c T hr hk hP hK ls hl
  have T : CF p m c cX7_locker 1 s args RX7 := T
  have hS : va_S (Blk o 153) s.heap s.heap [] := va_S.rf
  have hl : lv_has ls 1 [(0, .ref o)] := hl
  refine lv_aload_n T.1 T.2.1 dX7_locker_0 rfl (lv_at hl 0 rfl) ?_
  refine g7_history T hK hP 0 rfl rfl mw_1_239 dX7_locker_1 ?_
  refine lv_aload_n T.1 T.2.1 dX7_locker_4 rfl (lv_at hl 0 rfl) ?_
  refine g7_ship T hK hP 0 rfl rfl mw_1_237 dX7_locker_5 ?_
  refine cV_V T hK hP hS 1 rfl rfl rfl (c_X1_prepare l K o N M R G L NU TT (by omega)) iX1_prepare mw_2_14 ⟨Nat.le_of_ble_eq_true rfl, Nat.le_of_ble_eq_true rfl⟩ hP (fun _ h => h) rfl hl.1 rfl (Nat.le_of_ble_eq_true rfl) ⟨Nat.zero_le _, Nat.zero_le _⟩ dX7_locker_8 (fun N3 H1 locs q2 hP1 hg1 hg2 hS => ?_)
  have hP : xP K (xW K o N M (upR R (spF G).toNat N) G L NU TT) H1 := hP1
  generalize H1 = H at hP hS ⊢
  clear hg1 hg2 hP1
  refine lv_aload_n T.1 T.2.1 dX7_locker_11 rfl (lv_at hl 0 rfl) ?_
  refine g7_history T hK hP 0 rfl rfl mw_1_239 dX7_locker_12 ?_
  refine lv_aload_n T.1 T.2.1 dX7_locker_15 rfl (lv_at hl 0 rfl) ?_
  refine g7_ship T hK hP 0 rfl rfl mw_1_237 dX7_locker_16 ?_
  refine cI_V T hK hP hS 6 rfl rfl rfl (c_X6_addLocker l K (o + 1) N hI) iX6_addLocker mw_2_49 ⟨Nat.le_of_ble_eq_true rfl, Nat.le_of_ble_eq_true rfl⟩ (xW_3 hP) (fun _ a => blk_in (by omega) a) rfl hl.1 rfl (Nat.le_of_ble_eq_true rfl) ⟨Nat.zero_le _, Nat.zero_le _⟩ dX7_locker_19 (fun zo uo H1 locs qo hP1 hg1 hg2 hS => ?_)
  have hP : xP K (xW K o uo M (upR R (spF G).toNat N) G L NU TT) H1 := xW_mk (xP_out (xW_0 hP) (top_D _) (fun _ a b => blk_x (by omega) a b) hg2) (xP_out (xW_1 hP) (hist_D _ _ _) (fun _ a b => blk_x (by omega) a b) hg2) (xP_out (xW_2 hP) (log_D _ _ _ _ _) (fun _ a b => blk_x (by omega) a b) hg2) (hP1) (xP_out (xW_4 hP) (ship_D _ _ _) (fun _ a b => blk_x (by omega) a b) hg2) (xP_out (xW_5 hP) (ring_D _ _ _) (fun _ a b => blk_x (by omega) a b) hg2)
  generalize H1 = H at hP hS ⊢
  clear hg1 hg2 hP1
  refine cI_V T hK hP hS 1 rfl rfl rfl (c_X1_finish l K (o + 43) G zo (by omega)) iX1_finish mw_2_65 ⟨Nat.le_of_ble_eq_true rfl, Nat.le_of_ble_eq_true rfl⟩ (xW_1 hP) (fun _ a => blk_in (by omega) a) rfl hl.1 rfl (Nat.le_of_ble_eq_true rfl) ⟨Nat.zero_le _, Nat.zero_le _⟩ dX7_locker_22 (fun zf uf H1 locs qf hP1 hg1 hg2 hS => ?_)
  have hP : xP K (xW K o uo M (upR R (spF G).toNat N) uf L NU TT) H1 := xW_mk (xP_out (xW_0 hP) (top_D _) (fun _ a b => blk_x (by omega) a b) hg2) (hP1) (xP_out (xW_2 hP) (log_D _ _ _ _ _) (fun _ a b => blk_x (by omega) a b) hg2) (xP_out (xW_3 hP) (ship_D _ _ _) (fun _ a b => blk_x (by omega) a b) hg2) (xP_out (xW_4 hP) (ship_D _ _ _) (fun _ a b => blk_x (by omega) a b) hg2) (xP_out (xW_5 hP) (ring_D _ _ _) (fun _ a b => blk_x (by omega) a b) hg2)
  generalize H1 = H at hP hS ⊢
  clear hg1 hg2 hP1
  exact rI T (u := (uo, (upR R (spF G).toNat N), uf)) hr hk hK hP hS dX7_locker_25 (⟨by rw [qf.1]; exact qo, rfl, by rw [qf.2, qf.1]⟩)
set_option maxHeartbeats 4000000 in
set_option maxRecDepth 100000 in
theorem c_X7_good (l : Launch) (K : KT) (o : Nat) (N M : Int → Int) (R : Nat → Int → Int) (G L NU TT : Int → Int) (dt : Int) (r_dt : -2147483648 ≤ dt ∧ dt ≤ 2147483647) (hI : Inv N) (hG : (0 ≤ G 0 ∧ G 0 ≤ 4) ∧ (0 ≤ G 1 ∧ G 1 ≤ 4)) : CtI l yX7_good cX7_good 2 .int 4 103 K [.ref o, .int (iI dt)] (xW K o N M R G L NU TT) (Blk o 153) (fun (z : Int) (u : (Int → Int) × (Nat → Int → Int) × (Int → Int)) => (z, u.1) = sGood N dt ∧ u.2.1 = upR R (spF G).toNat N ∧ u.2.2 = fiG G z) (fun u => xW K o u.1 M u.2.1 u.2.2 L NU TT) := by
  refine CtI_of (by decide) (Nat.le_of_ble_eq_true rfl) ?_
  intro p e s m args below meth c T hr hk hP hK ls hl
  have T : CF p m c cX7_good 2 s args RX7 := T
  have hS : va_S (Blk o 153) s.heap s.heap [] := va_S.rf
  have hl : lv_has ls 2 [(0, .ref o), (1, .int (iI dt))] := hl
  refine lv_aload_n T.1 T.2.1 dX7_good_0 rfl (lv_at hl 0 rfl) ?_
  refine g7_history T hK hP 0 rfl rfl mw_1_239 dX7_good_1 ?_
  refine lv_aload_n T.1 T.2.1 dX7_good_4 rfl (lv_at hl 0 rfl) ?_
  refine g7_ship T hK hP 0 rfl rfl mw_1_237 dX7_good_5 ?_
  refine cV_V T hK hP hS 1 rfl rfl rfl (c_X1_prepare l K o N M R G L NU TT (by omega)) iX1_prepare mw_2_14 ⟨Nat.le_of_ble_eq_true rfl, Nat.le_of_ble_eq_true rfl⟩ hP (fun _ h => h) rfl hl.1 rfl (Nat.le_of_ble_eq_true rfl) ⟨Nat.zero_le _, Nat.zero_le _⟩ dX7_good_8 (fun N3 H1 locs q2 hP1 hg1 hg2 hS => ?_)
  have hP : xP K (xW K o N M (upR R (spF G).toNat N) G L NU TT) H1 := hP1
  generalize H1 = H at hP hS ⊢
  clear hg1 hg2 hP1
  refine lv_aload_n T.1 T.2.1 dX7_good_11 rfl (lv_at hl 0 rfl) ?_
  refine g7_history T hK hP 0 rfl rfl mw_1_239 dX7_good_12 ?_
  refine lv_aload_n T.1 T.2.1 dX7_good_15 rfl (lv_at hl 0 rfl) ?_
  refine g7_ship T hK hP 0 rfl rfl mw_1_237 dX7_good_16 ?_
  refine lv_iload_n T.1 T.2.1 dX7_good_19 rfl (lv_at hl 1 rfl) ?_
  refine cI_V T hK hP hS 6 rfl rfl rfl (c_X6_addGood l K (o + 1) N dt (by omega) hI) iX6_addGood mw_2_76 ⟨Nat.le_of_ble_eq_true rfl, Nat.le_of_ble_eq_true rfl⟩ (xW_3 hP) (fun _ a => blk_in (by omega) a) rfl hl.1 rfl (Nat.le_of_ble_eq_true rfl) ⟨Nat.zero_le _, Nat.zero_le _⟩ dX7_good_20 (fun zo uo H1 locs qo hP1 hg1 hg2 hS => ?_)
  have hP : xP K (xW K o uo M (upR R (spF G).toNat N) G L NU TT) H1 := xW_mk (xP_out (xW_0 hP) (top_D _) (fun _ a b => blk_x (by omega) a b) hg2) (xP_out (xW_1 hP) (hist_D _ _ _) (fun _ a b => blk_x (by omega) a b) hg2) (xP_out (xW_2 hP) (log_D _ _ _ _ _) (fun _ a b => blk_x (by omega) a b) hg2) (hP1) (xP_out (xW_4 hP) (ship_D _ _ _) (fun _ a b => blk_x (by omega) a b) hg2) (xP_out (xW_5 hP) (ring_D _ _ _) (fun _ a b => blk_x (by omega) a b) hg2)
  generalize H1 = H at hP hS ⊢
  clear hg1 hg2 hP1
  refine cI_V T hK hP hS 1 rfl rfl rfl (c_X1_finish l K (o + 43) G zo (by omega)) iX1_finish mw_2_65 ⟨Nat.le_of_ble_eq_true rfl, Nat.le_of_ble_eq_true rfl⟩ (xW_1 hP) (fun _ a => blk_in (by omega) a) rfl hl.1 rfl (Nat.le_of_ble_eq_true rfl) ⟨Nat.zero_le _, Nat.zero_le _⟩ dX7_good_23 (fun zf uf H1 locs qf hP1 hg1 hg2 hS => ?_)
  have hP : xP K (xW K o uo M (upR R (spF G).toNat N) uf L NU TT) H1 := xW_mk (xP_out (xW_0 hP) (top_D _) (fun _ a b => blk_x (by omega) a b) hg2) (hP1) (xP_out (xW_2 hP) (log_D _ _ _ _ _) (fun _ a b => blk_x (by omega) a b) hg2) (xP_out (xW_3 hP) (ship_D _ _ _) (fun _ a b => blk_x (by omega) a b) hg2) (xP_out (xW_4 hP) (ship_D _ _ _) (fun _ a b => blk_x (by omega) a b) hg2) (xP_out (xW_5 hP) (ring_D _ _ _) (fun _ a b => blk_x (by omega) a b) hg2)
  generalize H1 = H at hP hS ⊢
  clear hg1 hg2 hP1
  exact rI T (u := (uo, (upR R (spF G).toNat N), uf)) hr hk hK hP hS dX7_good_26 (⟨by rw [qf.1]; exact qo, rfl, by rw [qf.2, qf.1]⟩)
set_option maxHeartbeats 4000000 in
set_option maxRecDepth 100000 in
theorem c_X7_duty (l : Launch) (K : KT) (o : Nat) (N M : Int → Int) (R : Nat → Int → Int) (G L NU TT : Int → Int) (gd dt : Int) (r_gd : -2147483648 ≤ gd ∧ gd ≤ 2147483647) (r_dt : -2147483648 ≤ dt ∧ dt ≤ 2147483647) (hI : Inv N) (hG : (0 ≤ G 0 ∧ G 0 ≤ 4) ∧ (0 ≤ G 1 ∧ G 1 ≤ 4)) : CtI l yX7_duty cX7_duty 3 .int 4 103 K [.ref o, .int (iI gd), .int (iI dt)] (xW K o N M R G L NU TT) (Blk o 153) (fun (z : Int) (u : (Int → Int) × (Nat → Int → Int) × (Int → Int)) => (z, u.1) = sDuty N gd dt ∧ u.2.1 = upR R (spF G).toNat N ∧ u.2.2 = fiG G z) (fun u => xW K o u.1 M u.2.1 u.2.2 L NU TT) := by
  refine CtI_of (by decide) (Nat.le_of_ble_eq_true rfl) ?_
  intro p e s m args below meth c T hr hk hP hK ls hl
  have T : CF p m c cX7_duty 3 s args RX7 := T
  have hS : va_S (Blk o 153) s.heap s.heap [] := va_S.rf
  have hl : lv_has ls 3 [(0, .ref o), (1, .int (iI gd)), (2, .int (iI dt))] := hl
  refine lv_aload_n T.1 T.2.1 dX7_duty_0 rfl (lv_at hl 0 rfl) ?_
  refine g7_history T hK hP 0 rfl rfl mw_1_239 dX7_duty_1 ?_
  refine lv_aload_n T.1 T.2.1 dX7_duty_4 rfl (lv_at hl 0 rfl) ?_
  refine g7_ship T hK hP 0 rfl rfl mw_1_237 dX7_duty_5 ?_
  refine cV_V T hK hP hS 1 rfl rfl rfl (c_X1_prepare l K o N M R G L NU TT (by omega)) iX1_prepare mw_2_14 ⟨Nat.le_of_ble_eq_true rfl, Nat.le_of_ble_eq_true rfl⟩ hP (fun _ h => h) rfl hl.1 rfl (Nat.le_of_ble_eq_true rfl) ⟨Nat.zero_le _, Nat.zero_le _⟩ dX7_duty_8 (fun N3 H1 locs q2 hP1 hg1 hg2 hS => ?_)
  have hP : xP K (xW K o N M (upR R (spF G).toNat N) G L NU TT) H1 := hP1
  generalize H1 = H at hP hS ⊢
  clear hg1 hg2 hP1
  refine lv_aload_n T.1 T.2.1 dX7_duty_11 rfl (lv_at hl 0 rfl) ?_
  refine g7_history T hK hP 0 rfl rfl mw_1_239 dX7_duty_12 ?_
  refine lv_aload_n T.1 T.2.1 dX7_duty_15 rfl (lv_at hl 0 rfl) ?_
  refine g7_ship T hK hP 0 rfl rfl mw_1_237 dX7_duty_16 ?_
  refine lv_iload_n T.1 T.2.1 dX7_duty_19 rfl (lv_at hl 1 rfl) ?_
  refine lv_iload_n T.1 T.2.1 dX7_duty_20 rfl (lv_at hl 2 rfl) ?_
  refine cI_V T hK hP hS 6 rfl rfl rfl (c_X6_changeDuty l K (o + 1) N gd dt (by omega) (by omega) hI) iX6_changeDuty mw_3_160 ⟨Nat.le_of_ble_eq_true rfl, Nat.le_of_ble_eq_true rfl⟩ (xW_3 hP) (fun _ a => blk_in (by omega) a) rfl hl.1 rfl (Nat.le_of_ble_eq_true rfl) ⟨Nat.zero_le _, Nat.zero_le _⟩ dX7_duty_21 (fun zo uo H1 locs qo hP1 hg1 hg2 hS => ?_)
  have hP : xP K (xW K o uo M (upR R (spF G).toNat N) G L NU TT) H1 := xW_mk (xP_out (xW_0 hP) (top_D _) (fun _ a b => blk_x (by omega) a b) hg2) (xP_out (xW_1 hP) (hist_D _ _ _) (fun _ a b => blk_x (by omega) a b) hg2) (xP_out (xW_2 hP) (log_D _ _ _ _ _) (fun _ a b => blk_x (by omega) a b) hg2) (hP1) (xP_out (xW_4 hP) (ship_D _ _ _) (fun _ a b => blk_x (by omega) a b) hg2) (xP_out (xW_5 hP) (ring_D _ _ _) (fun _ a b => blk_x (by omega) a b) hg2)
  generalize H1 = H at hP hS ⊢
  clear hg1 hg2 hP1
  refine cI_V T hK hP hS 1 rfl rfl rfl (c_X1_finish l K (o + 43) G zo (by omega)) iX1_finish mw_2_65 ⟨Nat.le_of_ble_eq_true rfl, Nat.le_of_ble_eq_true rfl⟩ (xW_1 hP) (fun _ a => blk_in (by omega) a) rfl hl.1 rfl (Nat.le_of_ble_eq_true rfl) ⟨Nat.zero_le _, Nat.zero_le _⟩ dX7_duty_24 (fun zf uf H1 locs qf hP1 hg1 hg2 hS => ?_)
  have hP : xP K (xW K o uo M (upR R (spF G).toNat N) uf L NU TT) H1 := xW_mk (xP_out (xW_0 hP) (top_D _) (fun _ a b => blk_x (by omega) a b) hg2) (hP1) (xP_out (xW_2 hP) (log_D _ _ _ _ _) (fun _ a b => blk_x (by omega) a b) hg2) (xP_out (xW_3 hP) (ship_D _ _ _) (fun _ a b => blk_x (by omega) a b) hg2) (xP_out (xW_4 hP) (ship_D _ _ _) (fun _ a b => blk_x (by omega) a b) hg2) (xP_out (xW_5 hP) (ring_D _ _ _) (fun _ a b => blk_x (by omega) a b) hg2)
  generalize H1 = H at hP hS ⊢
  clear hg1 hg2 hP1
  exact rI T (u := (uo, (upR R (spF G).toNat N), uf)) hr hk hK hP hS dX7_duty_27 (⟨by rw [qf.1]; exact qo, rfl, by rw [qf.2, qf.1]⟩)
set_option maxHeartbeats 4000000 in
set_option maxRecDepth 100000 in
theorem c_X7_load (l : Launch) (K : KT) (o : Nat) (N M : Int → Int) (R : Nat → Int → Int) (G L NU TT : Int → Int) (lk gd un : Int) (r_lk : -2147483648 ≤ lk ∧ lk ≤ 2147483647) (r_gd : -2147483648 ≤ gd ∧ gd ≤ 2147483647) (r_un : -2147483648 ≤ un ∧ un ≤ 2147483647) (hI : Inv N) (hG : (0 ≤ G 0 ∧ G 0 ≤ 4) ∧ (0 ≤ G 1 ∧ G 1 ≤ 4)) : CtI l yX7_load cX7_load 4 .int 4 103 K [.ref o, .int (iI lk), .int (iI gd), .int (iI un)] (xW K o N M R G L NU TT) (Blk o 153) (fun (z : Int) (u : (Int → Int) × (Nat → Int → Int) × (Int → Int)) => (z, u.1) = sLoad N lk gd un ∧ u.2.1 = upR R (spF G).toNat N ∧ u.2.2 = fiG G z) (fun u => xW K o u.1 M u.2.1 u.2.2 L NU TT) := by
  refine CtI_of (by decide) (Nat.le_of_ble_eq_true rfl) ?_
  intro p e s m args below meth c T hr hk hP hK ls hl
  have T : CF p m c cX7_load 4 s args RX7 := T
  have hS : va_S (Blk o 153) s.heap s.heap [] := va_S.rf
  have hl : lv_has ls 4 [(0, .ref o), (1, .int (iI lk)), (2, .int (iI gd)), (3, .int (iI un))] := hl
  refine lv_aload_n T.1 T.2.1 dX7_load_0 rfl (lv_at hl 0 rfl) ?_
  refine g7_history T hK hP 0 rfl rfl mw_1_239 dX7_load_1 ?_
  refine lv_aload_n T.1 T.2.1 dX7_load_4 rfl (lv_at hl 0 rfl) ?_
  refine g7_ship T hK hP 0 rfl rfl mw_1_237 dX7_load_5 ?_
  refine cV_V T hK hP hS 1 rfl rfl rfl (c_X1_prepare l K o N M R G L NU TT (by omega)) iX1_prepare mw_2_14 ⟨Nat.le_of_ble_eq_true rfl, Nat.le_of_ble_eq_true rfl⟩ hP (fun _ h => h) rfl hl.1 rfl (Nat.le_of_ble_eq_true rfl) ⟨Nat.zero_le _, Nat.zero_le _⟩ dX7_load_8 (fun N3 H1 locs q2 hP1 hg1 hg2 hS => ?_)
  have hP : xP K (xW K o N M (upR R (spF G).toNat N) G L NU TT) H1 := hP1
  generalize H1 = H at hP hS ⊢
  clear hg1 hg2 hP1
  refine lv_aload_n T.1 T.2.1 dX7_load_11 rfl (lv_at hl 0 rfl) ?_
  refine g7_history T hK hP 0 rfl rfl mw_1_239 dX7_load_12 ?_
  refine lv_aload_n T.1 T.2.1 dX7_load_15 rfl (lv_at hl 0 rfl) ?_
  refine g7_ship T hK hP 0 rfl rfl mw_1_237 dX7_load_16 ?_
  refine lv_iload_n T.1 T.2.1 dX7_load_19 rfl (lv_at hl 1 rfl) ?_
  refine lv_iload_n T.1 T.2.1 dX7_load_20 rfl (lv_at hl 2 rfl) ?_
  refine lv_iload_n T.1 T.2.1 dX7_load_21 rfl (lv_at hl 3 rfl) ?_
  refine cI_V T hK hP hS 6 rfl rfl rfl (c_X6_loadUnits l K (o + 1) N lk gd un (by omega) (by omega) (by omega) hI) iX6_loadUnits mw_2_89 ⟨Nat.le_of_ble_eq_true rfl, Nat.le_of_ble_eq_true rfl⟩ (xW_3 hP) (fun _ a => blk_in (by omega) a) rfl hl.1 rfl (Nat.le_of_ble_eq_true rfl) ⟨Nat.zero_le _, Nat.zero_le _⟩ dX7_load_22 (fun zo uo H1 locs qo hP1 hg1 hg2 hS => ?_)
  have hP : xP K (xW K o uo M (upR R (spF G).toNat N) G L NU TT) H1 := xW_mk (xP_out (xW_0 hP) (top_D _) (fun _ a b => blk_x (by omega) a b) hg2) (xP_out (xW_1 hP) (hist_D _ _ _) (fun _ a b => blk_x (by omega) a b) hg2) (xP_out (xW_2 hP) (log_D _ _ _ _ _) (fun _ a b => blk_x (by omega) a b) hg2) (hP1) (xP_out (xW_4 hP) (ship_D _ _ _) (fun _ a b => blk_x (by omega) a b) hg2) (xP_out (xW_5 hP) (ring_D _ _ _) (fun _ a b => blk_x (by omega) a b) hg2)
  generalize H1 = H at hP hS ⊢
  clear hg1 hg2 hP1
  refine cI_V T hK hP hS 1 rfl rfl rfl (c_X1_finish l K (o + 43) G zo (by omega)) iX1_finish mw_2_65 ⟨Nat.le_of_ble_eq_true rfl, Nat.le_of_ble_eq_true rfl⟩ (xW_1 hP) (fun _ a => blk_in (by omega) a) rfl hl.1 rfl (Nat.le_of_ble_eq_true rfl) ⟨Nat.zero_le _, Nat.zero_le _⟩ dX7_load_25 (fun zf uf H1 locs qf hP1 hg1 hg2 hS => ?_)
  have hP : xP K (xW K o uo M (upR R (spF G).toNat N) uf L NU TT) H1 := xW_mk (xP_out (xW_0 hP) (top_D _) (fun _ a b => blk_x (by omega) a b) hg2) (hP1) (xP_out (xW_2 hP) (log_D _ _ _ _ _) (fun _ a b => blk_x (by omega) a b) hg2) (xP_out (xW_3 hP) (ship_D _ _ _) (fun _ a b => blk_x (by omega) a b) hg2) (xP_out (xW_4 hP) (ship_D _ _ _) (fun _ a b => blk_x (by omega) a b) hg2) (xP_out (xW_5 hP) (ring_D _ _ _) (fun _ a b => blk_x (by omega) a b) hg2)
  generalize H1 = H at hP hS ⊢
  clear hg1 hg2 hP1
  exact rI T (u := (uo, (upR R (spF G).toNat N), uf)) hr hk hK hP hS dX7_load_28 (⟨by rw [qf.1]; exact qo, rfl, by rw [qf.2, qf.1]⟩)
set_option maxHeartbeats 4000000 in
set_option maxRecDepth 100000 in
theorem c_X7_use (l : Launch) (K : KT) (o : Nat) (N M : Int → Int) (R : Nat → Int → Int) (G L NU TT : Int → Int) (lk gd un : Int) (r_lk : -2147483648 ≤ lk ∧ lk ≤ 2147483647) (r_gd : -2147483648 ≤ gd ∧ gd ≤ 2147483647) (r_un : -2147483648 ≤ un ∧ un ≤ 2147483647) (hI : Inv N) (hG : (0 ≤ G 0 ∧ G 0 ≤ 4) ∧ (0 ≤ G 1 ∧ G 1 ≤ 4)) : CtI l yX7_use cX7_use 4 .int 4 107 K [.ref o, .int (iI lk), .int (iI gd), .int (iI un)] (xW K o N M R G L NU TT) (Blk o 153) (fun (z : Int) (u : (Int → Int) × (Nat → Int → Int) × (Int → Int)) => (z, u.1) = sUse N lk gd un ∧ u.2.1 = upR R (spF G).toNat N ∧ u.2.2 = fiG G z) (fun u => xW K o u.1 M u.2.1 u.2.2 L NU TT) := by
  refine CtI_of (by decide) (Nat.le_of_ble_eq_true rfl) ?_
  intro p e s m args below meth c T hr hk hP hK ls hl
  have T : CF p m c cX7_use 4 s args RX7 := T
  have hS : va_S (Blk o 153) s.heap s.heap [] := va_S.rf
  have hl : lv_has ls 4 [(0, .ref o), (1, .int (iI lk)), (2, .int (iI gd)), (3, .int (iI un))] := hl
  refine lv_aload_n T.1 T.2.1 dX7_use_0 rfl (lv_at hl 0 rfl) ?_
  refine g7_history T hK hP 0 rfl rfl mw_1_239 dX7_use_1 ?_
  refine lv_aload_n T.1 T.2.1 dX7_use_4 rfl (lv_at hl 0 rfl) ?_
  refine g7_ship T hK hP 0 rfl rfl mw_1_237 dX7_use_5 ?_
  refine cV_V T hK hP hS 1 rfl rfl rfl (c_X1_prepare l K o N M R G L NU TT (by omega)) iX1_prepare mw_2_14 ⟨Nat.le_of_ble_eq_true rfl, Nat.le_of_ble_eq_true rfl⟩ hP (fun _ h => h) rfl hl.1 rfl (Nat.le_of_ble_eq_true rfl) ⟨Nat.zero_le _, Nat.zero_le _⟩ dX7_use_8 (fun N3 H1 locs q2 hP1 hg1 hg2 hS => ?_)
  have hP : xP K (xW K o N M (upR R (spF G).toNat N) G L NU TT) H1 := hP1
  generalize H1 = H at hP hS ⊢
  clear hg1 hg2 hP1
  refine lv_aload_n T.1 T.2.1 dX7_use_11 rfl (lv_at hl 0 rfl) ?_
  refine g7_history T hK hP 0 rfl rfl mw_1_239 dX7_use_12 ?_
  refine lv_aload_n T.1 T.2.1 dX7_use_15 rfl (lv_at hl 0 rfl) ?_
  refine g7_ship T hK hP 0 rfl rfl mw_1_237 dX7_use_16 ?_
  refine lv_iload_n T.1 T.2.1 dX7_use_19 rfl (lv_at hl 1 rfl) ?_
  refine lv_iload_n T.1 T.2.1 dX7_use_20 rfl (lv_at hl 2 rfl) ?_
  refine lv_iload_n T.1 T.2.1 dX7_use_21 rfl (lv_at hl 3 rfl) ?_
  refine cI_V T hK hP hS 6 rfl rfl rfl (c_X6_useUnits l K (o + 1) N lk gd un (by omega) (by omega) (by omega) hI) iX6_useUnits mw_2_151 ⟨Nat.le_of_ble_eq_true rfl, Nat.le_of_ble_eq_true rfl⟩ (xW_3 hP) (fun _ a => blk_in (by omega) a) rfl hl.1 rfl (Nat.le_of_ble_eq_true rfl) ⟨Nat.zero_le _, Nat.zero_le _⟩ dX7_use_22 (fun zo uo H1 locs qo hP1 hg1 hg2 hS => ?_)
  have hP : xP K (xW K o uo M (upR R (spF G).toNat N) G L NU TT) H1 := xW_mk (xP_out (xW_0 hP) (top_D _) (fun _ a b => blk_x (by omega) a b) hg2) (xP_out (xW_1 hP) (hist_D _ _ _) (fun _ a b => blk_x (by omega) a b) hg2) (xP_out (xW_2 hP) (log_D _ _ _ _ _) (fun _ a b => blk_x (by omega) a b) hg2) (hP1) (xP_out (xW_4 hP) (ship_D _ _ _) (fun _ a b => blk_x (by omega) a b) hg2) (xP_out (xW_5 hP) (ring_D _ _ _) (fun _ a b => blk_x (by omega) a b) hg2)
  generalize H1 = H at hP hS ⊢
  clear hg1 hg2 hP1
  refine cI_V T hK hP hS 1 rfl rfl rfl (c_X1_finish l K (o + 43) G zo (by omega)) iX1_finish mw_2_65 ⟨Nat.le_of_ble_eq_true rfl, Nat.le_of_ble_eq_true rfl⟩ (xW_1 hP) (fun _ a => blk_in (by omega) a) rfl hl.1 rfl (Nat.le_of_ble_eq_true rfl) ⟨Nat.zero_le _, Nat.zero_le _⟩ dX7_use_25 (fun zf uf H1 locs qf hP1 hg1 hg2 hS => ?_)
  have hP : xP K (xW K o uo M (upR R (spF G).toNat N) uf L NU TT) H1 := xW_mk (xP_out (xW_0 hP) (top_D _) (fun _ a b => blk_x (by omega) a b) hg2) (hP1) (xP_out (xW_2 hP) (log_D _ _ _ _ _) (fun _ a b => blk_x (by omega) a b) hg2) (xP_out (xW_3 hP) (ship_D _ _ _) (fun _ a b => blk_x (by omega) a b) hg2) (xP_out (xW_4 hP) (ship_D _ _ _) (fun _ a b => blk_x (by omega) a b) hg2) (xP_out (xW_5 hP) (ring_D _ _ _) (fun _ a b => blk_x (by omega) a b) hg2)
  generalize H1 = H at hP hS ⊢
  clear hg1 hg2 hP1
  exact rI T (u := (uo, (upR R (spF G).toNat N), uf)) hr hk hK hP hS dX7_use_28 (⟨by rw [qf.1]; exact qo, rfl, by rw [qf.2, qf.1]⟩)
set_option maxHeartbeats 4000000 in
set_option maxRecDepth 100000 in
theorem c_X7_bring (l : Launch) (K : KT) (o : Nat) (N M : Int → Int) (R : Nat → Int → Int) (G L NU TT : Int → Int) (lk gd un : Int) (r_lk : -2147483648 ≤ lk ∧ lk ≤ 2147483647) (r_gd : -2147483648 ≤ gd ∧ gd ≤ 2147483647) (r_un : -2147483648 ≤ un ∧ un ≤ 2147483647) (hI : Inv N) (hG : (0 ≤ G 0 ∧ G 0 ≤ 4) ∧ (0 ≤ G 1 ∧ G 1 ≤ 4)) : CtI l yX7_bring cX7_bring 4 .int 4 107 K [.ref o, .int (iI lk), .int (iI gd), .int (iI un)] (xW K o N M R G L NU TT) (Blk o 153) (fun (z : Int) (u : (Int → Int) × (Nat → Int → Int) × (Int → Int)) => (z, u.1) = sBring N lk gd un ∧ u.2.1 = upR R (spF G).toNat N ∧ u.2.2 = fiG G z) (fun u => xW K o u.1 M u.2.1 u.2.2 L NU TT) := by
  refine CtI_of (by decide) (Nat.le_of_ble_eq_true rfl) ?_
  intro p e s m args below meth c T hr hk hP hK ls hl
  have T : CF p m c cX7_bring 4 s args RX7 := T
  have hS : va_S (Blk o 153) s.heap s.heap [] := va_S.rf
  have hl : lv_has ls 4 [(0, .ref o), (1, .int (iI lk)), (2, .int (iI gd)), (3, .int (iI un))] := hl
  refine lv_aload_n T.1 T.2.1 dX7_bring_0 rfl (lv_at hl 0 rfl) ?_
  refine g7_history T hK hP 0 rfl rfl mw_1_239 dX7_bring_1 ?_
  refine lv_aload_n T.1 T.2.1 dX7_bring_4 rfl (lv_at hl 0 rfl) ?_
  refine g7_ship T hK hP 0 rfl rfl mw_1_237 dX7_bring_5 ?_
  refine cV_V T hK hP hS 1 rfl rfl rfl (c_X1_prepare l K o N M R G L NU TT (by omega)) iX1_prepare mw_2_14 ⟨Nat.le_of_ble_eq_true rfl, Nat.le_of_ble_eq_true rfl⟩ hP (fun _ h => h) rfl hl.1 rfl (Nat.le_of_ble_eq_true rfl) ⟨Nat.zero_le _, Nat.zero_le _⟩ dX7_bring_8 (fun N3 H1 locs q2 hP1 hg1 hg2 hS => ?_)
  have hP : xP K (xW K o N M (upR R (spF G).toNat N) G L NU TT) H1 := hP1
  generalize H1 = H at hP hS ⊢
  clear hg1 hg2 hP1
  refine lv_aload_n T.1 T.2.1 dX7_bring_11 rfl (lv_at hl 0 rfl) ?_
  refine g7_history T hK hP 0 rfl rfl mw_1_239 dX7_bring_12 ?_
  refine lv_aload_n T.1 T.2.1 dX7_bring_15 rfl (lv_at hl 0 rfl) ?_
  refine g7_ship T hK hP 0 rfl rfl mw_1_237 dX7_bring_16 ?_
  refine lv_iload_n T.1 T.2.1 dX7_bring_19 rfl (lv_at hl 1 rfl) ?_
  refine lv_iload_n T.1 T.2.1 dX7_bring_20 rfl (lv_at hl 2 rfl) ?_
  refine lv_iload_n T.1 T.2.1 dX7_bring_21 rfl (lv_at hl 3 rfl) ?_
  refine cI_V T hK hP hS 6 rfl rfl rfl (c_X6_returnUnits l K (o + 1) N lk gd un (by omega) (by omega) (by omega) hI) iX6_returnUnits mw_2_180 ⟨Nat.le_of_ble_eq_true rfl, Nat.le_of_ble_eq_true rfl⟩ (xW_3 hP) (fun _ a => blk_in (by omega) a) rfl hl.1 rfl (Nat.le_of_ble_eq_true rfl) ⟨Nat.zero_le _, Nat.zero_le _⟩ dX7_bring_22 (fun zo uo H1 locs qo hP1 hg1 hg2 hS => ?_)
  have hP : xP K (xW K o uo M (upR R (spF G).toNat N) G L NU TT) H1 := xW_mk (xP_out (xW_0 hP) (top_D _) (fun _ a b => blk_x (by omega) a b) hg2) (xP_out (xW_1 hP) (hist_D _ _ _) (fun _ a b => blk_x (by omega) a b) hg2) (xP_out (xW_2 hP) (log_D _ _ _ _ _) (fun _ a b => blk_x (by omega) a b) hg2) (hP1) (xP_out (xW_4 hP) (ship_D _ _ _) (fun _ a b => blk_x (by omega) a b) hg2) (xP_out (xW_5 hP) (ring_D _ _ _) (fun _ a b => blk_x (by omega) a b) hg2)
  generalize H1 = H at hP hS ⊢
  clear hg1 hg2 hP1
  refine cI_V T hK hP hS 1 rfl rfl rfl (c_X1_finish l K (o + 43) G zo (by omega)) iX1_finish mw_2_65 ⟨Nat.le_of_ble_eq_true rfl, Nat.le_of_ble_eq_true rfl⟩ (xW_1 hP) (fun _ a => blk_in (by omega) a) rfl hl.1 rfl (Nat.le_of_ble_eq_true rfl) ⟨Nat.zero_le _, Nat.zero_le _⟩ dX7_bring_25 (fun zf uf H1 locs qf hP1 hg1 hg2 hS => ?_)
  have hP : xP K (xW K o uo M (upR R (spF G).toNat N) uf L NU TT) H1 := xW_mk (xP_out (xW_0 hP) (top_D _) (fun _ a b => blk_x (by omega) a b) hg2) (hP1) (xP_out (xW_2 hP) (log_D _ _ _ _ _) (fun _ a b => blk_x (by omega) a b) hg2) (xP_out (xW_3 hP) (ship_D _ _ _) (fun _ a b => blk_x (by omega) a b) hg2) (xP_out (xW_4 hP) (ship_D _ _ _) (fun _ a b => blk_x (by omega) a b) hg2) (xP_out (xW_5 hP) (ring_D _ _ _) (fun _ a b => blk_x (by omega) a b) hg2)
  generalize H1 = H at hP hS ⊢
  clear hg1 hg2 hP1
  exact rI T (u := (uo, (upR R (spF G).toNat N), uf)) hr hk hK hP hS dX7_bring_28 (⟨by rw [qf.1]; exact qo, rfl, by rw [qf.2, qf.1]⟩)
set_option maxHeartbeats 4000000 in
set_option maxRecDepth 100000 in
theorem c_X7_smash (l : Launch) (K : KT) (o : Nat) (N M : Int → Int) (R : Nat → Int → Int) (G L NU TT : Int → Int) (lk gd un wt : Int) (r_lk : -2147483648 ≤ lk ∧ lk ≤ 2147483647) (r_gd : -2147483648 ≤ gd ∧ gd ≤ 2147483647) (r_un : -2147483648 ≤ un ∧ un ≤ 2147483647) (r_wt : -2147483648 ≤ wt ∧ wt ≤ 2147483647) (hI : Inv N) (hG : (0 ≤ G 0 ∧ G 0 ≤ 4) ∧ (0 ≤ G 1 ∧ G 1 ≤ 4)) : CtI l yX7_smash cX7_smash 5 .int 4 108 K [.ref o, .int (iI lk), .int (iI gd), .int (iI un), .int (iI wt)] (xW K o N M R G L NU TT) (Blk o 153) (fun (z : Int) (u : (Int → Int) × (Nat → Int → Int) × (Int → Int)) => (z, u.1) = sSmash N lk gd un wt ∧ u.2.1 = upR R (spF G).toNat N ∧ u.2.2 = fiG G z) (fun u => xW K o u.1 M u.2.1 u.2.2 L NU TT) := by
  refine CtI_of (by decide) (Nat.le_of_ble_eq_true rfl) ?_
  intro p e s m args below meth c T hr hk hP hK ls hl
  have T : CF p m c cX7_smash 5 s args RX7 := T
  have hS : va_S (Blk o 153) s.heap s.heap [] := va_S.rf
  have hl : lv_has ls 5 [(0, .ref o), (1, .int (iI lk)), (2, .int (iI gd)), (3, .int (iI un)), (4, .int (iI wt))] := hl
  refine lv_aload_n T.1 T.2.1 dX7_smash_0 rfl (lv_at hl 0 rfl) ?_
  refine g7_history T hK hP 0 rfl rfl mw_1_239 dX7_smash_1 ?_
  refine lv_aload_n T.1 T.2.1 dX7_smash_4 rfl (lv_at hl 0 rfl) ?_
  refine g7_ship T hK hP 0 rfl rfl mw_1_237 dX7_smash_5 ?_
  refine cV_V T hK hP hS 1 rfl rfl rfl (c_X1_prepare l K o N M R G L NU TT (by omega)) iX1_prepare mw_2_14 ⟨Nat.le_of_ble_eq_true rfl, Nat.le_of_ble_eq_true rfl⟩ hP (fun _ h => h) rfl hl.1 rfl (Nat.le_of_ble_eq_true rfl) ⟨Nat.zero_le _, Nat.zero_le _⟩ dX7_smash_8 (fun N3 H1 locs q2 hP1 hg1 hg2 hS => ?_)
  have hP : xP K (xW K o N M (upR R (spF G).toNat N) G L NU TT) H1 := hP1
  generalize H1 = H at hP hS ⊢
  clear hg1 hg2 hP1
  refine lv_aload_n T.1 T.2.1 dX7_smash_11 rfl (lv_at hl 0 rfl) ?_
  refine g7_history T hK hP 0 rfl rfl mw_1_239 dX7_smash_12 ?_
  refine lv_aload_n T.1 T.2.1 dX7_smash_15 rfl (lv_at hl 0 rfl) ?_
  refine g7_ship T hK hP 0 rfl rfl mw_1_237 dX7_smash_16 ?_
  refine lv_iload_n T.1 T.2.1 dX7_smash_19 rfl (lv_at hl 1 rfl) ?_
  refine lv_iload_n T.1 T.2.1 dX7_smash_20 rfl (lv_at hl 2 rfl) ?_
  refine lv_iload_n T.1 T.2.1 dX7_smash_21 rfl (lv_at hl 3 rfl) ?_
  refine lv_iload T.1 T.2.1 dX7_smash_22 (lv_at hl 4 rfl) ?_
  refine cI_V T hK hP hS 6 rfl rfl rfl (c_X6_breakUnits l K (o + 1) N lk gd un wt (by omega) (by omega) (by omega) (by omega) hI) iX6_breakUnits mw_2_188 ⟨Nat.le_of_ble_eq_true rfl, Nat.le_of_ble_eq_true rfl⟩ (xW_3 hP) (fun _ a => blk_in (by omega) a) rfl hl.1 rfl (Nat.le_of_ble_eq_true rfl) ⟨Nat.zero_le _, Nat.zero_le _⟩ dX7_smash_24 (fun zo uo H1 locs qo hP1 hg1 hg2 hS => ?_)
  have hP : xP K (xW K o uo M (upR R (spF G).toNat N) G L NU TT) H1 := xW_mk (xP_out (xW_0 hP) (top_D _) (fun _ a b => blk_x (by omega) a b) hg2) (xP_out (xW_1 hP) (hist_D _ _ _) (fun _ a b => blk_x (by omega) a b) hg2) (xP_out (xW_2 hP) (log_D _ _ _ _ _) (fun _ a b => blk_x (by omega) a b) hg2) (hP1) (xP_out (xW_4 hP) (ship_D _ _ _) (fun _ a b => blk_x (by omega) a b) hg2) (xP_out (xW_5 hP) (ring_D _ _ _) (fun _ a b => blk_x (by omega) a b) hg2)
  generalize H1 = H at hP hS ⊢
  clear hg1 hg2 hP1
  refine cI_V T hK hP hS 1 rfl rfl rfl (c_X1_finish l K (o + 43) G zo (by omega)) iX1_finish mw_2_65 ⟨Nat.le_of_ble_eq_true rfl, Nat.le_of_ble_eq_true rfl⟩ (xW_1 hP) (fun _ a => blk_in (by omega) a) rfl hl.1 rfl (Nat.le_of_ble_eq_true rfl) ⟨Nat.zero_le _, Nat.zero_le _⟩ dX7_smash_27 (fun zf uf H1 locs qf hP1 hg1 hg2 hS => ?_)
  have hP : xP K (xW K o uo M (upR R (spF G).toNat N) uf L NU TT) H1 := xW_mk (xP_out (xW_0 hP) (top_D _) (fun _ a b => blk_x (by omega) a b) hg2) (hP1) (xP_out (xW_2 hP) (log_D _ _ _ _ _) (fun _ a b => blk_x (by omega) a b) hg2) (xP_out (xW_3 hP) (ship_D _ _ _) (fun _ a b => blk_x (by omega) a b) hg2) (xP_out (xW_4 hP) (ship_D _ _ _) (fun _ a b => blk_x (by omega) a b) hg2) (xP_out (xW_5 hP) (ring_D _ _ _) (fun _ a b => blk_x (by omega) a b) hg2)
  generalize H1 = H at hP hS ⊢
  clear hg1 hg2 hP1
  exact rI T (u := (uo, (upR R (spF G).toNat N), uf)) hr hk hK hP hS dX7_smash_30 (⟨by rw [qf.1]; exact qo, rfl, by rw [qf.2, qf.1]⟩)
set_option maxHeartbeats 4000000 in
set_option maxRecDepth 100000 in
theorem c_X7_tear (l : Launch) (K : KT) (o : Nat) (N M : Int → Int) (R : Nat → Int → Int) (G L NU TT : Int → Int) (lk : Int) (r_lk : -2147483648 ≤ lk ∧ lk ≤ 2147483647) (hI : Inv N) (hG : (0 ≤ G 0 ∧ G 0 ≤ 4) ∧ (0 ≤ G 1 ∧ G 1 ≤ 4)) : CtI l yX7_tear cX7_tear 2 .int 4 103 K [.ref o, .int (iI lk)] (xW K o N M R G L NU TT) (Blk o 153) (fun (z : Int) (u : (Int → Int) × (Nat → Int → Int) × (Int → Int)) => (z, u.1) = sTear N lk ∧ u.2.1 = upR R (spF G).toNat N ∧ u.2.2 = fiG G z) (fun u => xW K o u.1 M u.2.1 u.2.2 L NU TT) := by
  refine CtI_of (by decide) (Nat.le_of_ble_eq_true rfl) ?_
  intro p e s m args below meth c T hr hk hP hK ls hl
  have T : CF p m c cX7_tear 2 s args RX7 := T
  have hS : va_S (Blk o 153) s.heap s.heap [] := va_S.rf
  have hl : lv_has ls 2 [(0, .ref o), (1, .int (iI lk))] := hl
  refine lv_aload_n T.1 T.2.1 dX7_tear_0 rfl (lv_at hl 0 rfl) ?_
  refine g7_history T hK hP 0 rfl rfl mw_1_239 dX7_tear_1 ?_
  refine lv_aload_n T.1 T.2.1 dX7_tear_4 rfl (lv_at hl 0 rfl) ?_
  refine g7_ship T hK hP 0 rfl rfl mw_1_237 dX7_tear_5 ?_
  refine cV_V T hK hP hS 1 rfl rfl rfl (c_X1_prepare l K o N M R G L NU TT (by omega)) iX1_prepare mw_2_14 ⟨Nat.le_of_ble_eq_true rfl, Nat.le_of_ble_eq_true rfl⟩ hP (fun _ h => h) rfl hl.1 rfl (Nat.le_of_ble_eq_true rfl) ⟨Nat.zero_le _, Nat.zero_le _⟩ dX7_tear_8 (fun N3 H1 locs q2 hP1 hg1 hg2 hS => ?_)
  have hP : xP K (xW K o N M (upR R (spF G).toNat N) G L NU TT) H1 := hP1
  generalize H1 = H at hP hS ⊢
  clear hg1 hg2 hP1
  refine lv_aload_n T.1 T.2.1 dX7_tear_11 rfl (lv_at hl 0 rfl) ?_
  refine g7_history T hK hP 0 rfl rfl mw_1_239 dX7_tear_12 ?_
  refine lv_aload_n T.1 T.2.1 dX7_tear_15 rfl (lv_at hl 0 rfl) ?_
  refine g7_ship T hK hP 0 rfl rfl mw_1_237 dX7_tear_16 ?_
  refine lv_iload_n T.1 T.2.1 dX7_tear_19 rfl (lv_at hl 1 rfl) ?_
  refine cI_V T hK hP hS 6 rfl rfl rfl (c_X6_tearSeal l K (o + 1) N lk (by omega) hI) iX6_tearSeal mw_2_196 ⟨Nat.le_of_ble_eq_true rfl, Nat.le_of_ble_eq_true rfl⟩ (xW_3 hP) (fun _ a => blk_in (by omega) a) rfl hl.1 rfl (Nat.le_of_ble_eq_true rfl) ⟨Nat.zero_le _, Nat.zero_le _⟩ dX7_tear_20 (fun zo uo H1 locs qo hP1 hg1 hg2 hS => ?_)
  have hP : xP K (xW K o uo M (upR R (spF G).toNat N) G L NU TT) H1 := xW_mk (xP_out (xW_0 hP) (top_D _) (fun _ a b => blk_x (by omega) a b) hg2) (xP_out (xW_1 hP) (hist_D _ _ _) (fun _ a b => blk_x (by omega) a b) hg2) (xP_out (xW_2 hP) (log_D _ _ _ _ _) (fun _ a b => blk_x (by omega) a b) hg2) (hP1) (xP_out (xW_4 hP) (ship_D _ _ _) (fun _ a b => blk_x (by omega) a b) hg2) (xP_out (xW_5 hP) (ring_D _ _ _) (fun _ a b => blk_x (by omega) a b) hg2)
  generalize H1 = H at hP hS ⊢
  clear hg1 hg2 hP1
  refine cI_V T hK hP hS 1 rfl rfl rfl (c_X1_finish l K (o + 43) G zo (by omega)) iX1_finish mw_2_65 ⟨Nat.le_of_ble_eq_true rfl, Nat.le_of_ble_eq_true rfl⟩ (xW_1 hP) (fun _ a => blk_in (by omega) a) rfl hl.1 rfl (Nat.le_of_ble_eq_true rfl) ⟨Nat.zero_le _, Nat.zero_le _⟩ dX7_tear_23 (fun zf uf H1 locs qf hP1 hg1 hg2 hS => ?_)
  have hP : xP K (xW K o uo M (upR R (spF G).toNat N) uf L NU TT) H1 := xW_mk (xP_out (xW_0 hP) (top_D _) (fun _ a b => blk_x (by omega) a b) hg2) (hP1) (xP_out (xW_2 hP) (log_D _ _ _ _ _) (fun _ a b => blk_x (by omega) a b) hg2) (xP_out (xW_3 hP) (ship_D _ _ _) (fun _ a b => blk_x (by omega) a b) hg2) (xP_out (xW_4 hP) (ship_D _ _ _) (fun _ a b => blk_x (by omega) a b) hg2) (xP_out (xW_5 hP) (ring_D _ _ _) (fun _ a b => blk_x (by omega) a b) hg2)
  generalize H1 = H at hP hS ⊢
  clear hg1 hg2 hP1
  exact rI T (u := (uo, (upR R (spF G).toNat N), uf)) hr hk hK hP hS dX7_tear_26 (⟨by rw [qf.1]; exact qo, rfl, by rw [qf.2, qf.1]⟩)
set_option maxHeartbeats 4000000 in
set_option maxRecDepth 100000 in
theorem c_X7_inspect (l : Launch) (K : KT) (o : Nat) (N M : Int → Int) (R : Nat → Int → Int) (G L NU TT : Int → Int) (lk : Int) (r_lk : -2147483648 ≤ lk ∧ lk ≤ 2147483647) (hI : Inv N) (hG : (0 ≤ G 0 ∧ G 0 ≤ 4) ∧ (0 ≤ G 1 ∧ G 1 ≤ 4)) : CtI l yX7_inspect cX7_inspect 2 .int 4 109 K [.ref o, .int (iI lk)] (xW K o N M R G L NU TT) (Blk o 153) (fun (z : Int) (u : (Int → Int) × (Nat → Int → Int) × (Int → Int)) => (z, u.1) = sInspect N lk ∧ u.2.1 = upR R (spF G).toNat N ∧ u.2.2 = fiG G z) (fun u => xW K o u.1 M u.2.1 u.2.2 L NU TT) := by
  refine CtI_of (by decide) (Nat.le_of_ble_eq_true rfl) ?_
  intro p e s m args below meth c T hr hk hP hK ls hl
  have T : CF p m c cX7_inspect 2 s args RX7 := T
  have hS : va_S (Blk o 153) s.heap s.heap [] := va_S.rf
  have hl : lv_has ls 2 [(0, .ref o), (1, .int (iI lk))] := hl
  refine lv_aload_n T.1 T.2.1 dX7_inspect_0 rfl (lv_at hl 0 rfl) ?_
  refine g7_history T hK hP 0 rfl rfl mw_1_239 dX7_inspect_1 ?_
  refine lv_aload_n T.1 T.2.1 dX7_inspect_4 rfl (lv_at hl 0 rfl) ?_
  refine g7_ship T hK hP 0 rfl rfl mw_1_237 dX7_inspect_5 ?_
  refine cV_V T hK hP hS 1 rfl rfl rfl (c_X1_prepare l K o N M R G L NU TT (by omega)) iX1_prepare mw_2_14 ⟨Nat.le_of_ble_eq_true rfl, Nat.le_of_ble_eq_true rfl⟩ hP (fun _ h => h) rfl hl.1 rfl (Nat.le_of_ble_eq_true rfl) ⟨Nat.zero_le _, Nat.zero_le _⟩ dX7_inspect_8 (fun N3 H1 locs q2 hP1 hg1 hg2 hS => ?_)
  have hP : xP K (xW K o N M (upR R (spF G).toNat N) G L NU TT) H1 := hP1
  generalize H1 = H at hP hS ⊢
  clear hg1 hg2 hP1
  refine lv_aload_n T.1 T.2.1 dX7_inspect_11 rfl (lv_at hl 0 rfl) ?_
  refine g7_history T hK hP 0 rfl rfl mw_1_239 dX7_inspect_12 ?_
  refine lv_aload_n T.1 T.2.1 dX7_inspect_15 rfl (lv_at hl 0 rfl) ?_
  refine g7_ship T hK hP 0 rfl rfl mw_1_237 dX7_inspect_16 ?_
  refine lv_iload_n T.1 T.2.1 dX7_inspect_19 rfl (lv_at hl 1 rfl) ?_
  refine cI_V T hK hP hS 6 rfl rfl rfl (c_X6_countLocker l K (o + 1) N lk (by omega) hI) iX6_countLocker mw_2_204 ⟨Nat.le_of_ble_eq_true rfl, Nat.le_of_ble_eq_true rfl⟩ (xW_3 hP) (fun _ a => blk_in (by omega) a) rfl hl.1 rfl (Nat.le_of_ble_eq_true rfl) ⟨Nat.zero_le _, Nat.zero_le _⟩ dX7_inspect_20 (fun zo uo H1 locs qo hP1 hg1 hg2 hS => ?_)
  have hP : xP K (xW K o uo M (upR R (spF G).toNat N) G L NU TT) H1 := xW_mk (xP_out (xW_0 hP) (top_D _) (fun _ a b => blk_x (by omega) a b) hg2) (xP_out (xW_1 hP) (hist_D _ _ _) (fun _ a b => blk_x (by omega) a b) hg2) (xP_out (xW_2 hP) (log_D _ _ _ _ _) (fun _ a b => blk_x (by omega) a b) hg2) (hP1) (xP_out (xW_4 hP) (ship_D _ _ _) (fun _ a b => blk_x (by omega) a b) hg2) (xP_out (xW_5 hP) (ring_D _ _ _) (fun _ a b => blk_x (by omega) a b) hg2)
  generalize H1 = H at hP hS ⊢
  clear hg1 hg2 hP1
  refine cI_V T hK hP hS 1 rfl rfl rfl (c_X1_finish l K (o + 43) G zo (by omega)) iX1_finish mw_2_65 ⟨Nat.le_of_ble_eq_true rfl, Nat.le_of_ble_eq_true rfl⟩ (xW_1 hP) (fun _ a => blk_in (by omega) a) rfl hl.1 rfl (Nat.le_of_ble_eq_true rfl) ⟨Nat.zero_le _, Nat.zero_le _⟩ dX7_inspect_23 (fun zf uf H1 locs qf hP1 hg1 hg2 hS => ?_)
  have hP : xP K (xW K o uo M (upR R (spF G).toNat N) uf L NU TT) H1 := xW_mk (xP_out (xW_0 hP) (top_D _) (fun _ a b => blk_x (by omega) a b) hg2) (hP1) (xP_out (xW_2 hP) (log_D _ _ _ _ _) (fun _ a b => blk_x (by omega) a b) hg2) (xP_out (xW_3 hP) (ship_D _ _ _) (fun _ a b => blk_x (by omega) a b) hg2) (xP_out (xW_4 hP) (ship_D _ _ _) (fun _ a b => blk_x (by omega) a b) hg2) (xP_out (xW_5 hP) (ring_D _ _ _) (fun _ a b => blk_x (by omega) a b) hg2)
  generalize H1 = H at hP hS ⊢
  clear hg1 hg2 hP1
  exact rI T (u := (uo, (upR R (spF G).toNat N), uf)) hr hk hK hP hS dX7_inspect_26 (⟨by rw [qf.1]; exact qo, rfl, by rw [qf.2, qf.1]⟩)
set_option maxHeartbeats 4000000 in
set_option maxRecDepth 100000 in
theorem c_X7_cross (l : Launch) (K : KT) (o : Nat) (N M : Int → Int) (R : Nat → Int → Int) (G L NU TT : Int → Int) (zn : Int) (r_zn : -2147483648 ≤ zn ∧ zn ≤ 2147483647) (hI : Inv N) (hG : (0 ≤ G 0 ∧ G 0 ≤ 4) ∧ (0 ≤ G 1 ∧ G 1 ≤ 4)) : CtI l yX7_cross cX7_cross 2 .int 4 103 K [.ref o, .int (iI zn)] (xW K o N M R G L NU TT) (Blk o 153) (fun (z : Int) (u : (Int → Int) × (Nat → Int → Int) × (Int → Int)) => (z, u.1) = sCross N zn ∧ u.2.1 = upR R (spF G).toNat N ∧ u.2.2 = fiG G z) (fun u => xW K o u.1 M u.2.1 u.2.2 L NU TT) := by
  refine CtI_of (by decide) (Nat.le_of_ble_eq_true rfl) ?_
  intro p e s m args below meth c T hr hk hP hK ls hl
  have T : CF p m c cX7_cross 2 s args RX7 := T
  have hS : va_S (Blk o 153) s.heap s.heap [] := va_S.rf
  have hl : lv_has ls 2 [(0, .ref o), (1, .int (iI zn))] := hl
  refine lv_aload_n T.1 T.2.1 dX7_cross_0 rfl (lv_at hl 0 rfl) ?_
  refine g7_history T hK hP 0 rfl rfl mw_1_239 dX7_cross_1 ?_
  refine lv_aload_n T.1 T.2.1 dX7_cross_4 rfl (lv_at hl 0 rfl) ?_
  refine g7_ship T hK hP 0 rfl rfl mw_1_237 dX7_cross_5 ?_
  refine cV_V T hK hP hS 1 rfl rfl rfl (c_X1_prepare l K o N M R G L NU TT (by omega)) iX1_prepare mw_2_14 ⟨Nat.le_of_ble_eq_true rfl, Nat.le_of_ble_eq_true rfl⟩ hP (fun _ h => h) rfl hl.1 rfl (Nat.le_of_ble_eq_true rfl) ⟨Nat.zero_le _, Nat.zero_le _⟩ dX7_cross_8 (fun N3 H1 locs q2 hP1 hg1 hg2 hS => ?_)
  have hP : xP K (xW K o N M (upR R (spF G).toNat N) G L NU TT) H1 := hP1
  generalize H1 = H at hP hS ⊢
  clear hg1 hg2 hP1
  refine lv_aload_n T.1 T.2.1 dX7_cross_11 rfl (lv_at hl 0 rfl) ?_
  refine g7_history T hK hP 0 rfl rfl mw_1_239 dX7_cross_12 ?_
  refine lv_aload_n T.1 T.2.1 dX7_cross_15 rfl (lv_at hl 0 rfl) ?_
  refine g7_ship T hK hP 0 rfl rfl mw_1_237 dX7_cross_16 ?_
  refine lv_iload_n T.1 T.2.1 dX7_cross_19 rfl (lv_at hl 1 rfl) ?_
  refine cI_V T hK hP hS 6 rfl rfl rfl (c_X6_crossTo l K (o + 1) N zn (by omega) hI) iX6_crossTo mw_2_216 ⟨Nat.le_of_ble_eq_true rfl, Nat.le_of_ble_eq_true rfl⟩ (xW_3 hP) (fun _ a => blk_in (by omega) a) rfl hl.1 rfl (Nat.le_of_ble_eq_true rfl) ⟨Nat.zero_le _, Nat.zero_le _⟩ dX7_cross_20 (fun zo uo H1 locs qo hP1 hg1 hg2 hS => ?_)
  have hP : xP K (xW K o uo M (upR R (spF G).toNat N) G L NU TT) H1 := xW_mk (xP_out (xW_0 hP) (top_D _) (fun _ a b => blk_x (by omega) a b) hg2) (xP_out (xW_1 hP) (hist_D _ _ _) (fun _ a b => blk_x (by omega) a b) hg2) (xP_out (xW_2 hP) (log_D _ _ _ _ _) (fun _ a b => blk_x (by omega) a b) hg2) (hP1) (xP_out (xW_4 hP) (ship_D _ _ _) (fun _ a b => blk_x (by omega) a b) hg2) (xP_out (xW_5 hP) (ring_D _ _ _) (fun _ a b => blk_x (by omega) a b) hg2)
  generalize H1 = H at hP hS ⊢
  clear hg1 hg2 hP1
  refine cI_V T hK hP hS 1 rfl rfl rfl (c_X1_finish l K (o + 43) G zo (by omega)) iX1_finish mw_2_65 ⟨Nat.le_of_ble_eq_true rfl, Nat.le_of_ble_eq_true rfl⟩ (xW_1 hP) (fun _ a => blk_in (by omega) a) rfl hl.1 rfl (Nat.le_of_ble_eq_true rfl) ⟨Nat.zero_le _, Nat.zero_le _⟩ dX7_cross_23 (fun zf uf H1 locs qf hP1 hg1 hg2 hS => ?_)
  have hP : xP K (xW K o uo M (upR R (spF G).toNat N) uf L NU TT) H1 := xW_mk (xP_out (xW_0 hP) (top_D _) (fun _ a b => blk_x (by omega) a b) hg2) (hP1) (xP_out (xW_2 hP) (log_D _ _ _ _ _) (fun _ a b => blk_x (by omega) a b) hg2) (xP_out (xW_3 hP) (ship_D _ _ _) (fun _ a b => blk_x (by omega) a b) hg2) (xP_out (xW_4 hP) (ship_D _ _ _) (fun _ a b => blk_x (by omega) a b) hg2) (xP_out (xW_5 hP) (ring_D _ _ _) (fun _ a b => blk_x (by omega) a b) hg2)
  generalize H1 = H at hP hS ⊢
  clear hg1 hg2 hP1
  exact rI T (u := (uo, (upR R (spF G).toNat N), uf)) hr hk hK hP hS dX7_cross_26 (⟨by rw [qf.1]; exact qo, rfl, by rw [qf.2, qf.1]⟩)
set_option maxHeartbeats 4000000 in
set_option maxRecDepth 100000 in
theorem c_X7_pass (l : Launch) (K : KT) (o : Nat) (N M : Int → Int) (R : Nat → Int → Int) (G L NU TT : Int → Int) (dy : Int) (r_dy : -2147483648 ≤ dy ∧ dy ≤ 2147483647) (hI : Inv N) (hG : (0 ≤ G 0 ∧ G 0 ≤ 4) ∧ (0 ≤ G 1 ∧ G 1 ≤ 4)) : CtI l yX7_pass cX7_pass 2 .int 5 121 K [.ref o, .int (iI dy)] (xW K o N M R G L NU TT) (Blk o 153) (fun (z : Int) (u : (Int → Int) × (Nat → Int → Int) × (Int → Int)) => (z, u.1) = sPass N dy ∧ u.2.1 = upR R (spF G).toNat N ∧ u.2.2 = fiG G z) (fun u => xW K o u.1 M u.2.1 u.2.2 L NU TT) := by
  refine CtI_of (by decide) (Nat.le_of_ble_eq_true rfl) ?_
  intro p e s m args below meth c T hr hk hP hK ls hl
  have T : CF p m c cX7_pass 2 s args RX7 := T
  have hS : va_S (Blk o 153) s.heap s.heap [] := va_S.rf
  have hl : lv_has ls 2 [(0, .ref o), (1, .int (iI dy))] := hl
  refine lv_aload_n T.1 T.2.1 dX7_pass_0 rfl (lv_at hl 0 rfl) ?_
  refine g7_history T hK hP 0 rfl rfl mw_1_239 dX7_pass_1 ?_
  refine lv_aload_n T.1 T.2.1 dX7_pass_4 rfl (lv_at hl 0 rfl) ?_
  refine g7_ship T hK hP 0 rfl rfl mw_1_237 dX7_pass_5 ?_
  refine cV_V T hK hP hS 1 rfl rfl rfl (c_X1_prepare l K o N M R G L NU TT (by omega)) iX1_prepare mw_2_14 ⟨Nat.le_of_ble_eq_true rfl, Nat.le_of_ble_eq_true rfl⟩ hP (fun _ h => h) rfl hl.1 rfl (Nat.le_of_ble_eq_true rfl) ⟨Nat.zero_le _, Nat.zero_le _⟩ dX7_pass_8 (fun N3 H1 locs q2 hP1 hg1 hg2 hS => ?_)
  have hP : xP K (xW K o N M (upR R (spF G).toNat N) G L NU TT) H1 := hP1
  generalize H1 = H at hP hS ⊢
  clear hg1 hg2 hP1
  refine lv_aload_n T.1 T.2.1 dX7_pass_11 rfl (lv_at hl 0 rfl) ?_
  refine g7_history T hK hP 0 rfl rfl mw_1_239 dX7_pass_12 ?_
  refine lv_aload_n T.1 T.2.1 dX7_pass_15 rfl (lv_at hl 0 rfl) ?_
  refine g7_ship T hK hP 0 rfl rfl mw_1_237 dX7_pass_16 ?_
  refine lv_iload_n T.1 T.2.1 dX7_pass_19 rfl (lv_at hl 1 rfl) ?_
  refine cI_V T hK hP hS 6 rfl rfl rfl (c_X6_passDays l K (o + 1) N dy (by omega) hI) iX6_passDays mw_2_236 ⟨Nat.le_of_ble_eq_true rfl, Nat.le_of_ble_eq_true rfl⟩ (xW_3 hP) (fun _ a => blk_in (by omega) a) rfl hl.1 rfl (Nat.le_of_ble_eq_true rfl) ⟨Nat.zero_le _, Nat.zero_le _⟩ dX7_pass_20 (fun zo uo H1 locs qo hP1 hg1 hg2 hS => ?_)
  have hP : xP K (xW K o uo M (upR R (spF G).toNat N) G L NU TT) H1 := xW_mk (xP_out (xW_0 hP) (top_D _) (fun _ a b => blk_x (by omega) a b) hg2) (xP_out (xW_1 hP) (hist_D _ _ _) (fun _ a b => blk_x (by omega) a b) hg2) (xP_out (xW_2 hP) (log_D _ _ _ _ _) (fun _ a b => blk_x (by omega) a b) hg2) (hP1) (xP_out (xW_4 hP) (ship_D _ _ _) (fun _ a b => blk_x (by omega) a b) hg2) (xP_out (xW_5 hP) (ring_D _ _ _) (fun _ a b => blk_x (by omega) a b) hg2)
  generalize H1 = H at hP hS ⊢
  clear hg1 hg2 hP1
  refine cI_V T hK hP hS 1 rfl rfl rfl (c_X1_finish l K (o + 43) G zo (by omega)) iX1_finish mw_2_65 ⟨Nat.le_of_ble_eq_true rfl, Nat.le_of_ble_eq_true rfl⟩ (xW_1 hP) (fun _ a => blk_in (by omega) a) rfl hl.1 rfl (Nat.le_of_ble_eq_true rfl) ⟨Nat.zero_le _, Nat.zero_le _⟩ dX7_pass_23 (fun zf uf H1 locs qf hP1 hg1 hg2 hS => ?_)
  have hP : xP K (xW K o uo M (upR R (spF G).toNat N) uf L NU TT) H1 := xW_mk (xP_out (xW_0 hP) (top_D _) (fun _ a b => blk_x (by omega) a b) hg2) (hP1) (xP_out (xW_2 hP) (log_D _ _ _ _ _) (fun _ a b => blk_x (by omega) a b) hg2) (xP_out (xW_3 hP) (ship_D _ _ _) (fun _ a b => blk_x (by omega) a b) hg2) (xP_out (xW_4 hP) (ship_D _ _ _) (fun _ a b => blk_x (by omega) a b) hg2) (xP_out (xW_5 hP) (ring_D _ _ _) (fun _ a b => blk_x (by omega) a b) hg2)
  generalize H1 = H at hP hS ⊢
  clear hg1 hg2 hP1
  exact rI T (u := (uo, (upR R (spF G).toNat N), uf)) hr hk hK hP hS dX7_pass_26 (⟨by rw [qf.1]; exact qo, rfl, by rw [qf.2, qf.1]⟩)
set_option maxHeartbeats 4000000 in
set_option maxRecDepth 100000 in
theorem c_X7_set (l : Launch) (K : KT) (o : Nat) (N M : Int → Int) (R : Nat → Int → Int) (G L NU TT : Int → Int) (wh vl : Int) (r_wh : -2147483648 ≤ wh ∧ wh ≤ 2147483647) (r_vl : -2147483648 ≤ vl ∧ vl ≤ 2147483647) (hI : Inv N) (hG : (0 ≤ G 0 ∧ G 0 ≤ 4) ∧ (0 ≤ G 1 ∧ G 1 ≤ 4)) : CtI l yX7_set cX7_set 3 .int 4 103 K [.ref o, .int (iI wh), .int (iI vl)] (xW K o N M R G L NU TT) (Blk o 153) (fun (z : Int) (u : (Int → Int) × (Nat → Int → Int) × (Int → Int)) => (z, u.1) = sSet N wh vl ∧ u.2.1 = upR R (spF G).toNat N ∧ u.2.2 = fiG G z) (fun u => xW K o u.1 M u.2.1 u.2.2 L NU TT) := by
  refine CtI_of (by decide) (Nat.le_of_ble_eq_true rfl) ?_
  intro p e s m args below meth c T hr hk hP hK ls hl
  have T : CF p m c cX7_set 3 s args RX7 := T
  have hS : va_S (Blk o 153) s.heap s.heap [] := va_S.rf
  have hl : lv_has ls 3 [(0, .ref o), (1, .int (iI wh)), (2, .int (iI vl))] := hl
  refine lv_aload_n T.1 T.2.1 dX7_set_0 rfl (lv_at hl 0 rfl) ?_
  refine g7_history T hK hP 0 rfl rfl mw_1_239 dX7_set_1 ?_
  refine lv_aload_n T.1 T.2.1 dX7_set_4 rfl (lv_at hl 0 rfl) ?_
  refine g7_ship T hK hP 0 rfl rfl mw_1_237 dX7_set_5 ?_
  refine cV_V T hK hP hS 1 rfl rfl rfl (c_X1_prepare l K o N M R G L NU TT (by omega)) iX1_prepare mw_2_14 ⟨Nat.le_of_ble_eq_true rfl, Nat.le_of_ble_eq_true rfl⟩ hP (fun _ h => h) rfl hl.1 rfl (Nat.le_of_ble_eq_true rfl) ⟨Nat.zero_le _, Nat.zero_le _⟩ dX7_set_8 (fun N3 H1 locs q2 hP1 hg1 hg2 hS => ?_)
  have hP : xP K (xW K o N M (upR R (spF G).toNat N) G L NU TT) H1 := hP1
  generalize H1 = H at hP hS ⊢
  clear hg1 hg2 hP1
  refine lv_aload_n T.1 T.2.1 dX7_set_11 rfl (lv_at hl 0 rfl) ?_
  refine g7_history T hK hP 0 rfl rfl mw_1_239 dX7_set_12 ?_
  refine lv_aload_n T.1 T.2.1 dX7_set_15 rfl (lv_at hl 0 rfl) ?_
  refine g7_ship T hK hP 0 rfl rfl mw_1_237 dX7_set_16 ?_
  refine lv_iload_n T.1 T.2.1 dX7_set_19 rfl (lv_at hl 1 rfl) ?_
  refine lv_iload_n T.1 T.2.1 dX7_set_20 rfl (lv_at hl 2 rfl) ?_
  refine cI_V T hK hP hS 6 rfl rfl rfl (c_X6_changeSetting l K (o + 1) N wh vl (by omega) (by omega) hI) iX6_changeSetting mw_3_19 ⟨Nat.le_of_ble_eq_true rfl, Nat.le_of_ble_eq_true rfl⟩ (xW_3 hP) (fun _ a => blk_in (by omega) a) rfl hl.1 rfl (Nat.le_of_ble_eq_true rfl) ⟨Nat.zero_le _, Nat.zero_le _⟩ dX7_set_21 (fun zo uo H1 locs qo hP1 hg1 hg2 hS => ?_)
  have hP : xP K (xW K o uo M (upR R (spF G).toNat N) G L NU TT) H1 := xW_mk (xP_out (xW_0 hP) (top_D _) (fun _ a b => blk_x (by omega) a b) hg2) (xP_out (xW_1 hP) (hist_D _ _ _) (fun _ a b => blk_x (by omega) a b) hg2) (xP_out (xW_2 hP) (log_D _ _ _ _ _) (fun _ a b => blk_x (by omega) a b) hg2) (hP1) (xP_out (xW_4 hP) (ship_D _ _ _) (fun _ a b => blk_x (by omega) a b) hg2) (xP_out (xW_5 hP) (ring_D _ _ _) (fun _ a b => blk_x (by omega) a b) hg2)
  generalize H1 = H at hP hS ⊢
  clear hg1 hg2 hP1
  refine cI_V T hK hP hS 1 rfl rfl rfl (c_X1_finish l K (o + 43) G zo (by omega)) iX1_finish mw_2_65 ⟨Nat.le_of_ble_eq_true rfl, Nat.le_of_ble_eq_true rfl⟩ (xW_1 hP) (fun _ a => blk_in (by omega) a) rfl hl.1 rfl (Nat.le_of_ble_eq_true rfl) ⟨Nat.zero_le _, Nat.zero_le _⟩ dX7_set_24 (fun zf uf H1 locs qf hP1 hg1 hg2 hS => ?_)
  have hP : xP K (xW K o uo M (upR R (spF G).toNat N) uf L NU TT) H1 := xW_mk (xP_out (xW_0 hP) (top_D _) (fun _ a b => blk_x (by omega) a b) hg2) (hP1) (xP_out (xW_2 hP) (log_D _ _ _ _ _) (fun _ a b => blk_x (by omega) a b) hg2) (xP_out (xW_3 hP) (ship_D _ _ _) (fun _ a b => blk_x (by omega) a b) hg2) (xP_out (xW_4 hP) (ship_D _ _ _) (fun _ a b => blk_x (by omega) a b) hg2) (xP_out (xW_5 hP) (ring_D _ _ _) (fun _ a b => blk_x (by omega) a b) hg2)
  generalize H1 = H at hP hS ⊢
  clear hg1 hg2 hP1
  exact rI T (u := (uo, (upR R (spF G).toNat N), uf)) hr hk hK hP hS dX7_set_27 (⟨by rw [qf.1]; exact qo, rfl, by rw [qf.2, qf.1]⟩)
set_option maxHeartbeats 4000000 in
set_option maxRecDepth 100000 in
theorem c_X7_undo (l : Launch) (K : KT) (o : Nat) (N M : Int → Int) (R : Nat → Int → Int) (G L NU TT : Int → Int) (hG : (0 ≤ G 0 ∧ G 0 ≤ 4) ∧ (0 ≤ G 1 ∧ G 1 ≤ 4)) : CtI l yX7_undo cX7_undo 1 .int 4 103 K [.ref o] (xW K o N M R G L NU TT) (Blk o 153) (fun (z : Int) (u : (Int → Int) × (Int → Int)) => (z, u) = resP N R G) (fun u => xW K o u.1 M R u.2 L NU TT) := by
  refine CtI_of (by decide) (Nat.le_of_ble_eq_true rfl) ?_
  intro p e s m args below meth c T hr hk hP hK ls hl
  have T : CF p m c cX7_undo 1 s args RX7 := T
  have hS : va_S (Blk o 153) s.heap s.heap [] := va_S.rf
  have hl : lv_has ls 1 [(0, .ref o)] := hl
  refine lv_aload_n T.1 T.2.1 dX7_undo_0 rfl (lv_at hl 0 rfl) ?_
  refine g7_history T hK hP 0 rfl rfl mw_1_239 dX7_undo_1 ?_
  refine lv_aload_n T.1 T.2.1 dX7_undo_4 rfl (lv_at hl 0 rfl) ?_
  refine g7_ship T hK hP 0 rfl rfl mw_1_237 dX7_undo_5 ?_
  refine cI_V T hK hP hS 1 rfl rfl rfl (c_X1_restore l K o N M R G L NU TT (by omega)) iX1_restore mw_3_63 ⟨Nat.le_of_ble_eq_true rfl, Nat.le_of_ble_eq_true rfl⟩ hP (fun _ h => h) rfl hl.1 rfl (Nat.le_of_ble_eq_true rfl) ⟨Nat.zero_le _, Nat.zero_le _⟩ dX7_undo_8 (fun zr ur H1 locs qr hP1 hg1 hg2 hS => ?_)
  have hP : xP K (xW K o ur.1 M R ur.2 L NU TT) H1 := hP1
  generalize H1 = H at hP hS ⊢
  clear hg1 hg2 hP1
  exact rI T (u := (ur.1, ur.2)) hr hk hK hP hS dX7_undo_11 (qr)
set_option maxHeartbeats 4000000 in
set_option maxRecDepth 100000 in
theorem c_X7_type (l : Launch) (K : KT) (o : Nat) (N M : Int → Int) (R : Nat → Int → Int) (G L NU TT : Int → Int) (ch : Int) (r_ch : -2147483648 ≤ ch ∧ ch ≤ 2147483647) (hL0 : 0 ≤ L 0 ∧ L 0 ≤ 80) (hT : TxT TT (L 0)) : CtI l yX7_type cX7_type 2 .int 1 21 K [.ref o, .int (iI ch)] (xW K o N M R G L NU TT) (Blk o 153) (fun (z : Int) (u : (Int → Int) × (Int → Int)) => (¬ (32 ≤ ch ∧ ch ≤ 126) ∧ z = -1 ∧ u = (L, TT)) ∨ ((32 ≤ ch ∧ ch ≤ 126) ∧ L 0 = 80 ∧ z = -3 ∧ u = (L, TT)) ∨ ((32 ≤ ch ∧ ch ≤ 126) ∧ L 0 ≠ 80 ∧ z = L 0 + 1 ∧ u = (uZ L 0 (L 0 + 1), uZ TT (L 0) ch))) (fun u => xW K o N M R G u.1 NU u.2) := by
  refine CtI_of (by decide) (Nat.le_of_ble_eq_true rfl) ?_
  intro p e s m args below meth c T hr hk hP hK ls hl
  have T : CF p m c cX7_type 2 s args RX7 := T
  have hS : va_S (Blk o 153) s.heap s.heap [] := va_S.rf
  have hl : lv_has ls 2 [(0, .ref o), (1, .int (iI ch))] := hl
  refine lv_aload_n T.1 T.2.1 dX7_type_0 rfl (lv_at hl 0 rfl) ?_
  refine g7_log T hK hP 0 rfl rfl mw_2_0 dX7_type_1 ?_
  refine lv_iload_n T.1 T.2.1 dX7_type_4 rfl (lv_at hl 1 rfl) ?_
  refine cI_V T hK hP hS 3 rfl rfl rfl (c_X3_append l K (o + 150) L NU TT ch (by omega) (by omega) (by omega)) iX3_append mw_3_169 ⟨Nat.le_of_ble_eq_true rfl, Nat.le_of_ble_eq_true rfl⟩ (xW_2 hP) (fun _ a => blk_in (by omega) a) rfl hl.1 rfl (Nat.le_of_ble_eq_true rfl) ⟨Nat.zero_le _, Nat.zero_le _⟩ dX7_type_5 (fun zr ur H1 locs qr hP1 hg1 hg2 hS => ?_)
  have hP : xP K (xW K o N M R G ur.1 NU ur.2) H1 := xW_mk (xP_out (xW_0 hP) (top_D _) (fun _ a b => blk_x (by omega) a b) hg2) (xP_out (xW_1 hP) (hist_D _ _ _) (fun _ a b => blk_x (by omega) a b) hg2) (hP1) (xP_out (xW_3 hP) (ship_D _ _ _) (fun _ a b => blk_x (by omega) a b) hg2) (xP_out (xW_4 hP) (ship_D _ _ _) (fun _ a b => blk_x (by omega) a b) hg2) (xP_out (xW_5 hP) (ring_D _ _ _) (fun _ a b => blk_x (by omega) a b) hg2)
  generalize H1 = H at hP hS ⊢
  clear hg1 hg2 hP1
  exact rI T (u := (ur.1, ur.2)) hr hk hK hP hS dX7_type_8 (qr)
set_option maxHeartbeats 4000000 in
set_option maxRecDepth 100000 in
theorem c_X7_fault (l : Launch) (K : KT) (o : Nat) (N M : Int → Int) (R : Nat → Int → Int) (G L NU TT : Int → Int) (F : Int → Int) (wh : Int) (r_wh : -2147483648 ≤ wh ∧ wh ≤ 2147483647) (hI : Inv N) (hL0 : 0 ≤ L 0 ∧ L 0 ≤ 80) (hT : TxT TT (L 0)) (hNU : nuIn NU) (hF : F 2 = L 0) : CtI l yX7_fault cX7_fault 2 .int 7 167 K [.ref o, .int (iI wh)] (xW K o N M R G L NU TT) (Blk o 153) (fun (z : Int) (u : (Int → Int) × (Int → Int) × (Int → Int)) => z = qFault (triP TT N F).2 wh ∧ u.2.1 0 = L 0 ∧ nuIn u.2.2) (fun u => xW K o N u.1 R G u.2.1 u.2.2 TT) := by
  refine CtI_of (by decide) (Nat.le_of_ble_eq_true rfl) ?_
  intro p e s m args below meth c T hr hk hP hK ls hl
  have T : CF p m c cX7_fault 2 s args RX7 := T
  have hS : va_S (Blk o 153) s.heap s.heap [] := va_S.rf
  have hl : lv_has ls 2 [(0, .ref o), (1, .int (iI wh))] := hl
  refine lv_iload_n T.1 T.2.1 dX7_fault_0 rfl (lv_at hl 1 rfl) ?_
  refine xv_if_lt T (by omega) (tgt := 9) dX7_fault_1 (by decide) (fun c1 => ?_) (fun c1 => ?_)
  · skip
    refine xv_iconst T dX7_fault_9 ?_
    exact rI T (u := (M, L, NU)) hr hk hK hP hS dX7_fault_10 (⟨by unfold qFault; rw [if_pos (by omega)], rfl, hNU⟩)
  · skip
    refine lv_iload_n T.1 T.2.1 dX7_fault_4 rfl (lv_at hl 1 rfl) ?_
    refine xv_iconst T dX7_fault_5 ?_
    refine xv_icmp_le T (by omega) (tgt := 11) dX7_fault_6 (by decide) (fun c2 => ?_) (fun c2 => ?_)
    · skip
      refine lv_aload_n T.1 T.2.1 dX7_fault_11 rfl (lv_at hl 0 rfl) ?_
      refine g7_log T hK hP 0 rfl rfl mw_2_0 dX7_fault_12 ?_
      refine lv_aload_n T.1 T.2.1 dX7_fault_15 rfl (lv_at hl 0 rfl) ?_
      refine g7_trial T hK hP 0 rfl rfl mw_1_238 dX7_fault_16 ?_
      refine lv_aload_n T.1 T.2.1 dX7_fault_19 rfl (lv_at hl 0 rfl) ?_
      refine g7_ship T hK hP 0 rfl rfl mw_1_237 dX7_fault_20 ?_
      refine cV_V T hK hP hS 3 rfl rfl rfl (c_X3_tryOn l K o N M R G L NU TT F hI (by omega) (by omega) (by omega) (by omega)) iX3_tryOn mw_3_95 ⟨Nat.le_of_ble_eq_true rfl, Nat.le_of_ble_eq_true rfl⟩ hP (fun _ h => h) rfl hl.1 rfl (Nat.le_of_ble_eq_true rfl) ⟨Nat.zero_le _, Nat.zero_le _⟩ dX7_fault_23 (fun ut H1 locs qt hP1 hg1 hg2 hS => ?_)
      have hP : xP K (xW K o N ut.1 R G ut.2.1 ut.2.2 TT) H1 := hP1
      generalize H1 = H at hP hS ⊢
      clear hg1 hg2 hP1
      obtain ⟨hq, hu0, hun⟩ := qt
      unfold trQ at hq
      refine lv_aload_n T.1 T.2.1 dX7_fault_26 rfl (lv_at hl 0 rfl) ?_
      refine g7_log T hK hP 0 rfl rfl mw_2_0 dX7_fault_27 ?_
      refine g3_faultReason T hK hP 3 rfl (v := .int (iI (ut.2.1 2))) rfl mw_1_209 dX7_fault_30 ?_
      refine xv_if_ne T (by omega) (tgt := 39) dX7_fault_33 (by decide) (fun c4 => ?_) (fun c4 => ?_)
      · skip
        refine lv_iload_n T.1 T.2.1 dX7_fault_39 rfl (lv_at hl 1 rfl) ?_
        by_cases c5_0 : wh = 0
        · skip
          refine xv_lookup T (off := 28) (tgt := 68) (by omega) dX7_fault_40 (by decide) (by rw [Op.lookupswitch.offset_cons, if_pos (by omega)]) (by decide) ?_
          refine lv_aload_n T.1 T.2.1 dX7_fault_68 rfl (lv_at hl 0 rfl) ?_
          refine g7_log T hK hP 0 rfl rfl mw_2_0 dX7_fault_69 ?_
          refine g3_faultPosition T hK hP 3 rfl (v := .int (iI (ut.2.1 1))) rfl mw_1_207 dX7_fault_72 ?_
          exact rI T (u := (ut.1, ut.2.1, ut.2.2)) hr hk hK hP hS dX7_fault_75 (⟨by unfold qFault; (repeat' split) <;> omega, hu0, hun⟩)
        by_cases c5_1 : wh = 1
        · skip
          refine xv_lookup T (off := 36) (tgt := 76) (by omega) dX7_fault_40 (by decide) ((xv_osw (by omega)).trans (by rw [Op.lookupswitch.offset_cons, if_pos (by omega)])) (by decide) ?_
          refine lv_aload_n T.1 T.2.1 dX7_fault_76 rfl (lv_at hl 0 rfl) ?_
          refine g7_log T hK hP 0 rfl rfl mw_2_0 dX7_fault_77 ?_
          refine g3_faultReason T hK hP 3 rfl (v := .int (iI (ut.2.1 2))) rfl mw_1_209 dX7_fault_80 ?_
          exact rI T (u := (ut.1, ut.2.1, ut.2.2)) hr hk hK hP hS dX7_fault_83 (⟨by unfold qFault; (repeat' split) <;> omega, hu0, hun⟩)
        refine xv_lookup T (off := 44) (tgt := 84) (by omega) dX7_fault_40 (by decide) ((xv_osw (by omega)).trans ((xv_osw (by omega)).trans (rfl))) (by decide) ?_
        refine lv_aload_n T.1 T.2.1 dX7_fault_84 rfl (lv_at hl 0 rfl) ?_
        refine g7_log T hK hP 0 rfl rfl mw_2_0 dX7_fault_85 ?_
        refine g3_faultReason T hK hP 3 rfl (v := .int (iI (ut.2.1 2))) rfl mw_1_209 dX7_fault_88 ?_
        refine xv_iconst T dX7_fault_91 ?_
        refine xv_icmp_ne T (by omega) (tgt := 105) dX7_fault_92 (by decide) (fun c6 => ?_) (fun c6 => ?_)
        · skip
          refine xv_bipush T dX7_fault_105 (by omega) ?_
          exact rI T (u := (ut.1, ut.2.1, ut.2.2)) hr hk hK hP hS dX7_fault_107 (⟨by unfold qFault; (repeat' split) <;> omega, hu0, hun⟩)
        · skip
          refine lv_aload_n T.1 T.2.1 dX7_fault_95 rfl (lv_at hl 0 rfl) ?_
          refine g7_log T hK hP 0 rfl rfl mw_2_0 dX7_fault_96 ?_
          refine g3_faultCause T hK hP 3 rfl (v := .int (iI (ut.2.1 3))) rfl mw_1_211 dX7_fault_99 ?_
          refine lv_goto T.1 T.2.1 (tgt := 107) dX7_fault_102 (by decide) ?_
          exact rI T (u := (ut.1, ut.2.1, ut.2.2)) hr hk hK hP hS dX7_fault_107 (⟨by unfold qFault; (repeat' split) <;> omega, hu0, hun⟩)
      · skip
        refine xv_bipush T dX7_fault_36 (by omega) ?_
        exact rI T (u := (ut.1, ut.2.1, ut.2.2)) hr hk hK hP hS dX7_fault_38 (⟨by unfold qFault; (repeat' split) <;> omega, hu0, hun⟩)
    · skip
      refine xv_iconst T dX7_fault_9 ?_
      exact rI T (u := (M, L, NU)) hr hk hK hP hS dX7_fault_10 (⟨by unfold qFault; rw [if_pos (by omega)], rfl, hNU⟩)