set_option maxHeartbeats 4000000 in
set_option maxRecDepth 100000 in
theorem c_X8_locker (l : Launch) (K : KT) (o : Nat) (N B SS TT F : Int → Int) (hI : Inv N) (hF0 : 0 ≤ F 0 ∧ F 0 ≤ 4) (hF1 : 0 ≤ F 1 ∧ F 1 < 4) : CtI l yX8_locker cX8_locker 1 .int 2 42 K [.ref o] (mW K o N B SS TT F) (Blk o 5) (fun (z : Int) (u : (Int → Int) × (Int → Int) × (Int → Int)) => ∃ N2 : Int → Int, (z, N2) = sLocker N ∧ u = (N2, recP N SS F z)) (fun u => mW K o u.1 N u.2.1 TT u.2.2) := by
  refine CtI_of (by decide) (Nat.le_of_ble_eq_true rfl) ?_
  intro p e s m args below meth c T hr hk hP hK ls hl
  have T : CF p m c cX8_locker 1 s args RX8 := T
  have hS : va_S (Blk o 5) s.heap s.heap [] := va_S.rf
  have hl : lv_has ls 1 [(0, .ref o)] := hl
  refine lv_aload_n T.1 T.2.1 dX8_locker_0 rfl (lv_at hl 0 rfl) ?_
  refine cV_V T hK hP hS 0 rfl rfl rfl (c_X8_copy l K o N B SS TT F ) iX8_copy mw_3_223 ⟨Nat.le_of_ble_eq_true rfl, Nat.le_of_ble_eq_true rfl⟩ hP (fun _ h => h) rfl hl.1 rfl (Nat.le_of_ble_eq_true rfl) ⟨Nat.zero_le _, Nat.zero_le _⟩ dX8_locker_1 (fun N3 H1 locs q2 hP1 hg1 hg2 hS => ?_)
  have hP : xP K (mW K o N N SS TT F) H1 := hP1
  generalize H1 = H at hP hS ⊢
  clear hg1 hg2 hP1
  refine lv_aload_n T.1 T.2.1 dX8_locker_4 rfl (lv_at hl 0 rfl) ?_
  refine lv_aload_n T.1 T.2.1 dX8_locker_5 rfl (lv_at hl 0 rfl) ?_
  refine cI_V T hK hP hS 0 rfl rfl rfl (c_X8_addsLocker l K o N N SS TT F hI) iX8_addsLocker mw_3_227 ⟨Nat.le_of_ble_eq_true rfl, Nat.le_of_ble_eq_true rfl⟩ hP (fun _ h => h) rfl hl.1 rfl (Nat.le_of_ble_eq_true rfl) ⟨Nat.zero_le _, Nat.zero_le _⟩ dX8_locker_6 (fun za Na H1 locs qa hP1 hg1 hg2 hS => ?_)
  have hP : xP K (mW K o Na N SS TT F) H1 := hP1
  generalize H1 = H at hP hS ⊢
  clear hg1 hg2 hP1
  refine cI_V T hK hP hS 0 rfl rfl rfl (c_X8_recorded l K o Na N SS TT F za (by omega) (by omega)) iX8_recorded mw_3_239 ⟨Nat.le_of_ble_eq_true rfl, Nat.le_of_ble_eq_true rfl⟩ hP (fun _ h => h) rfl hl.1 rfl (Nat.le_of_ble_eq_true rfl) ⟨Nat.zero_le _, Nat.zero_le _⟩ dX8_locker_9 (fun zr u9 H1 locs qr hP1 hg1 hg2 hS => ?_)
  have hP : xP K (mW K o Na N u9.1 TT u9.2) H1 := hP1
  generalize H1 = H at hP hS ⊢
  clear hg1 hg2 hP1
  obtain ⟨hz, hu⟩ := qr
  exact rI T (u := (Na, u9)) hr hk hK hP hS dX8_locker_12 (by rw [hz, hu]; exact ⟨Na, qa, rfl⟩)
set_option maxHeartbeats 4000000 in
set_option maxRecDepth 100000 in
theorem c_X8_good (l : Launch) (K : KT) (o : Nat) (N B SS TT F : Int → Int) (dt : Int) (r_dt : -2147483648 ≤ dt ∧ dt ≤ 2147483647) (hI : Inv N) (hF0 : 0 ≤ F 0 ∧ F 0 ≤ 4) (hF1 : 0 ≤ F 1 ∧ F 1 < 4) : CtI l yX8_good cX8_good 2 .int 3 63 K [.ref o, .int (iI dt)] (mW K o N B SS TT F) (Blk o 5) (fun (z : Int) (u : (Int → Int) × (Int → Int) × (Int → Int)) => ∃ N2 : Int → Int, (z, N2) = sGood N dt ∧ u = (N2, recP N SS F z)) (fun u => mW K o u.1 N u.2.1 TT u.2.2) := by
  refine CtI_of (by decide) (Nat.le_of_ble_eq_true rfl) ?_
  intro p e s m args below meth c T hr hk hP hK ls hl
  have T : CF p m c cX8_good 2 s args RX8 := T
  have hS : va_S (Blk o 5) s.heap s.heap [] := va_S.rf
  have hl : lv_has ls 2 [(0, .ref o), (1, .int (iI dt))] := hl
  refine lv_aload_n T.1 T.2.1 dX8_good_0 rfl (lv_at hl 0 rfl) ?_
  refine cV_V T hK hP hS 0 rfl rfl rfl (c_X8_copy l K o N B SS TT F ) iX8_copy mw_3_223 ⟨Nat.le_of_ble_eq_true rfl, Nat.le_of_ble_eq_true rfl⟩ hP (fun _ h => h) rfl hl.1 rfl (Nat.le_of_ble_eq_true rfl) ⟨Nat.zero_le _, Nat.zero_le _⟩ dX8_good_1 (fun N3 H1 locs q2 hP1 hg1 hg2 hS => ?_)
  have hP : xP K (mW K o N N SS TT F) H1 := hP1
  generalize H1 = H at hP hS ⊢
  clear hg1 hg2 hP1
  refine lv_aload_n T.1 T.2.1 dX8_good_4 rfl (lv_at hl 0 rfl) ?_
  refine lv_aload_n T.1 T.2.1 dX8_good_5 rfl (lv_at hl 0 rfl) ?_
  refine lv_iload_n T.1 T.2.1 dX8_good_6 rfl (lv_at hl 1 rfl) ?_
  refine cI_V T hK hP hS 0 rfl rfl rfl (c_X8_addsGood l K o N N SS TT F dt (by omega) hI) iX8_addsGood mw_4_7 ⟨Nat.le_of_ble_eq_true rfl, Nat.le_of_ble_eq_true rfl⟩ hP (fun _ h => h) rfl hl.1 rfl (Nat.le_of_ble_eq_true rfl) ⟨Nat.zero_le _, Nat.zero_le _⟩ dX8_good_7 (fun za Na H1 locs qa hP1 hg1 hg2 hS => ?_)
  have hP : xP K (mW K o Na N SS TT F) H1 := hP1
  generalize H1 = H at hP hS ⊢
  clear hg1 hg2 hP1
  refine cI_V T hK hP hS 0 rfl rfl rfl (c_X8_recorded l K o Na N SS TT F za (by omega) (by omega)) iX8_recorded mw_3_239 ⟨Nat.le_of_ble_eq_true rfl, Nat.le_of_ble_eq_true rfl⟩ hP (fun _ h => h) rfl hl.1 rfl (Nat.le_of_ble_eq_true rfl) ⟨Nat.zero_le _, Nat.zero_le _⟩ dX8_good_10 (fun zr u9 H1 locs qr hP1 hg1 hg2 hS => ?_)
  have hP : xP K (mW K o Na N u9.1 TT u9.2) H1 := hP1
  generalize H1 = H at hP hS ⊢
  clear hg1 hg2 hP1
  obtain ⟨hz, hu⟩ := qr
  exact rI T (u := (Na, u9)) hr hk hK hP hS dX8_good_13 (by rw [hz, hu]; exact ⟨Na, qa, rfl⟩)
set_option maxHeartbeats 4000000 in
set_option maxRecDepth 100000 in
theorem c_X8_load (l : Launch) (K : KT) (o : Nat) (N B SS TT F : Int → Int) (lk gd un : Int) (r_lk : -2147483648 ≤ lk ∧ lk ≤ 2147483647) (r_gd : -2147483648 ≤ gd ∧ gd ≤ 2147483647) (r_un : -2147483648 ≤ un ∧ un ≤ 2147483647) (hI : Inv N) (hF0 : 0 ≤ F 0 ∧ F 0 ≤ 4) (hF1 : 0 ≤ F 1 ∧ F 1 < 4) : CtI l yX8_load cX8_load 4 .int 4 92 K [.ref o, .int (iI lk), .int (iI gd), .int (iI un)] (mW K o N B SS TT F) (Blk o 5) (fun (z : Int) (u : (Int → Int) × (Int → Int) × (Int → Int)) => ∃ N2 : Int → Int, (z, N2) = sLoad N lk gd un ∧ u = (N2, recP N SS F z)) (fun u => mW K o u.1 N u.2.1 TT u.2.2) := by
  refine CtI_of (by decide) (Nat.le_of_ble_eq_true rfl) ?_
  intro p e s m args below meth c T hr hk hP hK ls hl
  have T : CF p m c cX8_load 4 s args RX8 := T
  have hS : va_S (Blk o 5) s.heap s.heap [] := va_S.rf
  have hl : lv_has ls 4 [(0, .ref o), (1, .int (iI lk)), (2, .int (iI gd)), (3, .int (iI un))] := hl
  refine lv_aload_n T.1 T.2.1 dX8_load_0 rfl (lv_at hl 0 rfl) ?_
  refine cV_V T hK hP hS 0 rfl rfl rfl (c_X8_copy l K o N B SS TT F ) iX8_copy mw_3_223 ⟨Nat.le_of_ble_eq_true rfl, Nat.le_of_ble_eq_true rfl⟩ hP (fun _ h => h) rfl hl.1 rfl (Nat.le_of_ble_eq_true rfl) ⟨Nat.zero_le _, Nat.zero_le _⟩ dX8_load_1 (fun N3 H1 locs q2 hP1 hg1 hg2 hS => ?_)
  have hP : xP K (mW K o N N SS TT F) H1 := hP1
  generalize H1 = H at hP hS ⊢
  clear hg1 hg2 hP1
  refine lv_aload_n T.1 T.2.1 dX8_load_4 rfl (lv_at hl 0 rfl) ?_
  refine lv_aload_n T.1 T.2.1 dX8_load_5 rfl (lv_at hl 0 rfl) ?_
  refine lv_iload_n T.1 T.2.1 dX8_load_6 rfl (lv_at hl 1 rfl) ?_
  refine lv_iload_n T.1 T.2.1 dX8_load_7 rfl (lv_at hl 2 rfl) ?_
  refine lv_iload_n T.1 T.2.1 dX8_load_8 rfl (lv_at hl 3 rfl) ?_
  refine cI_V T hK hP hS 0 rfl rfl rfl (c_X8_loads l K o N N SS TT F lk gd un (by omega) (by omega) (by omega) hI) iX8_loads mw_4_30 ⟨Nat.le_of_ble_eq_true rfl, Nat.le_of_ble_eq_true rfl⟩ hP (fun _ h => h) rfl hl.1 rfl (Nat.le_of_ble_eq_true rfl) ⟨Nat.zero_le _, Nat.zero_le _⟩ dX8_load_9 (fun za Na H1 locs qa hP1 hg1 hg2 hS => ?_)
  have hP : xP K (mW K o Na N SS TT F) H1 := hP1
  generalize H1 = H at hP hS ⊢
  clear hg1 hg2 hP1
  refine cI_V T hK hP hS 0 rfl rfl rfl (c_X8_recorded l K o Na N SS TT F za (by omega) (by omega)) iX8_recorded mw_3_239 ⟨Nat.le_of_ble_eq_true rfl, Nat.le_of_ble_eq_true rfl⟩ hP (fun _ h => h) rfl hl.1 rfl (Nat.le_of_ble_eq_true rfl) ⟨Nat.zero_le _, Nat.zero_le _⟩ dX8_load_12 (fun zr u9 H1 locs qr hP1 hg1 hg2 hS => ?_)
  have hP : xP K (mW K o Na N u9.1 TT u9.2) H1 := hP1
  generalize H1 = H at hP hS ⊢
  clear hg1 hg2 hP1
  obtain ⟨hz, hu⟩ := qr
  exact rI T (u := (Na, u9)) hr hk hK hP hS dX8_load_15 (by rw [hz, hu]; exact ⟨Na, qa, rfl⟩)
set_option maxHeartbeats 4000000 in
set_option maxRecDepth 100000 in
theorem c_X8_use (l : Launch) (K : KT) (o : Nat) (N B SS TT F : Int → Int) (lk gd un : Int) (r_lk : -2147483648 ≤ lk ∧ lk ≤ 2147483647) (r_gd : -2147483648 ≤ gd ∧ gd ≤ 2147483647) (r_un : -2147483648 ≤ un ∧ un ≤ 2147483647) (hI : Inv N) (hF0 : 0 ≤ F 0 ∧ F 0 ≤ 4) (hF1 : 0 ≤ F 1 ∧ F 1 < 4) : CtI l yX8_use cX8_use 4 .int 4 90 K [.ref o, .int (iI lk), .int (iI gd), .int (iI un)] (mW K o N B SS TT F) (Blk o 5) (fun (z : Int) (u : (Int → Int) × (Int → Int) × (Int → Int)) => ∃ N2 : Int → Int, (z, N2) = sUse N lk gd un ∧ u = (N2, recP N SS F z)) (fun u => mW K o u.1 N u.2.1 TT u.2.2) := by
  refine CtI_of (by decide) (Nat.le_of_ble_eq_true rfl) ?_
  intro p e s m args below meth c T hr hk hP hK ls hl
  have T : CF p m c cX8_use 4 s args RX8 := T
  have hS : va_S (Blk o 5) s.heap s.heap [] := va_S.rf
  have hl : lv_has ls 4 [(0, .ref o), (1, .int (iI lk)), (2, .int (iI gd)), (3, .int (iI un))] := hl
  refine lv_aload_n T.1 T.2.1 dX8_use_0 rfl (lv_at hl 0 rfl) ?_
  refine cV_V T hK hP hS 0 rfl rfl rfl (c_X8_copy l K o N B SS TT F ) iX8_copy mw_3_223 ⟨Nat.le_of_ble_eq_true rfl, Nat.le_of_ble_eq_true rfl⟩ hP (fun _ h => h) rfl hl.1 rfl (Nat.le_of_ble_eq_true rfl) ⟨Nat.zero_le _, Nat.zero_le _⟩ dX8_use_1 (fun N3 H1 locs q2 hP1 hg1 hg2 hS => ?_)
  have hP : xP K (mW K o N N SS TT F) H1 := hP1
  generalize H1 = H at hP hS ⊢
  clear hg1 hg2 hP1
  refine lv_aload_n T.1 T.2.1 dX8_use_4 rfl (lv_at hl 0 rfl) ?_
  refine lv_aload_n T.1 T.2.1 dX8_use_5 rfl (lv_at hl 0 rfl) ?_
  refine lv_iload_n T.1 T.2.1 dX8_use_6 rfl (lv_at hl 1 rfl) ?_
  refine lv_iload_n T.1 T.2.1 dX8_use_7 rfl (lv_at hl 2 rfl) ?_
  refine lv_iload_n T.1 T.2.1 dX8_use_8 rfl (lv_at hl 3 rfl) ?_
  refine cI_V T hK hP hS 0 rfl rfl rfl (c_X8_uses l K o N N SS TT F lk gd un (by omega) (by omega) (by omega) hI) iX8_uses mw_4_80 ⟨Nat.le_of_ble_eq_true rfl, Nat.le_of_ble_eq_true rfl⟩ hP (fun _ h => h) rfl hl.1 rfl (Nat.le_of_ble_eq_true rfl) ⟨Nat.zero_le _, Nat.zero_le _⟩ dX8_use_9 (fun za Na H1 locs qa hP1 hg1 hg2 hS => ?_)
  have hP : xP K (mW K o Na N SS TT F) H1 := hP1
  generalize H1 = H at hP hS ⊢
  clear hg1 hg2 hP1
  refine cI_V T hK hP hS 0 rfl rfl rfl (c_X8_recorded l K o Na N SS TT F za (by omega) (by omega)) iX8_recorded mw_3_239 ⟨Nat.le_of_ble_eq_true rfl, Nat.le_of_ble_eq_true rfl⟩ hP (fun _ h => h) rfl hl.1 rfl (Nat.le_of_ble_eq_true rfl) ⟨Nat.zero_le _, Nat.zero_le _⟩ dX8_use_12 (fun zr u9 H1 locs qr hP1 hg1 hg2 hS => ?_)
  have hP : xP K (mW K o Na N u9.1 TT u9.2) H1 := hP1
  generalize H1 = H at hP hS ⊢
  clear hg1 hg2 hP1
  obtain ⟨hz, hu⟩ := qr
  exact rI T (u := (Na, u9)) hr hk hK hP hS dX8_use_15 (by rw [hz, hu]; exact ⟨Na, qa, rfl⟩)
set_option maxHeartbeats 4000000 in
set_option maxRecDepth 100000 in
theorem c_X8_bring (l : Launch) (K : KT) (o : Nat) (N B SS TT F : Int → Int) (lk gd un : Int) (r_lk : -2147483648 ≤ lk ∧ lk ≤ 2147483647) (r_gd : -2147483648 ≤ gd ∧ gd ≤ 2147483647) (r_un : -2147483648 ≤ un ∧ un ≤ 2147483647) (hI : Inv N) (hF0 : 0 ≤ F 0 ∧ F 0 ≤ 4) (hF1 : 0 ≤ F 1 ∧ F 1 < 4) : CtI l yX8_bring cX8_bring 4 .int 4 90 K [.ref o, .int (iI lk), .int (iI gd), .int (iI un)] (mW K o N B SS TT F) (Blk o 5) (fun (z : Int) (u : (Int → Int) × (Int → Int) × (Int → Int)) => ∃ N2 : Int → Int, (z, N2) = sBring N lk gd un ∧ u = (N2, recP N SS F z)) (fun u => mW K o u.1 N u.2.1 TT u.2.2) := by
  refine CtI_of (by decide) (Nat.le_of_ble_eq_true rfl) ?_
  intro p e s m args below meth c T hr hk hP hK ls hl
  have T : CF p m c cX8_bring 4 s args RX8 := T
  have hS : va_S (Blk o 5) s.heap s.heap [] := va_S.rf
  have hl : lv_has ls 4 [(0, .ref o), (1, .int (iI lk)), (2, .int (iI gd)), (3, .int (iI un))] := hl
  refine lv_aload_n T.1 T.2.1 dX8_bring_0 rfl (lv_at hl 0 rfl) ?_
  refine cV_V T hK hP hS 0 rfl rfl rfl (c_X8_copy l K o N B SS TT F ) iX8_copy mw_3_223 ⟨Nat.le_of_ble_eq_true rfl, Nat.le_of_ble_eq_true rfl⟩ hP (fun _ h => h) rfl hl.1 rfl (Nat.le_of_ble_eq_true rfl) ⟨Nat.zero_le _, Nat.zero_le _⟩ dX8_bring_1 (fun N3 H1 locs q2 hP1 hg1 hg2 hS => ?_)
  have hP : xP K (mW K o N N SS TT F) H1 := hP1
  generalize H1 = H at hP hS ⊢
  clear hg1 hg2 hP1
  refine lv_aload_n T.1 T.2.1 dX8_bring_4 rfl (lv_at hl 0 rfl) ?_
  refine lv_aload_n T.1 T.2.1 dX8_bring_5 rfl (lv_at hl 0 rfl) ?_
  refine lv_iload_n T.1 T.2.1 dX8_bring_6 rfl (lv_at hl 1 rfl) ?_
  refine lv_iload_n T.1 T.2.1 dX8_bring_7 rfl (lv_at hl 2 rfl) ?_
  refine lv_iload_n T.1 T.2.1 dX8_bring_8 rfl (lv_at hl 3 rfl) ?_
  refine cI_V T hK hP hS 0 rfl rfl rfl (c_X8_brings l K o N N SS TT F lk gd un (by omega) (by omega) (by omega) hI) iX8_brings mw_4_99 ⟨Nat.le_of_ble_eq_true rfl, Nat.le_of_ble_eq_true rfl⟩ hP (fun _ h => h) rfl hl.1 rfl (Nat.le_of_ble_eq_true rfl) ⟨Nat.zero_le _, Nat.zero_le _⟩ dX8_bring_9 (fun za Na H1 locs qa hP1 hg1 hg2 hS => ?_)
  have hP : xP K (mW K o Na N SS TT F) H1 := hP1
  generalize H1 = H at hP hS ⊢
  clear hg1 hg2 hP1
  refine cI_V T hK hP hS 0 rfl rfl rfl (c_X8_recorded l K o Na N SS TT F za (by omega) (by omega)) iX8_recorded mw_3_239 ⟨Nat.le_of_ble_eq_true rfl, Nat.le_of_ble_eq_true rfl⟩ hP (fun _ h => h) rfl hl.1 rfl (Nat.le_of_ble_eq_true rfl) ⟨Nat.zero_le _, Nat.zero_le _⟩ dX8_bring_12 (fun zr u9 H1 locs qr hP1 hg1 hg2 hS => ?_)
  have hP : xP K (mW K o Na N u9.1 TT u9.2) H1 := hP1
  generalize H1 = H at hP hS ⊢
  clear hg1 hg2 hP1
  obtain ⟨hz, hu⟩ := qr
  exact rI T (u := (Na, u9)) hr hk hK hP hS dX8_bring_15 (by rw [hz, hu]; exact ⟨Na, qa, rfl⟩)
set_option maxHeartbeats 4000000 in
set_option maxRecDepth 100000 in
theorem c_X8_smash (l : Launch) (K : KT) (o : Nat) (N B SS TT F : Int → Int) (lk gd un wt : Int) (r_lk : -2147483648 ≤ lk ∧ lk ≤ 2147483647) (r_gd : -2147483648 ≤ gd ∧ gd ≤ 2147483647) (r_un : -2147483648 ≤ un ∧ un ≤ 2147483647) (r_wt : -2147483648 ≤ wt ∧ wt ≤ 2147483647) (hI : Inv N) (hF0 : 0 ≤ F 0 ∧ F 0 ≤ 4) (hF1 : 0 ≤ F 1 ∧ F 1 < 4) : CtI l yX8_smash cX8_smash 5 .int 4 91 K [.ref o, .int (iI lk), .int (iI gd), .int (iI un), .int (iI wt)] (mW K o N B SS TT F) (Blk o 5) (fun (z : Int) (u : (Int → Int) × (Int → Int) × (Int → Int)) => ∃ N2 : Int → Int, (z, N2) = sSmash N lk gd un wt ∧ u = (N2, recP N SS F z)) (fun u => mW K o u.1 N u.2.1 TT u.2.2) := by
  refine CtI_of (by decide) (Nat.le_of_ble_eq_true rfl) ?_
  intro p e s m args below meth c T hr hk hP hK ls hl
  have T : CF p m c cX8_smash 5 s args RX8 := T
  have hS : va_S (Blk o 5) s.heap s.heap [] := va_S.rf
  have hl : lv_has ls 5 [(0, .ref o), (1, .int (iI lk)), (2, .int (iI gd)), (3, .int (iI un)), (4, .int (iI wt))] := hl
  refine lv_aload_n T.1 T.2.1 dX8_smash_0 rfl (lv_at hl 0 rfl) ?_
  refine cV_V T hK hP hS 0 rfl rfl rfl (c_X8_copy l K o N B SS TT F ) iX8_copy mw_3_223 ⟨Nat.le_of_ble_eq_true rfl, Nat.le_of_ble_eq_true rfl⟩ hP (fun _ h => h) rfl hl.1 rfl (Nat.le_of_ble_eq_true rfl) ⟨Nat.zero_le _, Nat.zero_le _⟩ dX8_smash_1 (fun N3 H1 locs q2 hP1 hg1 hg2 hS => ?_)
  have hP : xP K (mW K o N N SS TT F) H1 := hP1
  generalize H1 = H at hP hS ⊢
  clear hg1 hg2 hP1
  refine lv_aload_n T.1 T.2.1 dX8_smash_4 rfl (lv_at hl 0 rfl) ?_
  refine lv_aload_n T.1 T.2.1 dX8_smash_5 rfl (lv_at hl 0 rfl) ?_
  refine lv_iload_n T.1 T.2.1 dX8_smash_6 rfl (lv_at hl 1 rfl) ?_
  refine lv_iload_n T.1 T.2.1 dX8_smash_7 rfl (lv_at hl 2 rfl) ?_
  refine lv_iload_n T.1 T.2.1 dX8_smash_8 rfl (lv_at hl 3 rfl) ?_
  refine lv_iload T.1 T.2.1 dX8_smash_9 (lv_at hl 4 rfl) ?_
  refine cI_V T hK hP hS 0 rfl rfl rfl (c_X8_smashes l K o N N SS TT F lk gd un wt (by omega) (by omega) (by omega) (by omega) hI) iX8_smashes mw_4_107 ⟨Nat.le_of_ble_eq_true rfl, Nat.le_of_ble_eq_true rfl⟩ hP (fun _ h => h) rfl hl.1 rfl (Nat.le_of_ble_eq_true rfl) ⟨Nat.zero_le _, Nat.zero_le _⟩ dX8_smash_11 (fun za Na H1 locs qa hP1 hg1 hg2 hS => ?_)
  have hP : xP K (mW K o Na N SS TT F) H1 := hP1
  generalize H1 = H at hP hS ⊢
  clear hg1 hg2 hP1
  refine cI_V T hK hP hS 0 rfl rfl rfl (c_X8_recorded l K o Na N SS TT F za (by omega) (by omega)) iX8_recorded mw_3_239 ⟨Nat.le_of_ble_eq_true rfl, Nat.le_of_ble_eq_true rfl⟩ hP (fun _ h => h) rfl hl.1 rfl (Nat.le_of_ble_eq_true rfl) ⟨Nat.zero_le _, Nat.zero_le _⟩ dX8_smash_14 (fun zr u9 H1 locs qr hP1 hg1 hg2 hS => ?_)
  have hP : xP K (mW K o Na N u9.1 TT u9.2) H1 := hP1
  generalize H1 = H at hP hS ⊢
  clear hg1 hg2 hP1
  obtain ⟨hz, hu⟩ := qr
  exact rI T (u := (Na, u9)) hr hk hK hP hS dX8_smash_17 (by rw [hz, hu]; exact ⟨Na, qa, rfl⟩)
set_option maxHeartbeats 4000000 in
set_option maxRecDepth 100000 in
theorem c_X8_tear (l : Launch) (K : KT) (o : Nat) (N B SS TT F : Int → Int) (lk : Int) (r_lk : -2147483648 ≤ lk ∧ lk ≤ 2147483647) (hI : Inv N) (hF0 : 0 ≤ F 0 ∧ F 0 ≤ 4) (hF1 : 0 ≤ F 1 ∧ F 1 < 4) : CtI l yX8_tear cX8_tear 2 .int 3 64 K [.ref o, .int (iI lk)] (mW K o N B SS TT F) (Blk o 5) (fun (z : Int) (u : (Int → Int) × (Int → Int) × (Int → Int)) => ∃ N2 : Int → Int, (z, N2) = sTear N lk ∧ u = (N2, recP N SS F z)) (fun u => mW K o u.1 N u.2.1 TT u.2.2) := by
  refine CtI_of (by decide) (Nat.le_of_ble_eq_true rfl) ?_
  intro p e s m args below meth c T hr hk hP hK ls hl
  have T : CF p m c cX8_tear 2 s args RX8 := T
  have hS : va_S (Blk o 5) s.heap s.heap [] := va_S.rf
  have hl : lv_has ls 2 [(0, .ref o), (1, .int (iI lk))] := hl
  refine lv_aload_n T.1 T.2.1 dX8_tear_0 rfl (lv_at hl 0 rfl) ?_
  refine cV_V T hK hP hS 0 rfl rfl rfl (c_X8_copy l K o N B SS TT F ) iX8_copy mw_3_223 ⟨Nat.le_of_ble_eq_true rfl, Nat.le_of_ble_eq_true rfl⟩ hP (fun _ h => h) rfl hl.1 rfl (Nat.le_of_ble_eq_true rfl) ⟨Nat.zero_le _, Nat.zero_le _⟩ dX8_tear_1 (fun N3 H1 locs q2 hP1 hg1 hg2 hS => ?_)
  have hP : xP K (mW K o N N SS TT F) H1 := hP1
  generalize H1 = H at hP hS ⊢
  clear hg1 hg2 hP1
  refine lv_aload_n T.1 T.2.1 dX8_tear_4 rfl (lv_at hl 0 rfl) ?_
  refine lv_aload_n T.1 T.2.1 dX8_tear_5 rfl (lv_at hl 0 rfl) ?_
  refine lv_iload_n T.1 T.2.1 dX8_tear_6 rfl (lv_at hl 1 rfl) ?_
  refine cI_V T hK hP hS 0 rfl rfl rfl (c_X8_tears l K o N N SS TT F lk (by omega) hI) iX8_tears mw_4_115 ⟨Nat.le_of_ble_eq_true rfl, Nat.le_of_ble_eq_true rfl⟩ hP (fun _ h => h) rfl hl.1 rfl (Nat.le_of_ble_eq_true rfl) ⟨Nat.zero_le _, Nat.zero_le _⟩ dX8_tear_7 (fun za Na H1 locs qa hP1 hg1 hg2 hS => ?_)
  have hP : xP K (mW K o Na N SS TT F) H1 := hP1
  generalize H1 = H at hP hS ⊢
  clear hg1 hg2 hP1
  refine cI_V T hK hP hS 0 rfl rfl rfl (c_X8_recorded l K o Na N SS TT F za (by omega) (by omega)) iX8_recorded mw_3_239 ⟨Nat.le_of_ble_eq_true rfl, Nat.le_of_ble_eq_true rfl⟩ hP (fun _ h => h) rfl hl.1 rfl (Nat.le_of_ble_eq_true rfl) ⟨Nat.zero_le _, Nat.zero_le _⟩ dX8_tear_10 (fun zr u9 H1 locs qr hP1 hg1 hg2 hS => ?_)
  have hP : xP K (mW K o Na N u9.1 TT u9.2) H1 := hP1
  generalize H1 = H at hP hS ⊢
  clear hg1 hg2 hP1
  obtain ⟨hz, hu⟩ := qr
  exact rI T (u := (Na, u9)) hr hk hK hP hS dX8_tear_13 (by rw [hz, hu]; exact ⟨Na, qa, rfl⟩)
set_option maxHeartbeats 4000000 in
set_option maxRecDepth 100000 in
theorem c_X8_inspect (l : Launch) (K : KT) (o : Nat) (N B SS TT F : Int → Int) (lk : Int) (r_lk : -2147483648 ≤ lk ∧ lk ≤ 2147483647) (hI : Inv N) (hF0 : 0 ≤ F 0 ∧ F 0 ≤ 4) (hF1 : 0 ≤ F 1 ∧ F 1 < 4) : CtI l yX8_inspect cX8_inspect 2 .int 3 77 K [.ref o, .int (iI lk)] (mW K o N B SS TT F) (Blk o 5) (fun (z : Int) (u : (Int → Int) × (Int → Int) × (Int → Int)) => ∃ N2 : Int → Int, (z, N2) = sInspect N lk ∧ u = (N2, recP N SS F z)) (fun u => mW K o u.1 N u.2.1 TT u.2.2) := by
  refine CtI_of (by decide) (Nat.le_of_ble_eq_true rfl) ?_
  intro p e s m args below meth c T hr hk hP hK ls hl
  have T : CF p m c cX8_inspect 2 s args RX8 := T
  have hS : va_S (Blk o 5) s.heap s.heap [] := va_S.rf
  have hl : lv_has ls 2 [(0, .ref o), (1, .int (iI lk))] := hl
  refine lv_aload_n T.1 T.2.1 dX8_inspect_0 rfl (lv_at hl 0 rfl) ?_
  refine cV_V T hK hP hS 0 rfl rfl rfl (c_X8_copy l K o N B SS TT F ) iX8_copy mw_3_223 ⟨Nat.le_of_ble_eq_true rfl, Nat.le_of_ble_eq_true rfl⟩ hP (fun _ h => h) rfl hl.1 rfl (Nat.le_of_ble_eq_true rfl) ⟨Nat.zero_le _, Nat.zero_le _⟩ dX8_inspect_1 (fun N3 H1 locs q2 hP1 hg1 hg2 hS => ?_)
  have hP : xP K (mW K o N N SS TT F) H1 := hP1
  generalize H1 = H at hP hS ⊢
  clear hg1 hg2 hP1
  refine lv_aload_n T.1 T.2.1 dX8_inspect_4 rfl (lv_at hl 0 rfl) ?_
  refine lv_aload_n T.1 T.2.1 dX8_inspect_5 rfl (lv_at hl 0 rfl) ?_
  refine lv_iload_n T.1 T.2.1 dX8_inspect_6 rfl (lv_at hl 1 rfl) ?_
  refine cI_V T hK hP hS 0 rfl rfl rfl (c_X8_inspects l K o N N SS TT F lk (by omega) hI) iX8_inspects mw_4_123 ⟨Nat.le_of_ble_eq_true rfl, Nat.le_of_ble_eq_true rfl⟩ hP (fun _ h => h) rfl hl.1 rfl (Nat.le_of_ble_eq_true rfl) ⟨Nat.zero_le _, Nat.zero_le _⟩ dX8_inspect_7 (fun za Na H1 locs qa hP1 hg1 hg2 hS => ?_)
  have hP : xP K (mW K o Na N SS TT F) H1 := hP1
  generalize H1 = H at hP hS ⊢
  clear hg1 hg2 hP1
  refine cI_V T hK hP hS 0 rfl rfl rfl (c_X8_recorded l K o Na N SS TT F za (by omega) (by omega)) iX8_recorded mw_3_239 ⟨Nat.le_of_ble_eq_true rfl, Nat.le_of_ble_eq_true rfl⟩ hP (fun _ h => h) rfl hl.1 rfl (Nat.le_of_ble_eq_true rfl) ⟨Nat.zero_le _, Nat.zero_le _⟩ dX8_inspect_10 (fun zr u9 H1 locs qr hP1 hg1 hg2 hS => ?_)
  have hP : xP K (mW K o Na N u9.1 TT u9.2) H1 := hP1
  generalize H1 = H at hP hS ⊢
  clear hg1 hg2 hP1
  obtain ⟨hz, hu⟩ := qr
  exact rI T (u := (Na, u9)) hr hk hK hP hS dX8_inspect_13 (by rw [hz, hu]; exact ⟨Na, qa, rfl⟩)
set_option maxHeartbeats 4000000 in
set_option maxRecDepth 100000 in
theorem c_X8_cross (l : Launch) (K : KT) (o : Nat) (N B SS TT F : Int → Int) (zn : Int) (r_zn : -2147483648 ≤ zn ∧ zn ≤ 2147483647) (hI : Inv N) (hF0 : 0 ≤ F 0 ∧ F 0 ≤ 4) (hF1 : 0 ≤ F 1 ∧ F 1 < 4) : CtI l yX8_cross cX8_cross 2 .int 2 47 K [.ref o, .int (iI zn)] (mW K o N B SS TT F) (Blk o 5) (fun (z : Int) (u : (Int → Int) × (Int → Int) × (Int → Int)) => ∃ N2 : Int → Int, (z, N2) = sCross N zn ∧ u = (N2, recP N SS F z)) (fun u => mW K o u.1 N u.2.1 TT u.2.2) := by
  refine CtI_of (by decide) (Nat.le_of_ble_eq_true rfl) ?_
  intro p e s m args below meth c T hr hk hP hK ls hl
  have T : CF p m c cX8_cross 2 s args RX8 := T
  have hS : va_S (Blk o 5) s.heap s.heap [] := va_S.rf
  have hl : lv_has ls 2 [(0, .ref o), (1, .int (iI zn))] := hl
  refine lv_aload_n T.1 T.2.1 dX8_cross_0 rfl (lv_at hl 0 rfl) ?_
  refine cV_V T hK hP hS 0 rfl rfl rfl (c_X8_copy l K o N B SS TT F ) iX8_copy mw_3_223 ⟨Nat.le_of_ble_eq_true rfl, Nat.le_of_ble_eq_true rfl⟩ hP (fun _ h => h) rfl hl.1 rfl (Nat.le_of_ble_eq_true rfl) ⟨Nat.zero_le _, Nat.zero_le _⟩ dX8_cross_1 (fun N3 H1 locs q2 hP1 hg1 hg2 hS => ?_)
  have hP : xP K (mW K o N N SS TT F) H1 := hP1
  generalize H1 = H at hP hS ⊢
  clear hg1 hg2 hP1
  refine lv_aload_n T.1 T.2.1 dX8_cross_4 rfl (lv_at hl 0 rfl) ?_
  refine lv_aload_n T.1 T.2.1 dX8_cross_5 rfl (lv_at hl 0 rfl) ?_
  refine lv_iload_n T.1 T.2.1 dX8_cross_6 rfl (lv_at hl 1 rfl) ?_
  refine cI_V T hK hP hS 0 rfl rfl rfl (c_X8_crosses l K o N N SS TT F zn (by omega) hI) iX8_crosses mw_4_136 ⟨Nat.le_of_ble_eq_true rfl, Nat.le_of_ble_eq_true rfl⟩ hP (fun _ h => h) rfl hl.1 rfl (Nat.le_of_ble_eq_true rfl) ⟨Nat.zero_le _, Nat.zero_le _⟩ dX8_cross_7 (fun za Na H1 locs qa hP1 hg1 hg2 hS => ?_)
  have hP : xP K (mW K o Na N SS TT F) H1 := hP1
  generalize H1 = H at hP hS ⊢
  clear hg1 hg2 hP1
  refine cI_V T hK hP hS 0 rfl rfl rfl (c_X8_recorded l K o Na N SS TT F za (by omega) (by omega)) iX8_recorded mw_3_239 ⟨Nat.le_of_ble_eq_true rfl, Nat.le_of_ble_eq_true rfl⟩ hP (fun _ h => h) rfl hl.1 rfl (Nat.le_of_ble_eq_true rfl) ⟨Nat.zero_le _, Nat.zero_le _⟩ dX8_cross_10 (fun zr u9 H1 locs qr hP1 hg1 hg2 hS => ?_)
  have hP : xP K (mW K o Na N u9.1 TT u9.2) H1 := hP1
  generalize H1 = H at hP hS ⊢
  clear hg1 hg2 hP1
  obtain ⟨hz, hu⟩ := qr
  exact rI T (u := (Na, u9)) hr hk hK hP hS dX8_cross_13 (by rw [hz, hu]; exact ⟨Na, qa, rfl⟩)
set_option maxHeartbeats 4000000 in
set_option maxRecDepth 100000 in
theorem c_X8_pass (l : Launch) (K : KT) (o : Nat) (N B SS TT F : Int → Int) (dy : Int) (r_dy : -2147483648 ≤ dy ∧ dy ≤ 2147483647) (hI : Inv N) (hF0 : 0 ≤ F 0 ∧ F 0 ≤ 4) (hF1 : 0 ≤ F 1 ∧ F 1 < 4) : CtI l yX8_pass cX8_pass 2 .int 3 72 K [.ref o, .int (iI dy)] (mW K o N B SS TT F) (Blk o 5) (fun (z : Int) (u : (Int → Int) × (Int → Int) × (Int → Int)) => ∃ N2 : Int → Int, (z, N2) = sPass N dy ∧ u = (N2, recP N SS F z)) (fun u => mW K o u.1 N u.2.1 TT u.2.2) := by
  refine CtI_of (by decide) (Nat.le_of_ble_eq_true rfl) ?_
  intro p e s m args below meth c T hr hk hP hK ls hl
  have T : CF p m c cX8_pass 2 s args RX8 := T
  have hS : va_S (Blk o 5) s.heap s.heap [] := va_S.rf
  have hl : lv_has ls 2 [(0, .ref o), (1, .int (iI dy))] := hl
  refine lv_aload_n T.1 T.2.1 dX8_pass_0 rfl (lv_at hl 0 rfl) ?_
  refine cV_V T hK hP hS 0 rfl rfl rfl (c_X8_copy l K o N B SS TT F ) iX8_copy mw_3_223 ⟨Nat.le_of_ble_eq_true rfl, Nat.le_of_ble_eq_true rfl⟩ hP (fun _ h => h) rfl hl.1 rfl (Nat.le_of_ble_eq_true rfl) ⟨Nat.zero_le _, Nat.zero_le _⟩ dX8_pass_1 (fun N3 H1 locs q2 hP1 hg1 hg2 hS => ?_)
  have hP : xP K (mW K o N N SS TT F) H1 := hP1
  generalize H1 = H at hP hS ⊢
  clear hg1 hg2 hP1
  refine lv_aload_n T.1 T.2.1 dX8_pass_4 rfl (lv_at hl 0 rfl) ?_
  refine lv_aload_n T.1 T.2.1 dX8_pass_5 rfl (lv_at hl 0 rfl) ?_
  refine lv_iload_n T.1 T.2.1 dX8_pass_6 rfl (lv_at hl 1 rfl) ?_
  refine cI_V T hK hP hS 0 rfl rfl rfl (c_X8_passes l K o N N SS TT F dy (by omega) hI) iX8_passes mw_4_148 ⟨Nat.le_of_ble_eq_true rfl, Nat.le_of_ble_eq_true rfl⟩ hP (fun _ h => h) rfl hl.1 rfl (Nat.le_of_ble_eq_true rfl) ⟨Nat.zero_le _, Nat.zero_le _⟩ dX8_pass_7 (fun za Na H1 locs qa hP1 hg1 hg2 hS => ?_)
  have hP : xP K (mW K o Na N SS TT F) H1 := hP1
  generalize H1 = H at hP hS ⊢
  clear hg1 hg2 hP1
  refine cI_V T hK hP hS 0 rfl rfl rfl (c_X8_recorded l K o Na N SS TT F za (by omega) (by omega)) iX8_recorded mw_3_239 ⟨Nat.le_of_ble_eq_true rfl, Nat.le_of_ble_eq_true rfl⟩ hP (fun _ h => h) rfl hl.1 rfl (Nat.le_of_ble_eq_true rfl) ⟨Nat.zero_le _, Nat.zero_le _⟩ dX8_pass_10 (fun zr u9 H1 locs qr hP1 hg1 hg2 hS => ?_)
  have hP : xP K (mW K o Na N u9.1 TT u9.2) H1 := hP1
  generalize H1 = H at hP hS ⊢
  clear hg1 hg2 hP1
  obtain ⟨hz, hu⟩ := qr
  exact rI T (u := (Na, u9)) hr hk hK hP hS dX8_pass_13 (by rw [hz, hu]; exact ⟨Na, qa, rfl⟩)
set_option maxHeartbeats 4000000 in
set_option maxRecDepth 100000 in
theorem c_X8_duty (l : Launch) (K : KT) (o : Nat) (N B SS TT F : Int → Int) (gd dt : Int) (r_gd : -2147483648 ≤ gd ∧ gd ≤ 2147483647) (r_dt : -2147483648 ≤ dt ∧ dt ≤ 2147483647) (hI : Inv N) (hF0 : 0 ≤ F 0 ∧ F 0 ≤ 4) (hF1 : 0 ≤ F 1 ∧ F 1 < 4) : CtI l yX8_duty cX8_duty 4 .int 2 43 K [.ref o, .int (iI gd), .int (iI dt)] (mW K o N B SS TT F) (Blk o 5) (fun (z : Int) (u : (Int → Int) × (Int → Int) × (Int → Int) × (Int → Int)) => (z, u.1) = sDuty N gd dt ∧ u.2.2 = recP N SS F z) (fun u => mW K o u.1 u.2.1 u.2.2.1 TT u.2.2.2) := by
  refine CtI_of (by decide) (Nat.le_of_ble_eq_true rfl) ?_
  intro p e s m args below meth c T hr hk hP hK ls hl
  have T : CF p m c cX8_duty 4 s args RX8 := T
  have hS : va_S (Blk o 5) s.heap s.heap [] := va_S.rf
  have hl : lv_has ls 4 [(0, .ref o), (1, .int (iI gd)), (2, .int (iI dt))] := hl
  obtain ⟨hI0, hIL, hIH, hIB, hID, hIC, hIG, hIZ, hIF⟩ := id hI
  have hR : InR N := ⟨hI0, hIB⟩
  obtain ⟨b0, b1, b2, b3, b4, b5, b6, b7, b8, b9⟩ := id hI0
  refine lv_aload_n T.1 T.2.1 dX8_duty_0 rfl (lv_at hl 0 rfl) ?_
  refine lv_iload_n T.1 T.2.1 dX8_duty_1 rfl (lv_at hl 1 rfl) ?_
  refine cI_V T hK hP hS 0 rfl rfl rfl (c_X8_isGood l K o N B SS TT F gd (by omega) hI) iX8_isGood mw_4_22 ⟨Nat.le_of_ble_eq_true rfl, Nat.le_of_ble_eq_true rfl⟩ hP noA rfl hl.1 rfl (Nat.le_of_ble_eq_true rfl) ⟨Nat.zero_le _, Nat.zero_le _⟩ dX8_duty_2 (fun z1 _ H1 locs q2 hP1 hg1 hg2 hS => ?_)
  have hP := xP_kept hP hg2
  generalize H1 = H at hP hS ⊢
  clear hg1 hg2 hP1
  rcases q2 with ⟨rfl, q2⟩ | ⟨rfl, q2⟩
  · skip
    refine xv_if_eq T (by omega) (tgt := 15) dX8_duty_5 (by decide) (fun c3 => absurd c3 (by omega)) (fun _ => ?_)
    refine lv_iload_n T.1 T.2.1 dX8_duty_8 rfl (lv_at hl 2 rfl) ?_
    refine cI_S T hK hP hS (c_X8_isDuty l K dt (by omega)) iX8_isDuty mw_4_11 ⟨Nat.le_of_ble_eq_true rfl, Nat.le_of_ble_eq_true rfl⟩ xP_nil noA rfl hl.1 rfl (Nat.le_of_ble_eq_true rfl) ⟨Nat.zero_le _, Nat.zero_le _⟩ dX8_duty_9 (fun z4 _ H1 locs q5 hP1 hg1 hg2 hS => ?_)
    have hP := xP_kept hP hg2
    generalize H1 = H at hP hS ⊢
    clear hg1 hg2 hP1
    rcases q5 with ⟨rfl, q5⟩ | ⟨rfl, q5⟩
    · skip
      refine xv_if_ne T (by omega) (tgt := 17) dX8_duty_12 (by decide) (fun _ => ?_) (fun c6 => absurd c6 (by omega))
      refine lv_aload_n T.1 T.2.1 dX8_duty_17 rfl (lv_at hl 0 rfl) ?_
      refine cV_V T hK hP hS 0 rfl rfl rfl (c_X8_copy l K o N B SS TT F ) iX8_copy mw_3_223 ⟨Nat.le_of_ble_eq_true rfl, Nat.le_of_ble_eq_true rfl⟩ hP (fun _ h => h) rfl hl.1 rfl (Nat.le_of_ble_eq_true rfl) ⟨Nat.zero_le _, Nat.zero_le _⟩ dX8_duty_18 (fun N9 H1 locs q8 hP1 hg1 hg2 hS => ?_)
      have hP : xP K (mW K o N N SS TT F) H1 := hP1
      generalize H1 = H at hP hS ⊢
      clear hg1 hg2 hP1
      refine lv_aload_n T.1 T.2.1 dX8_duty_21 rfl (lv_at hl 0 rfl) ?_
      refine g8_now T hK hP 0 rfl rfl mw_3_175 dX8_duty_22 ?_
      refine xv_bipush T dX8_duty_25 (by omega) ?_
      refine lv_iload_n T.1 T.2.1 dX8_duty_27 rfl (lv_at hl 1 rfl) ?_
      refine xv_iadd T dX8_duty_28 ?_
      refine xa_iald T hK hP 1 rfl rfl (104 + gd) (by omega) (by omega) (by decide) dX8_duty_29 ?_
      have f10 := hID gd (by omega) (by omega)
      refine lv_istore_n (lv' := [(3, .int (iI (N (104 + gd)))), (0, .ref o), (1, .int (iI gd)), (2, .int (iI dt))]) T.1 T.2.1 dX8_duty_30 rfl hl (by decide) rfl (fun ls hl => ?_)
      refine lv_aload_n T.1 T.2.1 dX8_duty_31 rfl (lv_at hl 1 rfl) ?_
      refine g8_now T hK hP 0 rfl rfl mw_3_175 dX8_duty_32 ?_
      refine xv_bipush T dX8_duty_35 (by omega) ?_
      refine lv_iload_n T.1 T.2.1 dX8_duty_37 rfl (lv_at hl 2 rfl) ?_
      refine xv_iadd T dX8_duty_38 ?_
      refine lv_iload_n T.1 T.2.1 dX8_duty_39 rfl (lv_at hl 3 rfl) ?_
      refine xa_iast T hK hP (m_D K o N N SS TT F) hS 1 rfl rfl (by omega) (by decide) dX8_duty_40 (mu_N K o N N SS TT F dt (by omega)) (fun H locs hP hS => ?_)
      obtain ⟨Nm, hNm⟩ : ∃ Y0 : Int → Int, Y0 = uZ N (104 + gd) dt := ⟨_, rfl⟩
      have hP : xP K (mW K o Nm N SS TT F) H := by rw [hNm]; exact hP
      refine lv_aload_n T.1 T.2.1 dX8_duty_41 rfl (lv_at hl 1 rfl) ?_
      refine lv_iload_n T.1 T.2.1 dX8_duty_42 rfl (lv_at hl 0 rfl) ?_
      refine cI_V T hK hP hS 0 rfl rfl rfl (c_X8_recorded l K o Nm N SS TT F (N (104 + gd)) (by omega) (by omega)) iX8_recorded mw_3_239 ⟨Nat.le_of_ble_eq_true rfl, Nat.le_of_ble_eq_true rfl⟩ hP (fun _ h => h) rfl hl.1 rfl (Nat.le_of_ble_eq_true rfl) ⟨Nat.zero_le _, Nat.zero_le _⟩ dX8_duty_43 (fun zr u9 H1 locs qr hP1 hg1 hg2 hS => ?_)
      have hP : xP K (mW K o Nm N u9.1 TT u9.2) H1 := hP1
      generalize H1 = H at hP hS ⊢
      clear hg1 hg2 hP1
      obtain ⟨hz, hu⟩ := qr
      subst hz
      exact rI T (u := (Nm, N, u9.1, u9.2)) hr hk hK hP hS dX8_duty_46 (by refine ⟨?_, hu⟩; rw [hNm]; unfold sDuty; rw [if_neg (by omega)])
    · skip
      refine xv_if_ne T (by omega) (tgt := 17) dX8_duty_12 (by decide) (fun c11 => absurd c11 (by omega)) (fun _ => ?_)
      refine xv_iconst T dX8_duty_15 ?_
      exact rI T (u := (N, B, SS, F)) hr hk hK hP hS dX8_duty_16 (⟨by unfold sDuty; (repeat' split) <;> first | (exfalso; omega) | rfl, by unfold recP; rw [if_pos (by decide)]⟩)
  · skip
    refine xv_if_eq T (by omega) (tgt := 15) dX8_duty_5 (by decide) (fun _ => ?_) (fun c12 => absurd c12 (by omega))
    refine xv_iconst T dX8_duty_15 ?_
    exact rI T (u := (N, B, SS, F)) hr hk hK hP hS dX8_duty_16 (⟨by unfold sDuty; (repeat' split) <;> first | (exfalso; omega) | rfl, by unfold recP; rw [if_pos (by decide)]⟩)
set_option maxHeartbeats 4000000 in
set_option maxRecDepth 100000 in
theorem c_X8_set (l : Launch) (K : KT) (o : Nat) (N B SS TT F : Int → Int) (wh vl : Int) (r_wh : -2147483648 ≤ wh ∧ wh ≤ 2147483647) (r_vl : -2147483648 ≤ vl ∧ vl ≤ 2147483647) (hI : Inv N) (hF0 : 0 ≤ F 0 ∧ F 0 ≤ 4) (hF1 : 0 ≤ F 1 ∧ F 1 < 4) : CtI l yX8_set cX8_set 4 .int 1 22 K [.ref o, .int (iI wh), .int (iI vl)] (mW K o N B SS TT F) (Blk o 5) (fun (z : Int) (u : (Int → Int) × (Int → Int) × (Int → Int) × (Int → Int)) => (z, u.1) = sSet N wh vl ∧ u.2.2 = recP N SS F z) (fun u => mW K o u.1 u.2.1 u.2.2.1 TT u.2.2.2) := by
  refine CtI_of (by decide) (Nat.le_of_ble_eq_true rfl) ?_
  intro p e s m args below meth c T hr hk hP hK ls hl
  have T : CF p m c cX8_set 4 s args RX8 := T
  have hS : va_S (Blk o 5) s.heap s.heap [] := va_S.rf
  have hl : lv_has ls 4 [(0, .ref o), (1, .int (iI wh)), (2, .int (iI vl))] := hl
  obtain ⟨hI0, hIL, hIH, hIB, hID, hIC, hIG, hIZ, hIF⟩ := id hI
  have hR : InR N := ⟨hI0, hIB⟩
  obtain ⟨b0, b1, b2, b3, b4, b5, b6, b7, b8, b9⟩ := id hI0
  refine lv_iload_n T.1 T.2.1 dX8_set_0 rfl (lv_at hl 1 rfl) ?_
  refine xv_iconst T dX8_set_1 ?_
  refine xv_iconst T dX8_set_2 ?_
  refine cI_S T hK hP hS (c_X8_in l K wh 0 1 (by omega) (by omega) (by omega)) iX8_in mw_4_15 ⟨Nat.le_of_ble_eq_true rfl, Nat.le_of_ble_eq_true rfl⟩ xP_nil noA rfl hl.1 rfl (Nat.le_of_ble_eq_true rfl) ⟨Nat.zero_le _, Nat.zero_le _⟩ dX8_set_3 (fun z1 _ H1 locs q2 hP1 hg1 hg2 hS => ?_)
  have hP := xP_kept hP hg2
  generalize H1 = H at hP hS ⊢
  clear hg1 hg2 hP1
  rcases q2 with ⟨rfl, q2⟩ | ⟨rfl, q2⟩
  · skip
    refine xv_if_eq T (by omega) (tgt := 28) dX8_set_6 (by decide) (fun c3 => absurd c3 (by omega)) (fun _ => ?_)
    have jn22 : ∀ (mx : Int) (H : Heap) (locs : List Loc) (ls : Array Slot), (mx = if wh = 0 then 100000 else 99) → xP K (mW K o N B SS TT F) H → va_S (Blk o 5) s.heap H locs → lv_has ls 4 [(0, .ref o), (1, .int (iI wh)), (2, .int (iI vl))] → W p l e (rmF 1 22) s m args below meth c H locs 0 0 (MQ below (qI K (fun (z : Int) (u : (Int → Int) × (Int → Int) × (Int → Int) × (Int → Int)) => (z, u.1) = sSet N wh vl ∧ u.2.2 = recP N SS F z) (fun u => mW K o u.1 u.2.1 u.2.2.1 TT u.2.2.2) (Blk o 5)) args s 0 0 (Blk o 5)) (F0 m 22 ls [.int (iI mx), .int (iI wh), .int (iI vl)]) := by
      intro mx H locs ls hmx hP hS hl
      have hmr : 99 ≤ mx ∧ mx ≤ 100000 := by rw [hmx]; split <;> omega
      refine cI_S T hK hP hS (c_X8_in l K vl wh mx (by omega) (by omega) (by omega)) iX8_in mw_4_15 ⟨Nat.le_of_ble_eq_true rfl, Nat.le_of_ble_eq_true rfl⟩ xP_nil noA rfl hl.1 rfl (Nat.le_of_ble_eq_true rfl) ⟨Nat.zero_le _, Nat.zero_le _⟩ dX8_set_22 (fun z4 _ H1 locs q5 hP1 hg1 hg2 hS => ?_)
      have hP := xP_kept hP hg2
      generalize H1 = H at hP hS ⊢
      clear hg1 hg2 hP1
      rcases q5 with ⟨rfl, q5⟩ | ⟨rfl, q5⟩
      · skip
        refine xv_if_ne T (by omega) (tgt := 30) dX8_set_25 (by decide) (fun _ => ?_) (fun c6 => absurd c6 (by omega))
        refine lv_aload_n T.1 T.2.1 dX8_set_30 rfl (lv_at hl 0 rfl) ?_
        refine cV_V T hK hP hS 0 rfl rfl rfl (c_X8_copy l K o N B SS TT F ) iX8_copy mw_3_223 ⟨Nat.le_of_ble_eq_true rfl, Nat.le_of_ble_eq_true rfl⟩ hP (fun _ h => h) rfl hl.1 rfl (Nat.le_of_ble_eq_true rfl) ⟨Nat.zero_le _, Nat.zero_le _⟩ dX8_set_31 (fun N9 H1 locs q8 hP1 hg1 hg2 hS => ?_)
        have hP : xP K (mW K o N N SS TT F) H1 := hP1
        generalize H1 = H at hP hS ⊢
        clear hg1 hg2 hP1
        refine lv_aload_n T.1 T.2.1 dX8_set_34 rfl (lv_at hl 0 rfl) ?_
        refine g8_now T hK hP 0 rfl rfl mw_3_175 dX8_set_35 ?_
        refine xv_iconst T dX8_set_38 ?_
        refine lv_iload_n T.1 T.2.1 dX8_set_39 rfl (lv_at hl 1 rfl) ?_
        refine xv_iadd T dX8_set_40 ?_
        refine xa_iald T hK hP 1 rfl rfl (2 + wh) (by omega) (by omega) (by decide) dX8_set_41 ?_
        refine lv_istore_n (lv' := [(3, .int (iI (N (2 + wh)))), (0, .ref o), (1, .int (iI wh)), (2, .int (iI vl))]) T.1 T.2.1 dX8_set_42 rfl hl (by decide) rfl (fun ls hl => ?_)
        refine lv_aload_n T.1 T.2.1 dX8_set_43 rfl (lv_at hl 1 rfl) ?_
        refine g8_now T hK hP 0 rfl rfl mw_3_175 dX8_set_44 ?_
        refine xv_iconst T dX8_set_47 ?_
        refine lv_iload_n T.1 T.2.1 dX8_set_48 rfl (lv_at hl 2 rfl) ?_
        refine xv_iadd T dX8_set_49 ?_
        refine lv_iload_n T.1 T.2.1 dX8_set_50 rfl (lv_at hl 3 rfl) ?_
        refine xa_iast T hK hP (m_D K o N N SS TT F) hS 1 rfl rfl (by omega) (by decide) dX8_set_51 (mu_N K o N N SS TT F vl (by omega)) (fun H locs hP hS => ?_)
        obtain ⟨Nm, hNm⟩ : ∃ Y0 : Int → Int, Y0 = uZ N (2 + wh) vl := ⟨_, rfl⟩
        have hP : xP K (mW K o Nm N SS TT F) H := by rw [hNm]; exact hP
        refine lv_aload_n T.1 T.2.1 dX8_set_52 rfl (lv_at hl 1 rfl) ?_
        refine lv_iload_n T.1 T.2.1 dX8_set_53 rfl (lv_at hl 0 rfl) ?_
        refine cI_V T hK hP hS 0 rfl rfl rfl (c_X8_recorded l K o Nm N SS TT F (N (2 + wh)) (by omega) (by omega)) iX8_recorded mw_3_239 ⟨Nat.le_of_ble_eq_true rfl, Nat.le_of_ble_eq_true rfl⟩ hP (fun _ h => h) rfl hl.1 rfl (Nat.le_of_ble_eq_true rfl) ⟨Nat.zero_le _, Nat.zero_le _⟩ dX8_set_54 (fun zr u9 H1 locs qr hP1 hg1 hg2 hS => ?_)
        have hP : xP K (mW K o Nm N u9.1 TT u9.2) H1 := hP1
        generalize H1 = H at hP hS ⊢
        clear hg1 hg2 hP1
        obtain ⟨hz, hu⟩ := qr
        subst hz
        exact rI T (u := (Nm, N, u9.1, u9.2)) hr hk hK hP hS dX8_set_57 (by refine ⟨?_, hu⟩; rw [hNm]; unfold sSet; rw [if_neg (fun h => h ⟨by omega, q5.1, by rw [← hmx]; exact q5.2⟩)])
      · skip
        refine xv_if_ne T (by omega) (tgt := 30) dX8_set_25 (by decide) (fun c10 => absurd c10 (by omega)) (fun _ => ?_)
        refine xv_iconst T dX8_set_28 ?_
        exact rI T (u := (N, B, SS, F)) hr hk hK hP hS dX8_set_29 (⟨by unfold sSet; (repeat' split) <;> first | (exfalso; omega) | rfl, by unfold recP; rw [if_pos (by decide)]⟩)
    refine lv_iload_n T.1 T.2.1 dX8_set_9 rfl (lv_at hl 2 rfl) ?_
    refine lv_iload_n T.1 T.2.1 dX8_set_10 rfl (lv_at hl 1 rfl) ?_
    refine lv_iload_n T.1 T.2.1 dX8_set_11 rfl (lv_at hl 1 rfl) ?_
    refine xv_if_ne T (by omega) (tgt := 20) dX8_set_12 (by decide) (fun c11 => ?_) (fun c11 => ?_)
    · skip
      refine xv_bipush T dX8_set_20 (by omega) ?_
      exact jn22 99 _ _ ls (by first | rw [if_pos (by omega)] | rw [if_neg (by omega)]) hP hS (lv_sub hl [0, 1, 2] rfl)
    · skip
      refine xv_ldc T mw_4_160 (n := 100000) (by decide +kernel) dX8_set_15 ?_
      refine lv_goto T.1 T.2.1 (tgt := 22) dX8_set_17 (by decide) ?_
      exact jn22 100000 _ _ ls (by first | rw [if_pos (by omega)] | rw [if_neg (by omega)]) hP hS (lv_sub hl [0, 1, 2] rfl)
  · skip
    refine xv_if_eq T (by omega) (tgt := 28) dX8_set_6 (by decide) (fun _ => ?_) (fun c12 => absurd c12 (by omega))
    refine xv_iconst T dX8_set_28 ?_
    exact rI T (u := (N, B, SS, F)) hr hk hK hP hS dX8_set_29 (⟨by unfold sSet; (repeat' split) <;> first | (exfalso; omega) | rfl, by unfold recP; rw [if_pos (by decide)]⟩)
set_option maxHeartbeats 4000000 in
set_option maxRecDepth 100000 in
theorem c_X8_here (l : Launch) (K : KT) (o : Nat) (N B SS TT F : Int → Int) (hF3 : 0 ≤ F 3 ∧ F 3 ≤ 200000) (hF2 : 0 ≤ F 2 ∧ F 2 ≤ 80) : CtI l yX8_here cX8_here 1 .int 0 0 K [.ref o] (mW K o N B SS TT F) (NoA) (fun (z : Int) (_ : Unit) => z = hereF TT (F 2) (F 3)) (fun _ => mW K o N B SS TT F) := by
  refine CtI_of (by decide) (Nat.le_of_ble_eq_true rfl) ?_
  intro p e s m args below meth c T hr hk hP hK ls hl
  have T : CF p m c cX8_here 1 s args RX8 := T
  have hS : va_S (NoA) s.heap s.heap [] := va_S.rf
  have hl : lv_has ls 1 [(0, .ref o)] := hl
  refine lv_aload_n T.1 T.2.1 dX8_here_0 rfl (lv_at hl 0 rfl) ?_
  refine g8_readAt T hK hP 0 rfl (v := .int (iI (F 3))) rfl mw_3_182 dX8_here_1 ?_
  refine lv_aload_n T.1 T.2.1 dX8_here_4 rfl (lv_at hl 0 rfl) ?_
  refine g8_letters T hK hP 0 rfl (v := .int (iI (F 2))) rfl mw_3_181 dX8_here_5 ?_
  refine xv_icmp_ge T (by omega) (tgt := 23) dX8_here_8 (by decide) (fun c1 => ?_) (fun c1 => ?_)
  · skip
    refine xv_iconst T dX8_here_23 ?_
    exact rI T (u := ()) hr hk hK hP hS dX8_here_24 (by unfold hereF; first | rw [if_pos (by omega)] | rw [if_neg (by omega)])
  · skip
    refine lv_aload_n T.1 T.2.1 dX8_here_11 rfl (lv_at hl 0 rfl) ?_
    refine g8_text T hK hP 0 rfl rfl mw_3_178 dX8_here_12 ?_
    refine lv_aload_n T.1 T.2.1 dX8_here_15 rfl (lv_at hl 0 rfl) ?_
    refine g8_readAt T hK hP 0 rfl (v := .int (iI (F 3))) rfl mw_3_182 dX8_here_16 ?_
    refine xa_iald T hK hP 4 rfl rfl (F 3) (by omega) (by omega) (by decide) dX8_here_19 ?_
    refine lv_goto T.1 T.2.1 (tgt := 24) dX8_here_20 (by decide) ?_
    exact rI T (u := ()) hr hk hK hP hS dX8_here_24 (by unfold hereF; first | rw [if_pos (by omega)] | rw [if_neg (by omega)])
set_option maxHeartbeats 4000000 in
set_option maxRecDepth 100000 in
theorem c_X8_type (l : Launch) (K : KT) (o : Nat) (N B SS TT F : Int → Int) (ch : Int) (r_ch : -2147483648 ≤ ch ∧ ch ≤ 2147483647) (hF2 : 0 ≤ F 2 ∧ F 2 ≤ 80) : CtI l yX8_type cX8_type 2 .int 1 22 K [.ref o, .int (iI ch)] (mW K o N B SS TT F) (Blk o 5) (fun (z : Int) (u : (Int → Int) × (Int → Int)) => (z, u) = typP TT F ch) (fun u => mW K o N B SS u.1 u.2) := by
  refine CtI_of (by decide) (Nat.le_of_ble_eq_true rfl) ?_
  intro p e s m args below meth c T hr hk hP hK ls hl
  have T : CF p m c cX8_type 2 s args RX8 := T
  have hS : va_S (Blk o 5) s.heap s.heap [] := va_S.rf
  have hl : lv_has ls 2 [(0, .ref o), (1, .int (iI ch))] := hl
  refine lv_iload_n T.1 T.2.1 dX8_type_0 rfl (lv_at hl 1 rfl) ?_
  refine xv_bipush T dX8_type_1 (by omega) ?_
  refine xv_bipush T dX8_type_3 (by omega) ?_
  refine cI_S T hK hP hS (c_X8_in l K ch 32 126 (by omega) (by omega) (by omega)) iX8_in mw_4_15 ⟨Nat.le_of_ble_eq_true rfl, Nat.le_of_ble_eq_true rfl⟩ xP_nil noA rfl hl.1 rfl (Nat.le_of_ble_eq_true rfl) ⟨Nat.zero_le _, Nat.zero_le _⟩ dX8_type_5 (fun z1 _ H1 locs q2 hP1 hg1 hg2 hS => ?_)
  have hP := xP_kept hP hg2
  generalize H1 = H at hP hS ⊢
  clear hg1 hg2 hP1
  rcases q2 with ⟨rfl, q2⟩ | ⟨rfl, q2⟩
  · skip
    refine xv_if_ne T (by omega) (tgt := 13) dX8_type_8 (by decide) (fun _ => ?_) (fun c3 => absurd c3 (by omega))
    refine lv_aload_n T.1 T.2.1 dX8_type_13 rfl (lv_at hl 0 rfl) ?_
    refine g8_letters T hK hP 0 rfl (v := .int (iI (F 2))) rfl mw_3_181 dX8_type_14 ?_
    refine xv_bipush T dX8_type_17 (by omega) ?_
    refine xv_icmp_ne T (by omega) (tgt := 25) dX8_type_19 (by decide) (fun c4 => ?_) (fun c4 => ?_)
    · skip
      refine lv_aload_n T.1 T.2.1 dX8_type_25 rfl (lv_at hl 0 rfl) ?_
      refine g8_text T hK hP 0 rfl rfl mw_3_178 dX8_type_26 ?_
      refine lv_aload_n T.1 T.2.1 dX8_type_29 rfl (lv_at hl 0 rfl) ?_
      refine g8_letters T hK hP 0 rfl (v := .int (iI (F 2))) rfl mw_3_181 dX8_type_30 ?_
      refine lv_iload_n T.1 T.2.1 dX8_type_33 rfl (lv_at hl 1 rfl) ?_
      refine xa_iast T hK hP (m_D K o N B SS TT F) hS 4 rfl rfl (by omega) (by decide) dX8_type_34 (mu_T K o N B SS TT F ch (by omega)) (fun H locs hP hS => ?_)
      obtain ⟨T5, hT5⟩ : ∃ Y0 : Int → Int, Y0 = uZ TT (F 2) ch := ⟨_, rfl⟩
      have hP : xP K (mW K o N B SS T5 F) H := by rw [hT5]; exact hP
      refine lv_aload_n T.1 T.2.1 dX8_type_35 rfl (lv_at hl 0 rfl) ?_
      refine lv_dup T.1 T.2.1 dX8_type_36 rfl ?_
      refine g8_letters T hK hP 0 rfl (v := .int (iI (F 2))) rfl mw_3_181 dX8_type_37 ?_
      refine xv_iconst T dX8_type_40 ?_
      refine xv_iadd T dX8_type_41 ?_
      refine p8_letters T hK hP (m_D K o N B SS T5 F) hS 0 rfl (Nat.le_of_ble_eq_true rfl) mw_3_181 dX8_type_42 (mu_F2 K o N B SS T5 F (F 2 + 1)) (fun H locs hP hS => ?_)
      obtain ⟨F6, hF6⟩ : ∃ Y0 : Int → Int, Y0 = uZ F 2 (F 2 + 1) := ⟨_, rfl⟩
      have hP : xP K (mW K o N B SS T5 F6) H := by rw [hF6]; exact hP
      refine lv_aload_n T.1 T.2.1 dX8_type_45 rfl (lv_at hl 0 rfl) ?_
      refine g8_letters T hK hP 0 rfl (v := .int (iI (F6 2))) rfl mw_3_181 dX8_type_46 ?_
      refine xv_cv (b := F 2 + 1) (by rw [hF6, uZ_eq]) ?_
      exact rI T (u := (T5, F6)) hr hk hK hP hS dX8_type_49 (by subst hT5 hF6; unfold typP; (repeat' split) <;> first | (exfalso; omega) | rfl)
    · skip
      refine xv_bipush T dX8_type_22 (by omega) ?_
      exact rI T (u := (TT, F)) hr hk hK hP hS dX8_type_24 (by skip; unfold typP; (repeat' split) <;> first | (exfalso; omega) | rfl)
  · skip
    refine xv_if_ne T (by omega) (tgt := 13) dX8_type_8 (by decide) (fun c7 => absurd c7 (by omega)) (fun _ => ?_)
    refine xv_iconst T dX8_type_11 ?_
    exact rI T (u := (TT, F)) hr hk hK hP hS dX8_type_12 (by skip; unfold typP; (repeat' split) <;> first | (exfalso; omega) | rfl)
set_option maxHeartbeats 4000000 in
set_option maxRecDepth 100000 in
theorem c_X8_clearText (l : Launch) (K : KT) (o : Nat) (N B SS TT F : Int → Int) : CtI l yX8_clearText cX8_clearText 2 .int 0 0 K [.ref o] (mW K o N B SS TT F) (Blk o 5) (fun (z : Int) (u : Int → Int) => z = F 2 ∧ u = uZ F 2 0) (fun u => mW K o N B SS TT u) := by
  refine CtI_of (by decide) (Nat.le_of_ble_eq_true rfl) ?_
  intro p e s m args below meth c T hr hk hP hK ls hl
  have T : CF p m c cX8_clearText 2 s args RX8 := T
  have hS : va_S (Blk o 5) s.heap s.heap [] := va_S.rf
  have hl : lv_has ls 2 [(0, .ref o)] := hl
  refine lv_aload_n T.1 T.2.1 dX8_clearText_0 rfl (lv_at hl 0 rfl) ?_
  refine g8_letters T hK hP 0 rfl (v := .int (iI (F 2))) rfl mw_3_181 dX8_clearText_1 ?_
  refine lv_istore_n (lv' := [(1, .int (iI (F 2))), (0, .ref o)]) T.1 T.2.1 dX8_clearText_4 rfl hl (by decide) rfl (fun ls hl => ?_)
  refine lv_aload_n T.1 T.2.1 dX8_clearText_5 rfl (lv_at hl 1 rfl) ?_
  refine xv_iconst T dX8_clearText_6 ?_
  refine p8_letters T hK hP (m_D K o N B SS TT F) hS 0 rfl (Nat.le_of_ble_eq_true rfl) mw_3_181 dX8_clearText_7 (mu_F2 K o N B SS TT F 0) (fun H locs hP hS => ?_)
  obtain ⟨F1, hF1⟩ : ∃ Y0 : Int → Int, Y0 = uZ F 2 0 := ⟨_, rfl⟩
  have hP : xP K (mW K o N B SS TT F1) H := by rw [hF1]; exact hP
  refine lv_iload_n T.1 T.2.1 dX8_clearText_10 rfl (lv_at hl 0 rfl) ?_
  exact rI T (u := F1) hr hk hK hP hS dX8_clearText_11 (by subst hF1; exact ⟨rfl, rfl⟩)
