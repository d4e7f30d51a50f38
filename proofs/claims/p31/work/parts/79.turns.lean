section XSW
variable {p : Program} {l : Launch} {e : Env} {s : State} {m : MethodId} {below : List Frame} {meth : Method} {c : Code} {cells slots : Nat} {Q : State → Prop} {b n o : Nat} {xs : Nat → Int32} {K : KT} {N : Int → Int} {st : List (Int → Int)}
set_option maxHeartbeats 4000000 in
set_option maxRecDepth 100000 in
theorem sw_328 (T : CF p m c cL_law 16 s #[.ref b] RL) (hK : xK K s) (hXs : va_X b n xs s s.heap) (hbl : b < s.heap.size) (ho : s.heap.size ≤ o) (hn : n ≤ 260) (hcs : cells ≤ room_1.cells ∧ slots ≤ room_1.slots) {t : Int} (ht : 0 ≤ t ∧ t < 30) {x v w : Int} (hx : -2147483648 ≤ x ∧ x ≤ 2147483647) (hv : 0 ≤ v ∧ v < 8192) (hw : 0 ≤ w ∧ w < 8192) {lk : Int} (hlk : (N 4 = 0 ∧ lk = 0) ∨ (0 ≤ lk ∧ lk < N 4)) {gd : Int} (hgd : (N 5 = 0 ∧ gd = 0) ∨ (0 ≤ gd ∧ gd < N 5)) {un : Int} (hun : 1 ≤ un ∧ un ≤ 30) {wo : Int} (hwo : (N 5 = 0 ∧ wo = -4) ∨ ((0 ≤ gd ∧ gd < N 5) ∧ wo = qWorth N gd un)) {H : Heap} {locs : List Loc} (hP : LwY K o N st H) (hS : va_S (fun q => s.heap.size ≤ q) s.heap H locs) {ls : Array Slot} (hl : lv_has ls 16 [(0, .ref b), (1, .ref o), (2, .int (iI 1)), (3, .int (iI t)), (4, .int (iI x)), (5, .int (iI v)), (6, .int (iI w)), (7, .int (iI lk)), (8, .int (iI gd)), (9, .int (iI un)), (10, .int (iI (N 0))), (11, .int (iI 0)), (12, .int (iI wo))]) (again : ∀ (z : Int) (N2 : Int → Int) (st2 : List (Int → Int)) (H1 : Heap) (locs1 : List Loc) (ls1 : Array Slot), -4 ≤ z ∧ z ≤ 2147483647 → LwY K o N2 st2 H1 → va_S (fun q => s.heap.size ≤ q) s.heap H1 locs1 → lv_has ls1 16 [(0, .ref b), (1, .ref o), (2, .int (iI 1)), (3, .int (iI t)), (11, .int (iI z))] → W p l e room_1 s m #[.ref b] below meth c H1 locs1 cells slots Q (F0 m 986 ls1 [])) : W p l e room_1 s m #[.ref b] below meth c H locs cells slots Q (F0 m 328 ls []) := by
  have hX := lwY_X hP
  have hR := inY_R (inY hX.1)
  obtain ⟨b0, b1, b2, b3, b4, b5, b6, b7, b8, b9⟩ := inY_b (inY hX.1)
  refine lv_aload_n T.1 T.2.1 dL_law_328 rfl (lv_at hl 1 rfl) ?_
  obtain ⟨z, N2, hz⟩ : ∃ (z : Int) (N2 : Int → Int), sLocker N = (z, N2) := ⟨_, _, rfl⟩
  have hq := locker_ok hX
  rw [hz] at hq
  dsimp only at hq
  refine ly_locker T hK hP hS (fun q a => Nat.le_trans ho a.1) (z := z) (N2 := N2) hz mw_2_10 ⟨Nat.le_of_ble_eq_true rfl, Nat.le_of_ble_eq_true rfl⟩ hl.1 (Nat.le_of_ble_eq_true rfl) hcs dL_law_329 (fun H locs hP hS => ?_)
  have hX2 := lwY_X hP
  obtain ⟨d0, d1, d2, d3, d4, d5, d6, d7, d8, d9⟩ := inY_b (inY hX2.1)
  have hem2 := em_in hX2
  refine lv_istore (lv' := [(11, .int (iI z)), (0, .ref b), (1, .ref o), (2, .int (iI 1)), (3, .int (iI t)), (4, .int (iI x)), (5, .int (iI v)), (6, .int (iI w)), (7, .int (iI lk)), (8, .int (iI gd)), (9, .int (iI un)), (10, .int (iI (N 0))), (12, .int (iI wo))]) T.1 T.2.1 dL_law_332 hl (by decide) rfl (fun ls hl => ?_)
  refine lv_goto T.1 T.2.1 (tgt := 986) dL_law_334 (by decide) ?_
  exact again z N2 (chS N st z) _ _ ls (by omega) hP hS (lv_sub hl [1, 2, 3, 4, 0] rfl)
set_option maxHeartbeats 4000000 in
set_option maxRecDepth 100000 in
theorem sw_337 (T : CF p m c cL_law 16 s #[.ref b] RL) (hK : xK K s) (hXs : va_X b n xs s s.heap) (hbl : b < s.heap.size) (ho : s.heap.size ≤ o) (hn : n ≤ 260) (hcs : cells ≤ room_1.cells ∧ slots ≤ room_1.slots) {t : Int} (ht : 0 ≤ t ∧ t < 30) {x v w : Int} (hx : -2147483648 ≤ x ∧ x ≤ 2147483647) (hv : 0 ≤ v ∧ v < 8192) (hw : 0 ≤ w ∧ w < 8192) {lk : Int} (hlk : (N 4 = 0 ∧ lk = 0) ∨ (0 ≤ lk ∧ lk < N 4)) {gd : Int} (hgd : (N 5 = 0 ∧ gd = 0) ∨ (0 ≤ gd ∧ gd < N 5)) {un : Int} (hun : 1 ≤ un ∧ un ≤ 30) {wo : Int} (hwo : (N 5 = 0 ∧ wo = -4) ∨ ((0 ≤ gd ∧ gd < N 5) ∧ wo = qWorth N gd un)) {H : Heap} {locs : List Loc} (hP : LwY K o N st H) (hS : va_S (fun q => s.heap.size ≤ q) s.heap H locs) {ls : Array Slot} (hl : lv_has ls 16 [(0, .ref b), (1, .ref o), (2, .int (iI 1)), (3, .int (iI t)), (4, .int (iI x)), (5, .int (iI v)), (6, .int (iI w)), (7, .int (iI lk)), (8, .int (iI gd)), (9, .int (iI un)), (10, .int (iI (N 0))), (11, .int (iI 0)), (12, .int (iI wo))]) (again : ∀ (z : Int) (N2 : Int → Int) (st2 : List (Int → Int)) (H1 : Heap) (locs1 : List Loc) (ls1 : Array Slot), -4 ≤ z ∧ z ≤ 2147483647 → LwY K o N2 st2 H1 → va_S (fun q => s.heap.size ≤ q) s.heap H1 locs1 → lv_has ls1 16 [(0, .ref b), (1, .ref o), (2, .int (iI 1)), (3, .int (iI t)), (11, .int (iI z))] → W p l e room_1 s m #[.ref b] below meth c H1 locs1 cells slots Q (F0 m 986 ls1 [])) : W p l e room_1 s m #[.ref b] below meth c H locs cells slots Q (F0 m 337 ls []) := by
  have hX := lwY_X hP
  have hR := inY_R (inY hX.1)
  obtain ⟨b0, b1, b2, b3, b4, b5, b6, b7, b8, b9⟩ := inY_b (inY hX.1)
  refine lv_aload_n T.1 T.2.1 dL_law_337 rfl (lv_at hl 1 rfl) ?_
  refine xv_iconst T dL_law_338 ?_
  refine lv_iload T.1 T.2.1 dL_law_339 (lv_at hl 5 rfl) ?_
  refine xv_sipush T dL_law_341 (by omega) ?_
  refine xv_irem T (by omega) (by omega) dL_law_344 ?_
  refine xv_iadd T dL_law_345 ?_
  obtain ⟨z, N2, hz⟩ : ∃ (z : Int) (N2 : Int → Int), sGood N (1 + v % 500) = (z, N2) := ⟨_, _, rfl⟩
  have hq := good_ok hX (1 + v % 500)
  rw [hz] at hq
  dsimp only at hq
  refine ly_good T hK hP hS (fun q a => Nat.le_trans ho a.1) (by omega) (z := z) (N2 := N2) hz mw_2_72 ⟨Nat.le_of_ble_eq_true rfl, Nat.le_of_ble_eq_true rfl⟩ hl.1 (Nat.le_of_ble_eq_true rfl) hcs dL_law_346 (fun H locs hP hS => ?_)
  have hX2 := lwY_X hP
  obtain ⟨d0, d1, d2, d3, d4, d5, d6, d7, d8, d9⟩ := inY_b (inY hX2.1)
  have hem2 := em_in hX2
  refine lv_istore (lv' := [(11, .int (iI z)), (0, .ref b), (1, .ref o), (2, .int (iI 1)), (3, .int (iI t)), (4, .int (iI x)), (5, .int (iI v)), (6, .int (iI w)), (7, .int (iI lk)), (8, .int (iI gd)), (9, .int (iI un)), (10, .int (iI (N 0))), (12, .int (iI wo))]) T.1 T.2.1 dL_law_349 hl (by decide) rfl (fun ls hl => ?_)
  refine lv_goto T.1 T.2.1 (tgt := 986) dL_law_351 (by decide) ?_
  exact again z N2 (chS N st z) _ _ ls (by omega) hP hS (lv_sub hl [1, 2, 3, 4, 0] rfl)
set_option maxHeartbeats 4000000 in
set_option maxRecDepth 100000 in
theorem sw_354 (T : CF p m c cL_law 16 s #[.ref b] RL) (hK : xK K s) (hXs : va_X b n xs s s.heap) (hbl : b < s.heap.size) (ho : s.heap.size ≤ o) (hn : n ≤ 260) (hcs : cells ≤ room_1.cells ∧ slots ≤ room_1.slots) {t : Int} (ht : 0 ≤ t ∧ t < 30) {x v w : Int} (hx : -2147483648 ≤ x ∧ x ≤ 2147483647) (hv : 0 ≤ v ∧ v < 8192) (hw : 0 ≤ w ∧ w < 8192) {lk : Int} (hlk : (N 4 = 0 ∧ lk = 0) ∨ (0 ≤ lk ∧ lk < N 4)) {gd : Int} (hgd : (N 5 = 0 ∧ gd = 0) ∨ (0 ≤ gd ∧ gd < N 5)) {un : Int} (hun : 1 ≤ un ∧ un ≤ 30) {wo : Int} (hwo : (N 5 = 0 ∧ wo = -4) ∨ ((0 ≤ gd ∧ gd < N 5) ∧ wo = qWorth N gd un)) {H : Heap} {locs : List Loc} (hP : LwY K o N st H) (hS : va_S (fun q => s.heap.size ≤ q) s.heap H locs) {ls : Array Slot} (hl : lv_has ls 16 [(0, .ref b), (1, .ref o), (2, .int (iI 1)), (3, .int (iI t)), (4, .int (iI x)), (5, .int (iI v)), (6, .int (iI w)), (7, .int (iI lk)), (8, .int (iI gd)), (9, .int (iI un)), (10, .int (iI (N 0))), (11, .int (iI 0)), (12, .int (iI wo))]) (again : ∀ (z : Int) (N2 : Int → Int) (st2 : List (Int → Int)) (H1 : Heap) (locs1 : List Loc) (ls1 : Array Slot), -4 ≤ z ∧ z ≤ 2147483647 → LwY K o N2 st2 H1 → va_S (fun q => s.heap.size ≤ q) s.heap H1 locs1 → lv_has ls1 16 [(0, .ref b), (1, .ref o), (2, .int (iI 1)), (3, .int (iI t)), (11, .int (iI z))] → W p l e room_1 s m #[.ref b] below meth c H1 locs1 cells slots Q (F0 m 986 ls1 [])) : W p l e room_1 s m #[.ref b] below meth c H locs cells slots Q (F0 m 354 ls []) := by
  have hX := lwY_X hP
  have hR := inY_R (inY hX.1)
  obtain ⟨b0, b1, b2, b3, b4, b5, b6, b7, b8, b9⟩ := inY_b (inY hX.1)
  refine lv_aload_n T.1 T.2.1 dL_law_354 rfl (lv_at hl 1 rfl) ?_
  refine lv_iload T.1 T.2.1 dL_law_355 (lv_at hl 7 rfl) ?_
  refine lv_iload T.1 T.2.1 dL_law_357 (lv_at hl 8 rfl) ?_
  refine lv_iload T.1 T.2.1 dL_law_359 (lv_at hl 9 rfl) ?_
  obtain ⟨z, N2, hz⟩ : ∃ (z : Int) (N2 : Int → Int), sLoad N lk gd un = (z, N2) := ⟨_, _, rfl⟩
  have hq := load_ok hX lk gd un
  rw [hz] at hq
  dsimp only at hq
  refine ly_load T hK hP hS (fun q a => Nat.le_trans ho a.1) (by omega) (by omega) (by omega) (z := z) (N2 := N2) hz mw_2_85 ⟨Nat.le_of_ble_eq_true rfl, Nat.le_of_ble_eq_true rfl⟩ hl.1 (Nat.le_of_ble_eq_true rfl) hcs dL_law_361 (fun H locs hP hS => ?_)
  have hX2 := lwY_X hP
  obtain ⟨d0, d1, d2, d3, d4, d5, d6, d7, d8, d9⟩ := inY_b (inY hX2.1)
  have hem2 := em_in hX2
  refine lv_istore (lv' := [(11, .int (iI z)), (0, .ref b), (1, .ref o), (2, .int (iI 1)), (3, .int (iI t)), (4, .int (iI x)), (5, .int (iI v)), (6, .int (iI w)), (7, .int (iI lk)), (8, .int (iI gd)), (9, .int (iI un)), (10, .int (iI (N 0))), (12, .int (iI wo))]) T.1 T.2.1 dL_law_364 hl (by decide) rfl (fun ls hl => ?_)
  refine lv_iload T.1 T.2.1 dL_law_366 (lv_at hl 0 rfl) ?_
  refine xv_if_lt T (by omega) (tgt := 406) dL_law_368 (by decide) (fun c1 => ?_) (fun c1 => ?_)
  · skip
    refine xv_iconst T dL_law_406 ?_
    refine lv_goto T.1 T.2.1 (tgt := 411) dL_law_407 (by decide) ?_
    refine lv_istore_n (lv' := [(2, .int (iI 1)), (11, .int (iI z)), (0, .ref b), (1, .ref o), (3, .int (iI t)), (4, .int (iI x)), (5, .int (iI v)), (6, .int (iI w)), (7, .int (iI lk)), (8, .int (iI gd)), (9, .int (iI un)), (10, .int (iI (N 0))), (12, .int (iI wo))]) T.1 T.2.1 dL_law_411 rfl hl (by decide) rfl (fun ls hl => ?_)
    refine lv_goto T.1 T.2.1 (tgt := 986) dL_law_412 (by decide) ?_
    exact again z N2 (chS N st z) _ _ ls (by omega) hP hS (lv_sub hl [2, 3, 0, 4, 1] rfl)
  · skip
    have hq2 := hq.2 (by omega)
    refine lv_aload_n T.1 T.2.1 dL_law_371 rfl (lv_at hl 2 rfl) ?_
    refine lv_iload T.1 T.2.1 dL_law_372 (lv_at hl 0 rfl) ?_
    refine xv_iconst T dL_law_374 ?_
    refine ly_bond T hK hP hS (fun q a => Nat.le_trans ho a.1) (by omega) (by omega) (w := un) ((rbo1 (N := N2) (by omega)).trans hq2.2.1) mw_2_139 ⟨Nat.le_of_ble_eq_true rfl, Nat.le_of_ble_eq_true rfl⟩ hl.1 (Nat.le_of_ble_eq_true rfl) hcs dL_law_375 (fun H locs hP hS => ?_)
    refine lv_iload T.1 T.2.1 dL_law_378 (lv_at hl 10 rfl) ?_
    refine xv_icmp_ne T (by omega) (tgt := 410) dL_law_380 (by decide) (fun c2 => absurd c2 (by omega)) (fun _ => ?_)
    refine lv_aload_n T.1 T.2.1 dL_law_383 rfl (lv_at hl 2 rfl) ?_
    refine lv_iload T.1 T.2.1 dL_law_384 (lv_at hl 0 rfl) ?_
    refine xv_iconst T dL_law_386 ?_
    refine ly_bond T hK hP hS (fun q a => Nat.le_trans ho a.1) (by omega) (by omega) (w := N2 1 + N2 3) ((rbo5 (N := N2) (by omega)).trans hq2.2.2) mw_2_139 ⟨Nat.le_of_ble_eq_true rfl, Nat.le_of_ble_eq_true rfl⟩ hl.1 (Nat.le_of_ble_eq_true rfl) hcs dL_law_387 (fun H locs hP hS => ?_)
    refine lv_aload_n T.1 T.2.1 dL_law_390 rfl (lv_at hl 2 rfl) ?_
    refine xv_bipush T dL_law_391 (by omega) ?_
    refine ly_count T hK hP hS (fun q a => Nat.le_trans ho a.1) (by omega) (w := N2 1) rfl mw_3_50 ⟨Nat.le_of_ble_eq_true rfl, Nat.le_of_ble_eq_true rfl⟩ hl.1 (Nat.le_of_ble_eq_true rfl) hcs dL_law_393 (fun H locs hP hS => ?_)
    refine lv_aload_n T.1 T.2.1 dL_law_396 rfl (lv_at hl 2 rfl) ?_
    refine xv_bipush T dL_law_397 (by omega) ?_
    refine ly_count T hK hP hS (fun q a => Nat.le_trans ho a.1) (by omega) (w := N2 3) rfl mw_3_50 ⟨Nat.le_of_ble_eq_true rfl, Nat.le_of_ble_eq_true rfl⟩ hl.1 (Nat.le_of_ble_eq_true rfl) hcs dL_law_399 (fun H locs hP hS => ?_)
    refine xv_iadd T dL_law_402 ?_
    refine xv_icmp_ne T (by omega) (tgt := 410) dL_law_403 (by decide) (fun c3 => absurd c3 (by omega)) (fun _ => ?_)
    refine xv_iconst T dL_law_406 ?_
    refine lv_goto T.1 T.2.1 (tgt := 411) dL_law_407 (by decide) ?_
    refine lv_istore_n (lv' := [(2, .int (iI 1)), (11, .int (iI z)), (0, .ref b), (1, .ref o), (3, .int (iI t)), (4, .int (iI x)), (5, .int (iI v)), (6, .int (iI w)), (7, .int (iI lk)), (8, .int (iI gd)), (9, .int (iI un)), (10, .int (iI (N 0))), (12, .int (iI wo))]) T.1 T.2.1 dL_law_411 rfl hl (by decide) rfl (fun ls hl => ?_)
    refine lv_goto T.1 T.2.1 (tgt := 986) dL_law_412 (by decide) ?_
    exact again z N2 (chS N st z) _ _ ls (by omega) hP hS (lv_sub hl [2, 3, 0, 4, 1] rfl)
set_option maxHeartbeats 4000000 in
set_option maxRecDepth 100000 in
theorem sw_415 (T : CF p m c cL_law 16 s #[.ref b] RL) (hK : xK K s) (hXs : va_X b n xs s s.heap) (hbl : b < s.heap.size) (ho : s.heap.size ≤ o) (hn : n ≤ 260) (hcs : cells ≤ room_1.cells ∧ slots ≤ room_1.slots) {t : Int} (ht : 0 ≤ t ∧ t < 30) {x v w : Int} (hx : -2147483648 ≤ x ∧ x ≤ 2147483647) (hv : 0 ≤ v ∧ v < 8192) (hw : 0 ≤ w ∧ w < 8192) {lk : Int} (hlk : (N 4 = 0 ∧ lk = 0) ∨ (0 ≤ lk ∧ lk < N 4)) {gd : Int} (hgd : (N 5 = 0 ∧ gd = 0) ∨ (0 ≤ gd ∧ gd < N 5)) {un : Int} (hun : 1 ≤ un ∧ un ≤ 30) {wo : Int} (hwo : (N 5 = 0 ∧ wo = -4) ∨ ((0 ≤ gd ∧ gd < N 5) ∧ wo = qWorth N gd un)) {H : Heap} {locs : List Loc} (hP : LwY K o N st H) (hS : va_S (fun q => s.heap.size ≤ q) s.heap H locs) {ls : Array Slot} (hl : lv_has ls 16 [(0, .ref b), (1, .ref o), (2, .int (iI 1)), (3, .int (iI t)), (4, .int (iI x)), (5, .int (iI v)), (6, .int (iI w)), (7, .int (iI lk)), (8, .int (iI gd)), (9, .int (iI un)), (10, .int (iI (N 0))), (11, .int (iI 0)), (12, .int (iI wo))]) (again : ∀ (z : Int) (N2 : Int → Int) (st2 : List (Int → Int)) (H1 : Heap) (locs1 : List Loc) (ls1 : Array Slot), -4 ≤ z ∧ z ≤ 2147483647 → LwY K o N2 st2 H1 → va_S (fun q => s.heap.size ≤ q) s.heap H1 locs1 → lv_has ls1 16 [(0, .ref b), (1, .ref o), (2, .int (iI 1)), (3, .int (iI t)), (11, .int (iI z))] → W p l e room_1 s m #[.ref b] below meth c H1 locs1 cells slots Q (F0 m 986 ls1 [])) : W p l e room_1 s m #[.ref b] below meth c H locs cells slots Q (F0 m 415 ls []) := by
  have hX := lwY_X hP
  have hR := inY_R (inY hX.1)
  obtain ⟨b0, b1, b2, b3, b4, b5, b6, b7, b8, b9⟩ := inY_b (inY hX.1)
  refine lv_aload_n T.1 T.2.1 dL_law_415 rfl (lv_at hl 1 rfl) ?_
  refine lv_iload T.1 T.2.1 dL_law_416 (lv_at hl 7 rfl) ?_
  refine lv_iload T.1 T.2.1 dL_law_418 (lv_at hl 8 rfl) ?_
  refine lv_iload T.1 T.2.1 dL_law_420 (lv_at hl 9 rfl) ?_
  obtain ⟨z, N2, hz⟩ : ∃ (z : Int) (N2 : Int → Int), sUse N lk gd un = (z, N2) := ⟨_, _, rfl⟩
  have hq := use_ok hX lk gd un
  rw [hz] at hq
  dsimp only at hq
  have hwr := worth_rg hX (g := gd) (u := un) (by omega)
  refine ly_use T hK hP hS (fun q a => Nat.le_trans ho a.1) (by omega) (by omega) (by omega) (z := z) (N2 := N2) hz mw_2_147 ⟨Nat.le_of_ble_eq_true rfl, Nat.le_of_ble_eq_true rfl⟩ hl.1 (Nat.le_of_ble_eq_true rfl) hcs dL_law_422 (fun H locs hP hS => ?_)
  have hX2 := lwY_X hP
  obtain ⟨d0, d1, d2, d3, d4, d5, d6, d7, d8, d9⟩ := inY_b (inY hX2.1)
  have hem2 := em_in hX2
  refine lv_istore (lv' := [(11, .int (iI z)), (0, .ref b), (1, .ref o), (2, .int (iI 1)), (3, .int (iI t)), (4, .int (iI x)), (5, .int (iI v)), (6, .int (iI w)), (7, .int (iI lk)), (8, .int (iI gd)), (9, .int (iI un)), (10, .int (iI (N 0))), (12, .int (iI wo))]) T.1 T.2.1 dL_law_425 hl (by decide) rfl (fun ls hl => ?_)
  refine lv_iload T.1 T.2.1 dL_law_427 (lv_at hl 0 rfl) ?_
  refine xv_if_lt T (by omega) (tgt := 444) dL_law_429 (by decide) (fun c1 => ?_) (fun c1 => ?_)
  · skip
    refine xv_iconst T dL_law_444 ?_
    refine lv_goto T.1 T.2.1 (tgt := 449) dL_law_445 (by decide) ?_
    refine lv_istore_n (lv' := [(2, .int (iI 1)), (11, .int (iI z)), (0, .ref b), (1, .ref o), (3, .int (iI t)), (4, .int (iI x)), (5, .int (iI v)), (6, .int (iI w)), (7, .int (iI lk)), (8, .int (iI gd)), (9, .int (iI un)), (10, .int (iI (N 0))), (12, .int (iI wo))]) T.1 T.2.1 dL_law_449 rfl hl (by decide) rfl (fun ls hl => ?_)
    refine lv_goto T.1 T.2.1 (tgt := 986) dL_law_450 (by decide) ?_
    exact again z N2 (chS N st z) _ _ ls (by omega) hP hS (lv_sub hl [2, 3, 0, 4, 1] rfl)
  · skip
    have hq2 := hq.2 (by omega)
    refine lv_iload T.1 T.2.1 dL_law_432 (lv_at hl 0 rfl) ?_
    refine lv_iload T.1 T.2.1 dL_law_434 (lv_at hl 12 rfl) ?_
    refine xv_icmp_ne T (by omega) (tgt := 448) dL_law_436 (by decide) (fun c2 => absurd c2 (by omega)) (fun _ => ?_)
    refine lv_iload T.1 T.2.1 dL_law_439 (lv_at hl 11 rfl) ?_
    refine xv_if_ne T (by omega) (tgt := 448) dL_law_441 (by decide) (fun c3 => absurd c3 (by omega)) (fun _ => ?_)
    refine xv_iconst T dL_law_444 ?_
    refine lv_goto T.1 T.2.1 (tgt := 449) dL_law_445 (by decide) ?_
    refine lv_istore_n (lv' := [(2, .int (iI 1)), (11, .int (iI z)), (0, .ref b), (1, .ref o), (3, .int (iI t)), (4, .int (iI x)), (5, .int (iI v)), (6, .int (iI w)), (7, .int (iI lk)), (8, .int (iI gd)), (9, .int (iI un)), (10, .int (iI (N 0))), (12, .int (iI wo))]) T.1 T.2.1 dL_law_449 rfl hl (by decide) rfl (fun ls hl => ?_)
    refine lv_goto T.1 T.2.1 (tgt := 986) dL_law_450 (by decide) ?_
    exact again z N2 (chS N st z) _ _ ls (by omega) hP hS (lv_sub hl [2, 3, 0, 4, 1] rfl)
set_option maxHeartbeats 4000000 in
set_option maxRecDepth 100000 in
theorem sw_453 (T : CF p m c cL_law 16 s #[.ref b] RL) (hK : xK K s) (hXs : va_X b n xs s s.heap) (hbl : b < s.heap.size) (ho : s.heap.size ≤ o) (hn : n ≤ 260) (hcs : cells ≤ room_1.cells ∧ slots ≤ room_1.slots) {t : Int} (ht : 0 ≤ t ∧ t < 30) {x v w : Int} (hx : -2147483648 ≤ x ∧ x ≤ 2147483647) (hv : 0 ≤ v ∧ v < 8192) (hw : 0 ≤ w ∧ w < 8192) {lk : Int} (hlk : (N 4 = 0 ∧ lk = 0) ∨ (0 ≤ lk ∧ lk < N 4)) {gd : Int} (hgd : (N 5 = 0 ∧ gd = 0) ∨ (0 ≤ gd ∧ gd < N 5)) {un : Int} (hun : 1 ≤ un ∧ un ≤ 30) {wo : Int} (hwo : (N 5 = 0 ∧ wo = -4) ∨ ((0 ≤ gd ∧ gd < N 5) ∧ wo = qWorth N gd un)) {H : Heap} {locs : List Loc} (hP : LwY K o N st H) (hS : va_S (fun q => s.heap.size ≤ q) s.heap H locs) {ls : Array Slot} (hl : lv_has ls 16 [(0, .ref b), (1, .ref o), (2, .int (iI 1)), (3, .int (iI t)), (4, .int (iI x)), (5, .int (iI v)), (6, .int (iI w)), (7, .int (iI lk)), (8, .int (iI gd)), (9, .int (iI un)), (10, .int (iI (N 0))), (11, .int (iI 0)), (12, .int (iI wo))]) (again : ∀ (z : Int) (N2 : Int → Int) (st2 : List (Int → Int)) (H1 : Heap) (locs1 : List Loc) (ls1 : Array Slot), -4 ≤ z ∧ z ≤ 2147483647 → LwY K o N2 st2 H1 → va_S (fun q => s.heap.size ≤ q) s.heap H1 locs1 → lv_has ls1 16 [(0, .ref b), (1, .ref o), (2, .int (iI 1)), (3, .int (iI t)), (11, .int (iI z))] → W p l e room_1 s m #[.ref b] below meth c H1 locs1 cells slots Q (F0 m 986 ls1 [])) : W p l e room_1 s m #[.ref b] below meth c H locs cells slots Q (F0 m 453 ls []) := by
  have hX := lwY_X hP
  have hR := inY_R (inY hX.1)
  obtain ⟨b0, b1, b2, b3, b4, b5, b6, b7, b8, b9⟩ := inY_b (inY hX.1)
  refine lv_aload_n T.1 T.2.1 dL_law_453 rfl (lv_at hl 1 rfl) ?_
  refine lv_iload T.1 T.2.1 dL_law_454 (lv_at hl 7 rfl) ?_
  refine lv_iload T.1 T.2.1 dL_law_456 (lv_at hl 8 rfl) ?_
  refine lv_iload T.1 T.2.1 dL_law_458 (lv_at hl 9 rfl) ?_
  obtain ⟨z, N2, hz⟩ : ∃ (z : Int) (N2 : Int → Int), sBring N lk gd un = (z, N2) := ⟨_, _, rfl⟩
  have hq := bring_ok hX lk gd un
  rw [hz] at hq
  dsimp only at hq
  have hwr := worth_rg hX (g := gd) (u := un) (by omega)
  refine ly_bring T hK hP hS (fun q a => Nat.le_trans ho a.1) (by omega) (by omega) (by omega) (z := z) (N2 := N2) hz mw_2_176 ⟨Nat.le_of_ble_eq_true rfl, Nat.le_of_ble_eq_true rfl⟩ hl.1 (Nat.le_of_ble_eq_true rfl) hcs dL_law_460 (fun H locs hP hS => ?_)
  have hX2 := lwY_X hP
  obtain ⟨d0, d1, d2, d3, d4, d5, d6, d7, d8, d9⟩ := inY_b (inY hX2.1)
  have hem2 := em_in hX2
  refine lv_istore (lv' := [(11, .int (iI z)), (0, .ref b), (1, .ref o), (2, .int (iI 1)), (3, .int (iI t)), (4, .int (iI x)), (5, .int (iI v)), (6, .int (iI w)), (7, .int (iI lk)), (8, .int (iI gd)), (9, .int (iI un)), (10, .int (iI (N 0))), (12, .int (iI wo))]) T.1 T.2.1 dL_law_463 hl (by decide) rfl (fun ls hl => ?_)
  refine lv_iload T.1 T.2.1 dL_law_465 (lv_at hl 0 rfl) ?_
  refine xv_if_lt T (by omega) (tgt := 483) dL_law_467 (by decide) (fun c1 => ?_) (fun c1 => ?_)
  · skip
    refine xv_iconst T dL_law_483 ?_
    refine lv_goto T.1 T.2.1 (tgt := 488) dL_law_484 (by decide) ?_
    refine lv_istore_n (lv' := [(2, .int (iI 1)), (11, .int (iI z)), (0, .ref b), (1, .ref o), (3, .int (iI t)), (4, .int (iI x)), (5, .int (iI v)), (6, .int (iI w)), (7, .int (iI lk)), (8, .int (iI gd)), (9, .int (iI un)), (10, .int (iI (N 0))), (12, .int (iI wo))]) T.1 T.2.1 dL_law_488 rfl hl (by decide) rfl (fun ls hl => ?_)
    refine lv_goto T.1 T.2.1 (tgt := 986) dL_law_489 (by decide) ?_
    exact again z N2 (chS N st z) _ _ ls (by omega) hP hS (lv_sub hl [2, 3, 0, 4, 1] rfl)
  · skip
    have hq2 := hq.2 (by omega)
    refine lv_iload T.1 T.2.1 dL_law_470 (lv_at hl 0 rfl) ?_
    refine lv_iload T.1 T.2.1 dL_law_472 (lv_at hl 12 rfl) ?_
    refine xv_icmp_ne T (by omega) (tgt := 487) dL_law_474 (by decide) (fun c2 => absurd c2 (by omega)) (fun _ => ?_)
    refine lv_iload T.1 T.2.1 dL_law_477 (lv_at hl 11 rfl) ?_
    refine xv_iconst T dL_law_479 ?_
    refine xv_icmp_ne T (by omega) (tgt := 487) dL_law_480 (by decide) (fun c3 => absurd c3 (by omega)) (fun _ => ?_)
    refine xv_iconst T dL_law_483 ?_
    refine lv_goto T.1 T.2.1 (tgt := 488) dL_law_484 (by decide) ?_
    refine lv_istore_n (lv' := [(2, .int (iI 1)), (11, .int (iI z)), (0, .ref b), (1, .ref o), (3, .int (iI t)), (4, .int (iI x)), (5, .int (iI v)), (6, .int (iI w)), (7, .int (iI lk)), (8, .int (iI gd)), (9, .int (iI un)), (10, .int (iI (N 0))), (12, .int (iI wo))]) T.1 T.2.1 dL_law_488 rfl hl (by decide) rfl (fun ls hl => ?_)
    refine lv_goto T.1 T.2.1 (tgt := 986) dL_law_489 (by decide) ?_
    exact again z N2 (chS N st z) _ _ ls (by omega) hP hS (lv_sub hl [2, 3, 0, 4, 1] rfl)
set_option maxHeartbeats 4000000 in
set_option maxRecDepth 100000 in
theorem sw_492 (T : CF p m c cL_law 16 s #[.ref b] RL) (hK : xK K s) (hXs : va_X b n xs s s.heap) (hbl : b < s.heap.size) (ho : s.heap.size ≤ o) (hn : n ≤ 260) (hcs : cells ≤ room_1.cells ∧ slots ≤ room_1.slots) {t : Int} (ht : 0 ≤ t ∧ t < 30) {x v w : Int} (hx : -2147483648 ≤ x ∧ x ≤ 2147483647) (hv : 0 ≤ v ∧ v < 8192) (hw : 0 ≤ w ∧ w < 8192) {lk : Int} (hlk : (N 4 = 0 ∧ lk = 0) ∨ (0 ≤ lk ∧ lk < N 4)) {gd : Int} (hgd : (N 5 = 0 ∧ gd = 0) ∨ (0 ≤ gd ∧ gd < N 5)) {un : Int} (hun : 1 ≤ un ∧ un ≤ 30) {wo : Int} (hwo : (N 5 = 0 ∧ wo = -4) ∨ ((0 ≤ gd ∧ gd < N 5) ∧ wo = qWorth N gd un)) {H : Heap} {locs : List Loc} (hP : LwY K o N st H) (hS : va_S (fun q => s.heap.size ≤ q) s.heap H locs) {ls : Array Slot} (hl : lv_has ls 16 [(0, .ref b), (1, .ref o), (2, .int (iI 1)), (3, .int (iI t)), (4, .int (iI x)), (5, .int (iI v)), (6, .int (iI w)), (7, .int (iI lk)), (8, .int (iI gd)), (9, .int (iI un)), (10, .int (iI (N 0))), (11, .int (iI 0)), (12, .int (iI wo))]) (again : ∀ (z : Int) (N2 : Int → Int) (st2 : List (Int → Int)) (H1 : Heap) (locs1 : List Loc) (ls1 : Array Slot), -4 ≤ z ∧ z ≤ 2147483647 → LwY K o N2 st2 H1 → va_S (fun q => s.heap.size ≤ q) s.heap H1 locs1 → lv_has ls1 16 [(0, .ref b), (1, .ref o), (2, .int (iI 1)), (3, .int (iI t)), (11, .int (iI z))] → W p l e room_1 s m #[.ref b] below meth c H1 locs1 cells slots Q (F0 m 986 ls1 [])) : W p l e room_1 s m #[.ref b] below meth c H locs cells slots Q (F0 m 492 ls []) := by
  have hX := lwY_X hP
  have hR := inY_R (inY hX.1)
  obtain ⟨b0, b1, b2, b3, b4, b5, b6, b7, b8, b9⟩ := inY_b (inY hX.1)
  refine lv_iload T.1 T.2.1 dL_law_492 (lv_at hl 5 rfl) ?_
  refine xv_iconst T dL_law_494 ?_
  refine xv_irem T (by omega) (by omega) dL_law_495 ?_
  refine lv_istore (lv' := [(13, .int (iI (v % 3))), (0, .ref b), (1, .ref o), (2, .int (iI 1)), (3, .int (iI t)), (4, .int (iI x)), (5, .int (iI v)), (6, .int (iI w)), (7, .int (iI lk)), (8, .int (iI gd)), (9, .int (iI un)), (10, .int (iI (N 0))), (11, .int (iI 0)), (12, .int (iI wo))]) T.1 T.2.1 dL_law_496 hl (by decide) rfl (fun ls hl => ?_)
  refine lv_aload_n T.1 T.2.1 dL_law_498 rfl (lv_at hl 2 rfl) ?_
  refine xv_iconst T dL_law_499 ?_
  by_cases h5 : N 5 = 0
  · skip
    refine ly_count T hK hP hS (fun q a => Nat.le_trans ho a.1) (by omega) (w := N 5) rfl mw_3_50 ⟨Nat.le_of_ble_eq_true rfl, Nat.le_of_ble_eq_true rfl⟩ hl.1 (Nat.le_of_ble_eq_true rfl) hcs dL_law_500 (fun H locs hP hS => ?_)
    refine xv_if_ne T (by omega) (tgt := 510) dL_law_503 (by decide) (fun c1 => absurd c1 (by omega)) (fun _ => ?_)
    refine xv_iconst T dL_law_506 ?_
    refine lv_goto T.1 T.2.1 (tgt := 517) dL_law_507 (by decide) ?_
    refine lv_istore (lv' := [(14, .int (iI 0)), (13, .int (iI (v % 3))), (0, .ref b), (1, .ref o), (2, .int (iI 1)), (3, .int (iI t)), (4, .int (iI x)), (5, .int (iI v)), (6, .int (iI w)), (7, .int (iI lk)), (8, .int (iI gd)), (9, .int (iI un)), (10, .int (iI (N 0))), (11, .int (iI 0)), (12, .int (iI wo))]) T.1 T.2.1 dL_law_517 hl (by decide) rfl (fun ls hl => ?_)
    refine lv_aload_n T.1 T.2.1 dL_law_519 rfl (lv_at hl 3 rfl) ?_
    refine lv_iload T.1 T.2.1 dL_law_520 (lv_at hl 9 rfl) ?_
    refine lv_iload T.1 T.2.1 dL_law_522 (lv_at hl 10 rfl) ?_
    refine lv_iload T.1 T.2.1 dL_law_524 (lv_at hl 11 rfl) ?_
    refine lv_iload T.1 T.2.1 dL_law_526 (lv_at hl 1 rfl) ?_
    obtain ⟨z, N2, hz⟩ : ∃ (z : Int) (N2 : Int → Int), sSmash N lk gd un (v % 3) = (z, N2) := ⟨_, _, rfl⟩
    have hq := smash_ok hX lk gd un (v % 3)
    rw [hz] at hq
    dsimp only at hq
    have hwr := worth_rg hX (g := gd) (u := un) (by omega)
    refine ly_smash T hK hP hS (fun q a => Nat.le_trans ho a.1) (by omega) (by omega) (by omega) (by omega) (z := z) (N2 := N2) hz mw_2_184 ⟨Nat.le_of_ble_eq_true rfl, Nat.le_of_ble_eq_true rfl⟩ hl.1 (Nat.le_of_ble_eq_true rfl) hcs dL_law_528 (fun H locs hP hS => ?_)
    have hX2 := lwY_X hP
    obtain ⟨d0, d1, d2, d3, d4, d5, d6, d7, d8, d9⟩ := inY_b (inY hX2.1)
    have hem2 := em_in hX2
    refine lv_istore (lv' := [(11, .int (iI z)), (14, .int (iI 0)), (13, .int (iI (v % 3))), (0, .ref b), (1, .ref o), (2, .int (iI 1)), (3, .int (iI t)), (4, .int (iI x)), (5, .int (iI v)), (6, .int (iI w)), (7, .int (iI lk)), (8, .int (iI gd)), (9, .int (iI un)), (10, .int (iI (N 0))), (12, .int (iI wo))]) T.1 T.2.1 dL_law_531 hl (by decide) rfl (fun ls hl => ?_)
    refine lv_iload T.1 T.2.1 dL_law_533 (lv_at hl 0 rfl) ?_
    have hz0 : z < 0 := Int.not_le.mp fun q => by have h9 := (hq.2 q).1; omega
    refine xv_if_lt T (by omega) (tgt := 585) dL_law_535 (by decide) (fun _ => ?_) (fun c2 => absurd c2 (by omega))
    refine xv_iconst T dL_law_585 ?_
    refine lv_goto T.1 T.2.1 (tgt := 590) dL_law_586 (by decide) ?_
    refine lv_istore_n (lv' := [(2, .int (iI 1)), (11, .int (iI z)), (14, .int (iI 0)), (13, .int (iI (v % 3))), (0, .ref b), (1, .ref o), (3, .int (iI t)), (4, .int (iI x)), (5, .int (iI v)), (6, .int (iI w)), (7, .int (iI lk)), (8, .int (iI gd)), (9, .int (iI un)), (10, .int (iI (N 0))), (12, .int (iI wo))]) T.1 T.2.1 dL_law_590 rfl hl (by decide) rfl (fun ls hl => ?_)
    refine lv_goto T.1 T.2.1 (tgt := 986) dL_law_591 (by decide) ?_
    exact again z N2 (chS N st z) _ _ ls (by omega) hP hS (lv_sub hl [4, 5, 0, 6, 1] rfl)
  · skip
    have hcm := inY_c (inY hX.1) (g := gd) (by omega)
    refine ly_count T hK hP hS (fun q a => Nat.le_trans ho a.1) (by omega) (w := N 5) rfl mw_3_50 ⟨Nat.le_of_ble_eq_true rfl, Nat.le_of_ble_eq_true rfl⟩ hl.1 (Nat.le_of_ble_eq_true rfl) hcs dL_law_500 (fun H locs hP hS => ?_)
    refine xv_if_ne T (by omega) (tgt := 510) dL_law_503 (by decide) (fun _ => ?_) (fun c3 => absurd c3 (by omega))
    refine lv_aload_n T.1 T.2.1 dL_law_510 rfl (lv_at hl 2 rfl) ?_
    refine lv_iload T.1 T.2.1 dL_law_511 (lv_at hl 9 rfl) ?_
    refine xv_iconst T dL_law_513 ?_
    refine ly_account T hK hP hS (fun q a => Nat.le_trans ho a.1) (by omega) (by omega) (w := missF N gd) (rac2 (by omega)) mw_3_24 ⟨Nat.le_of_ble_eq_true rfl, Nat.le_of_ble_eq_true rfl⟩ hl.1 (Nat.le_of_ble_eq_true rfl) hcs dL_law_514 (fun H locs hP hS => ?_)
    refine lv_istore (lv' := [(14, .int (iI (missF N gd))), (13, .int (iI (v % 3))), (0, .ref b), (1, .ref o), (2, .int (iI 1)), (3, .int (iI t)), (4, .int (iI x)), (5, .int (iI v)), (6, .int (iI w)), (7, .int (iI lk)), (8, .int (iI gd)), (9, .int (iI un)), (10, .int (iI (N 0))), (11, .int (iI 0)), (12, .int (iI wo))]) T.1 T.2.1 dL_law_517 hl (by decide) rfl (fun ls hl => ?_)
    refine lv_aload_n T.1 T.2.1 dL_law_519 rfl (lv_at hl 3 rfl) ?_
    refine lv_iload T.1 T.2.1 dL_law_520 (lv_at hl 9 rfl) ?_
    refine lv_iload T.1 T.2.1 dL_law_522 (lv_at hl 10 rfl) ?_
    refine lv_iload T.1 T.2.1 dL_law_524 (lv_at hl 11 rfl) ?_
    refine lv_iload T.1 T.2.1 dL_law_526 (lv_at hl 1 rfl) ?_
    obtain ⟨z, N2, hz⟩ : ∃ (z : Int) (N2 : Int → Int), sSmash N lk gd un (v % 3) = (z, N2) := ⟨_, _, rfl⟩
    have hq := smash_ok hX lk gd un (v % 3)
    rw [hz] at hq
    dsimp only at hq
    have hwr := worth_rg hX (g := gd) (u := un) (by omega)
    refine ly_smash T hK hP hS (fun q a => Nat.le_trans ho a.1) (by omega) (by omega) (by omega) (by omega) (z := z) (N2 := N2) hz mw_2_184 ⟨Nat.le_of_ble_eq_true rfl, Nat.le_of_ble_eq_true rfl⟩ hl.1 (Nat.le_of_ble_eq_true rfl) hcs dL_law_528 (fun H locs hP hS => ?_)
    have hX2 := lwY_X hP
    obtain ⟨d0, d1, d2, d3, d4, d5, d6, d7, d8, d9⟩ := inY_b (inY hX2.1)
    have hem2 := em_in hX2
    refine lv_istore (lv' := [(11, .int (iI z)), (14, .int (iI (missF N gd))), (13, .int (iI (v % 3))), (0, .ref b), (1, .ref o), (2, .int (iI 1)), (3, .int (iI t)), (4, .int (iI x)), (5, .int (iI v)), (6, .int (iI w)), (7, .int (iI lk)), (8, .int (iI gd)), (9, .int (iI un)), (10, .int (iI (N 0))), (12, .int (iI wo))]) T.1 T.2.1 dL_law_531 hl (by decide) rfl (fun ls hl => ?_)
    refine lv_iload T.1 T.2.1 dL_law_533 (lv_at hl 0 rfl) ?_
    refine xv_if_lt T (by omega) (tgt := 585) dL_law_535 (by decide) (fun c4 => ?_) (fun c4 => ?_)
    · skip
      refine xv_iconst T dL_law_585 ?_
      refine lv_goto T.1 T.2.1 (tgt := 590) dL_law_586 (by decide) ?_
      refine lv_istore_n (lv' := [(2, .int (iI 1)), (11, .int (iI z)), (14, .int (iI (missF N gd))), (13, .int (iI (v % 3))), (0, .ref b), (1, .ref o), (3, .int (iI t)), (4, .int (iI x)), (5, .int (iI v)), (6, .int (iI w)), (7, .int (iI lk)), (8, .int (iI gd)), (9, .int (iI un)), (10, .int (iI (N 0))), (12, .int (iI wo))]) T.1 T.2.1 dL_law_590 rfl hl (by decide) rfl (fun ls hl => ?_)
      refine lv_goto T.1 T.2.1 (tgt := 986) dL_law_591 (by decide) ?_
      exact again z N2 (chS N st z) _ _ ls (by omega) hP hS (lv_sub hl [4, 5, 0, 6, 1] rfl)
    · skip
      have hq2 := hq.2 (by omega)
      refine lv_iload T.1 T.2.1 dL_law_538 (lv_at hl 2 rfl) ?_
      refine xv_if_le T (by omega) (tgt := 565) dL_law_540 (by decide) (fun c5 => ?_) (fun c5 => ?_)
      · skip
        have hq3 := hq2.2.2.2 (by omega)
        refine lv_iload T.1 T.2.1 dL_law_565 (lv_at hl 0 rfl) ?_
        refine xv_if_ne T (by omega) (tgt := 589) dL_law_567 (by decide) (fun c6 => absurd c6 (by omega)) (fun _ => ?_)
        refine lv_aload_n T.1 T.2.1 dL_law_570 rfl (lv_at hl 4 rfl) ?_
        refine lv_iload T.1 T.2.1 dL_law_571 (lv_at hl 11 rfl) ?_
        refine xv_iconst T dL_law_573 ?_
        refine ly_account T hK hP hS (fun q a => Nat.le_trans ho a.1) (by omega) (by omega) (w := missF N gd + un) ((rac2 (N := N2) (by omega)).trans hq3.2) mw_3_24 ⟨Nat.le_of_ble_eq_true rfl, Nat.le_of_ble_eq_true rfl⟩ hl.1 (Nat.le_of_ble_eq_true rfl) hcs dL_law_574 (fun H locs hP hS => ?_)
        refine lv_iload T.1 T.2.1 dL_law_577 (lv_at hl 1 rfl) ?_
        refine lv_iload T.1 T.2.1 dL_law_579 (lv_at hl 12 rfl) ?_
        refine xv_iadd T dL_law_581 ?_
        refine xv_icmp_ne T (by omega) (tgt := 589) dL_law_582 (by decide) (fun c7 => absurd c7 (by omega)) (fun _ => ?_)
        refine xv_iconst T dL_law_585 ?_
        refine lv_goto T.1 T.2.1 (tgt := 590) dL_law_586 (by decide) ?_
        refine lv_istore_n (lv' := [(2, .int (iI 1)), (11, .int (iI z)), (14, .int (iI (missF N gd))), (13, .int (iI (v % 3))), (0, .ref b), (1, .ref o), (3, .int (iI t)), (4, .int (iI x)), (5, .int (iI v)), (6, .int (iI w)), (7, .int (iI lk)), (8, .int (iI gd)), (9, .int (iI un)), (10, .int (iI (N 0))), (12, .int (iI wo))]) T.1 T.2.1 dL_law_590 rfl hl (by decide) rfl (fun ls hl => ?_)
        refine lv_goto T.1 T.2.1 (tgt := 986) dL_law_591 (by decide) ?_
        exact again z N2 (chS N st z) _ _ ls (by omega) hP hS (lv_sub hl [4, 5, 0, 6, 1] rfl)
      · skip
        have hq3 := hq2.2.2.1 (by omega)
        refine lv_iload T.1 T.2.1 dL_law_543 (lv_at hl 0 rfl) ?_
        refine lv_iload T.1 T.2.1 dL_law_545 (lv_at hl 14 rfl) ?_
        refine xv_icmp_ne T (by omega) (tgt := 589) dL_law_547 (by decide) (fun c8 => absurd c8 (by omega)) (fun _ => ?_)
        refine lv_aload_n T.1 T.2.1 dL_law_550 rfl (lv_at hl 4 rfl) ?_
        refine lv_iload T.1 T.2.1 dL_law_551 (lv_at hl 11 rfl) ?_
        refine xv_iconst T dL_law_553 ?_
        refine ly_account T hK hP hS (fun q a => Nat.le_trans ho a.1) (by omega) (by omega) (w := missF N gd) ((rac2 (N := N2) (by omega)).trans hq3.2) mw_3_24 ⟨Nat.le_of_ble_eq_true rfl, Nat.le_of_ble_eq_true rfl⟩ hl.1 (Nat.le_of_ble_eq_true rfl) hcs dL_law_554 (fun H locs hP hS => ?_)
        refine lv_iload T.1 T.2.1 dL_law_557 (lv_at hl 1 rfl) ?_
        refine xv_icmp_ne T (by omega) (tgt := 589) dL_law_559 (by decide) (fun c9 => absurd c9 (by omega)) (fun _ => ?_)
        refine lv_goto T.1 T.2.1 (tgt := 585) dL_law_562 (by decide) ?_
        refine xv_iconst T dL_law_585 ?_
        refine lv_goto T.1 T.2.1 (tgt := 590) dL_law_586 (by decide) ?_
        refine lv_istore_n (lv' := [(2, .int (iI 1)), (11, .int (iI z)), (14, .int (iI (missF N gd))), (13, .int (iI (v % 3))), (0, .ref b), (1, .ref o), (3, .int (iI t)), (4, .int (iI x)), (5, .int (iI v)), (6, .int (iI w)), (7, .int (iI lk)), (8, .int (iI gd)), (9, .int (iI un)), (10, .int (iI (N 0))), (12, .int (iI wo))]) T.1 T.2.1 dL_law_590 rfl hl (by decide) rfl (fun ls hl => ?_)
        refine lv_goto T.1 T.2.1 (tgt := 986) dL_law_591 (by decide) ?_
        exact again z N2 (chS N st z) _ _ ls (by omega) hP hS (lv_sub hl [4, 5, 0, 6, 1] rfl)
set_option maxHeartbeats 4000000 in
set_option maxRecDepth 100000 in
theorem sw_594 (T : CF p m c cL_law 16 s #[.ref b] RL) (hK : xK K s) (hXs : va_X b n xs s s.heap) (hbl : b < s.heap.size) (ho : s.heap.size ≤ o) (hn : n ≤ 260) (hcs : cells ≤ room_1.cells ∧ slots ≤ room_1.slots) {t : Int} (ht : 0 ≤ t ∧ t < 30) {x v w : Int} (hx : -2147483648 ≤ x ∧ x ≤ 2147483647) (hv : 0 ≤ v ∧ v < 8192) (hw : 0 ≤ w ∧ w < 8192) {lk : Int} (hlk : (N 4 = 0 ∧ lk = 0) ∨ (0 ≤ lk ∧ lk < N 4)) {gd : Int} (hgd : (N 5 = 0 ∧ gd = 0) ∨ (0 ≤ gd ∧ gd < N 5)) {un : Int} (hun : 1 ≤ un ∧ un ≤ 30) {wo : Int} (hwo : (N 5 = 0 ∧ wo = -4) ∨ ((0 ≤ gd ∧ gd < N 5) ∧ wo = qWorth N gd un)) {H : Heap} {locs : List Loc} (hP : LwY K o N st H) (hS : va_S (fun q => s.heap.size ≤ q) s.heap H locs) {ls : Array Slot} (hl : lv_has ls 16 [(0, .ref b), (1, .ref o), (2, .int (iI 1)), (3, .int (iI t)), (4, .int (iI x)), (5, .int (iI v)), (6, .int (iI w)), (7, .int (iI lk)), (8, .int (iI gd)), (9, .int (iI un)), (10, .int (iI (N 0))), (11, .int (iI 0)), (12, .int (iI wo))]) (again : ∀ (z : Int) (N2 : Int → Int) (st2 : List (Int → Int)) (H1 : Heap) (locs1 : List Loc) (ls1 : Array Slot), -4 ≤ z ∧ z ≤ 2147483647 → LwY K o N2 st2 H1 → va_S (fun q => s.heap.size ≤ q) s.heap H1 locs1 → lv_has ls1 16 [(0, .ref b), (1, .ref o), (2, .int (iI 1)), (3, .int (iI t)), (11, .int (iI z))] → W p l e room_1 s m #[.ref b] below meth c H1 locs1 cells slots Q (F0 m 986 ls1 [])) : W p l e room_1 s m #[.ref b] below meth c H locs cells slots Q (F0 m 594 ls []) := by
  have hX := lwY_X hP
  have hR := inY_R (inY hX.1)
  obtain ⟨b0, b1, b2, b3, b4, b5, b6, b7, b8, b9⟩ := inY_b (inY hX.1)
  by_cases h4 : N 4 = 0
  · skip
    refine lv_aload_n T.1 T.2.1 dL_law_594 rfl (lv_at hl 1 rfl) ?_
    refine xv_iconst T dL_law_595 ?_
    refine ly_count T hK hP hS (fun q a => Nat.le_trans ho a.1) (by omega) (w := N 4) rfl mw_3_50 ⟨Nat.le_of_ble_eq_true rfl, Nat.le_of_ble_eq_true rfl⟩ hl.1 (Nat.le_of_ble_eq_true rfl) hcs dL_law_596 (fun H locs hP hS => ?_)
    refine xv_if_ne T (by omega) (tgt := 607) dL_law_599 (by decide) (fun c1 => absurd c1 (by omega)) (fun _ => ?_)
    refine xv_bipush T dL_law_602 (by omega) ?_
    refine lv_goto T.1 T.2.1 (tgt := 615) dL_law_604 (by decide) ?_
    refine lv_istore (lv' := [(13, .int (iI (-4))), (0, .ref b), (1, .ref o), (2, .int (iI 1)), (3, .int (iI t)), (4, .int (iI x)), (5, .int (iI v)), (6, .int (iI w)), (7, .int (iI lk)), (8, .int (iI gd)), (9, .int (iI un)), (10, .int (iI (N 0))), (11, .int (iI 0)), (12, .int (iI wo))]) T.1 T.2.1 dL_law_615 hl (by decide) rfl (fun ls hl => ?_)
    refine lv_aload_n T.1 T.2.1 dL_law_617 rfl (lv_at hl 2 rfl) ?_
    refine lv_iload T.1 T.2.1 dL_law_618 (lv_at hl 8 rfl) ?_
    obtain ⟨z, N2, hz⟩ : ∃ (z : Int) (N2 : Int → Int), sTear N lk = (z, N2) := ⟨_, _, rfl⟩
    have hq := tear_ok hX lk
    rw [hz] at hq
    dsimp only at hq
    refine ly_tear T hK hP hS (fun q a => Nat.le_trans ho a.1) (by omega) (z := z) (N2 := N2) hz mw_2_192 ⟨Nat.le_of_ble_eq_true rfl, Nat.le_of_ble_eq_true rfl⟩ hl.1 (Nat.le_of_ble_eq_true rfl) hcs dL_law_620 (fun H locs hP hS => ?_)
    have hX2 := lwY_X hP
    obtain ⟨d0, d1, d2, d3, d4, d5, d6, d7, d8, d9⟩ := inY_b (inY hX2.1)
    have hem2 := em_in hX2
    refine lv_istore (lv' := [(11, .int (iI z)), (13, .int (iI (-4))), (0, .ref b), (1, .ref o), (2, .int (iI 1)), (3, .int (iI t)), (4, .int (iI x)), (5, .int (iI v)), (6, .int (iI w)), (7, .int (iI lk)), (8, .int (iI gd)), (9, .int (iI un)), (10, .int (iI (N 0))), (12, .int (iI wo))]) T.1 T.2.1 dL_law_623 hl (by decide) rfl (fun ls hl => ?_)
    refine lv_iload T.1 T.2.1 dL_law_625 (lv_at hl 0 rfl) ?_
    have hz0 : z < 0 := Int.not_le.mp fun q => by have h9 := (hq.2 q).1; omega
    refine xv_if_lt T (by omega) (tgt := 660) dL_law_627 (by decide) (fun _ => ?_) (fun c2 => absurd c2 (by omega))
    refine xv_iconst T dL_law_660 ?_
    refine lv_goto T.1 T.2.1 (tgt := 665) dL_law_661 (by decide) ?_
    refine lv_istore_n (lv' := [(2, .int (iI 1)), (11, .int (iI z)), (13, .int (iI (-4))), (0, .ref b), (1, .ref o), (3, .int (iI t)), (4, .int (iI x)), (5, .int (iI v)), (6, .int (iI w)), (7, .int (iI lk)), (8, .int (iI gd)), (9, .int (iI un)), (10, .int (iI (N 0))), (12, .int (iI wo))]) T.1 T.2.1 dL_law_665 rfl hl (by decide) rfl (fun ls hl => ?_)
    refine lv_goto T.1 T.2.1 (tgt := 986) dL_law_666 (by decide) ?_
    exact again z N2 (chS N st z) _ _ ls (by omega) hP hS (lv_sub hl [3, 4, 0, 5, 1] rfl)
  · skip
    obtain ⟨nn, hnn⟩ : ∃ y : Int, qLockerOf N lk 9 = y := ⟨_, rfl⟩
    refine lv_aload_n T.1 T.2.1 dL_law_594 rfl (lv_at hl 1 rfl) ?_
    refine xv_iconst T dL_law_595 ?_
    refine ly_count T hK hP hS (fun q a => Nat.le_trans ho a.1) (by omega) (w := N 4) rfl mw_3_50 ⟨Nat.le_of_ble_eq_true rfl, Nat.le_of_ble_eq_true rfl⟩ hl.1 (Nat.le_of_ble_eq_true rfl) hcs dL_law_596 (fun H locs hP hS => ?_)
    refine xv_if_ne T (by omega) (tgt := 607) dL_law_599 (by decide) (fun _ => ?_) (fun c3 => absurd c3 (by omega))
    refine lv_aload_n T.1 T.2.1 dL_law_607 rfl (lv_at hl 1 rfl) ?_
    refine lv_iload T.1 T.2.1 dL_law_608 (lv_at hl 7 rfl) ?_
    refine xv_bipush T dL_law_610 (by omega) ?_
    refine ly_lockerOf T hK hP hS (fun q a => Nat.le_trans ho a.1) (by omega) (by omega) (w := nn) hnn mw_2_123 ⟨Nat.le_of_ble_eq_true rfl, Nat.le_of_ble_eq_true rfl⟩ hl.1 (Nat.le_of_ble_eq_true rfl) hcs dL_law_612 (fun H locs hP hS => ?_)
    refine lv_istore (lv' := [(13, .int (iI nn)), (0, .ref b), (1, .ref o), (2, .int (iI 1)), (3, .int (iI t)), (4, .int (iI x)), (5, .int (iI v)), (6, .int (iI w)), (7, .int (iI lk)), (8, .int (iI gd)), (9, .int (iI un)), (10, .int (iI (N 0))), (11, .int (iI 0)), (12, .int (iI wo))]) T.1 T.2.1 dL_law_615 hl (by decide) rfl (fun ls hl => ?_)
    refine lv_aload_n T.1 T.2.1 dL_law_617 rfl (lv_at hl 2 rfl) ?_
    refine lv_iload T.1 T.2.1 dL_law_618 (lv_at hl 8 rfl) ?_
    obtain ⟨z, N2, hz⟩ : ∃ (z : Int) (N2 : Int → Int), sTear N lk = (z, N2) := ⟨_, _, rfl⟩
    have hq := tear_ok hX lk
    rw [hz] at hq
    dsimp only at hq
    refine ly_tear T hK hP hS (fun q a => Nat.le_trans ho a.1) (by omega) (z := z) (N2 := N2) hz mw_2_192 ⟨Nat.le_of_ble_eq_true rfl, Nat.le_of_ble_eq_true rfl⟩ hl.1 (Nat.le_of_ble_eq_true rfl) hcs dL_law_620 (fun H locs hP hS => ?_)
    have hX2 := lwY_X hP
    obtain ⟨d0, d1, d2, d3, d4, d5, d6, d7, d8, d9⟩ := inY_b (inY hX2.1)
    have hem2 := em_in hX2
    refine lv_istore (lv' := [(11, .int (iI z)), (13, .int (iI nn)), (0, .ref b), (1, .ref o), (2, .int (iI 1)), (3, .int (iI t)), (4, .int (iI x)), (5, .int (iI v)), (6, .int (iI w)), (7, .int (iI lk)), (8, .int (iI gd)), (9, .int (iI un)), (10, .int (iI (N 0))), (12, .int (iI wo))]) T.1 T.2.1 dL_law_623 hl (by decide) rfl (fun ls hl => ?_)
    refine lv_iload T.1 T.2.1 dL_law_625 (lv_at hl 0 rfl) ?_
    refine xv_if_lt T (by omega) (tgt := 660) dL_law_627 (by decide) (fun c4 => ?_) (fun c4 => ?_)
    · skip
      refine xv_iconst T dL_law_660 ?_
      refine lv_goto T.1 T.2.1 (tgt := 665) dL_law_661 (by decide) ?_
      refine lv_istore_n (lv' := [(2, .int (iI 1)), (11, .int (iI z)), (13, .int (iI nn)), (0, .ref b), (1, .ref o), (3, .int (iI t)), (4, .int (iI x)), (5, .int (iI v)), (6, .int (iI w)), (7, .int (iI lk)), (8, .int (iI gd)), (9, .int (iI un)), (10, .int (iI (N 0))), (12, .int (iI wo))]) T.1 T.2.1 dL_law_665 rfl hl (by decide) rfl (fun ls hl => ?_)
      refine lv_goto T.1 T.2.1 (tgt := 986) dL_law_666 (by decide) ?_
      exact again z N2 (chS N st z) _ _ ls (by omega) hP hS (lv_sub hl [3, 4, 0, 5, 1] rfl)
    · skip
      have hq2 := hq.2 (by omega)
      have hnz : nn = N (19 + lk) := hnn.symm.trans (rl9a hq2.1.1 hq2.1.2.1)
      refine lv_iload T.1 T.2.1 dL_law_630 (lv_at hl 0 rfl) ?_
      refine lv_iload T.1 T.2.1 dL_law_632 (lv_at hl 1 rfl) ?_
      refine xv_icmp_ne T (by omega) (tgt := 664) dL_law_634 (by decide) (fun c5 => absurd c5 (by omega)) (fun _ => ?_)
      refine lv_aload_n T.1 T.2.1 dL_law_637 rfl (lv_at hl 3 rfl) ?_
      refine lv_iload T.1 T.2.1 dL_law_638 (lv_at hl 1 rfl) ?_
      refine xv_iconst T dL_law_640 ?_
      refine ly_seal T hK hP hS (fun q a => Nat.le_trans ho a.1) (by omega) (by omega) (w := 3) (by rw [hnz]; exact (rse2 hq2.2.1).trans hq2.2.2.1) mw_2_135 ⟨Nat.le_of_ble_eq_true rfl, Nat.le_of_ble_eq_true rfl⟩ hl.1 (Nat.le_of_ble_eq_true rfl) hcs dL_law_641 (fun H locs hP hS => ?_)
      refine xv_iconst T dL_law_644 ?_
      refine xv_icmp_ne T (by omega) (tgt := 664) dL_law_645 (by decide) (fun c6 => absurd c6 (by omega)) (fun _ => ?_)
      refine lv_aload_n T.1 T.2.1 dL_law_648 rfl (lv_at hl 3 rfl) ?_
      refine lv_iload T.1 T.2.1 dL_law_649 (lv_at hl 9 rfl) ?_
      refine xv_bipush T dL_law_651 (by omega) ?_
      refine ly_lockerOf T hK hP hS (fun q a => Nat.le_trans ho a.1) (by omega) (by omega) (w := 2) ((rl8 (N := N2) (by omega)).trans hq2.2.2.2.1) mw_2_123 ⟨Nat.le_of_ble_eq_true rfl, Nat.le_of_ble_eq_true rfl⟩ hl.1 (Nat.le_of_ble_eq_true rfl) hcs dL_law_653 (fun H locs hP hS => ?_)
      refine xv_iconst T dL_law_656 ?_
      refine xv_icmp_ne T (by omega) (tgt := 664) dL_law_657 (by decide) (fun c7 => absurd c7 (by omega)) (fun _ => ?_)
      refine xv_iconst T dL_law_660 ?_
      refine lv_goto T.1 T.2.1 (tgt := 665) dL_law_661 (by decide) ?_
      refine lv_istore_n (lv' := [(2, .int (iI 1)), (11, .int (iI z)), (13, .int (iI nn)), (0, .ref b), (1, .ref o), (3, .int (iI t)), (4, .int (iI x)), (5, .int (iI v)), (6, .int (iI w)), (7, .int (iI lk)), (8, .int (iI gd)), (9, .int (iI un)), (10, .int (iI (N 0))), (12, .int (iI wo))]) T.1 T.2.1 dL_law_665 rfl hl (by decide) rfl (fun ls hl => ?_)
      refine lv_goto T.1 T.2.1 (tgt := 986) dL_law_666 (by decide) ?_
      exact again z N2 (chS N st z) _ _ ls (by omega) hP hS (lv_sub hl [3, 4, 0, 5, 1] rfl)
set_option maxHeartbeats 4000000 in
set_option maxRecDepth 100000 in
theorem sw_669 (T : CF p m c cL_law 16 s #[.ref b] RL) (hK : xK K s) (hXs : va_X b n xs s s.heap) (hbl : b < s.heap.size) (ho : s.heap.size ≤ o) (hn : n ≤ 260) (hcs : cells ≤ room_1.cells ∧ slots ≤ room_1.slots) {t : Int} (ht : 0 ≤ t ∧ t < 30) {x v w : Int} (hx : -2147483648 ≤ x ∧ x ≤ 2147483647) (hv : 0 ≤ v ∧ v < 8192) (hw : 0 ≤ w ∧ w < 8192) {lk : Int} (hlk : (N 4 = 0 ∧ lk = 0) ∨ (0 ≤ lk ∧ lk < N 4)) {gd : Int} (hgd : (N 5 = 0 ∧ gd = 0) ∨ (0 ≤ gd ∧ gd < N 5)) {un : Int} (hun : 1 ≤ un ∧ un ≤ 30) {wo : Int} (hwo : (N 5 = 0 ∧ wo = -4) ∨ ((0 ≤ gd ∧ gd < N 5) ∧ wo = qWorth N gd un)) {H : Heap} {locs : List Loc} (hP : LwY K o N st H) (hS : va_S (fun q => s.heap.size ≤ q) s.heap H locs) {ls : Array Slot} (hl : lv_has ls 16 [(0, .ref b), (1, .ref o), (2, .int (iI 1)), (3, .int (iI t)), (4, .int (iI x)), (5, .int (iI v)), (6, .int (iI w)), (7, .int (iI lk)), (8, .int (iI gd)), (9, .int (iI un)), (10, .int (iI (N 0))), (11, .int (iI 0)), (12, .int (iI wo))]) (again : ∀ (z : Int) (N2 : Int → Int) (st2 : List (Int → Int)) (H1 : Heap) (locs1 : List Loc) (ls1 : Array Slot), -4 ≤ z ∧ z ≤ 2147483647 → LwY K o N2 st2 H1 → va_S (fun q => s.heap.size ≤ q) s.heap H1 locs1 → lv_has ls1 16 [(0, .ref b), (1, .ref o), (2, .int (iI 1)), (3, .int (iI t)), (11, .int (iI z))] → W p l e room_1 s m #[.ref b] below meth c H1 locs1 cells slots Q (F0 m 986 ls1 [])) : W p l e room_1 s m #[.ref b] below meth c H locs cells slots Q (F0 m 669 ls []) := by
  have hX := lwY_X hP
  have hR := inY_R (inY hX.1)
  obtain ⟨b0, b1, b2, b3, b4, b5, b6, b7, b8, b9⟩ := inY_b (inY hX.1)
  by_cases h4 : N 4 = 0
  · skip
    refine lv_aload_n T.1 T.2.1 dL_law_669 rfl (lv_at hl 1 rfl) ?_
    refine xv_iconst T dL_law_670 ?_
    refine ly_count T hK hP hS (fun q a => Nat.le_trans ho a.1) (by omega) (w := N 4) rfl mw_3_50 ⟨Nat.le_of_ble_eq_true rfl, Nat.le_of_ble_eq_true rfl⟩ hl.1 (Nat.le_of_ble_eq_true rfl) hcs dL_law_671 (fun H locs hP hS => ?_)
    refine xv_if_ne T (by omega) (tgt := 681) dL_law_674 (by decide) (fun c1 => absurd c1 (by omega)) (fun _ => ?_)
    refine xv_iconst T dL_law_677 ?_
    refine lv_goto T.1 T.2.1 (tgt := 703) dL_law_678 (by decide) ?_
    refine lv_istore (lv' := [(13, .int (iI 0)), (0, .ref b), (1, .ref o), (2, .int (iI 1)), (3, .int (iI t)), (4, .int (iI x)), (5, .int (iI v)), (6, .int (iI w)), (7, .int (iI lk)), (8, .int (iI gd)), (9, .int (iI un)), (10, .int (iI (N 0))), (11, .int (iI 0)), (12, .int (iI wo))]) T.1 T.2.1 dL_law_703 hl (by decide) rfl (fun ls hl => ?_)
    refine lv_aload_n T.1 T.2.1 dL_law_705 rfl (lv_at hl 2 rfl) ?_
    refine lv_iload T.1 T.2.1 dL_law_706 (lv_at hl 8 rfl) ?_
    obtain ⟨z, N2, hz⟩ : ∃ (z : Int) (N2 : Int → Int), sInspect N lk = (z, N2) := ⟨_, _, rfl⟩
    have hq := insp_ok hX lk
    rw [hz] at hq
    dsimp only at hq
    refine ly_inspect T hK hP hS (fun q a => Nat.le_trans ho a.1) (by omega) (z := z) (N2 := N2) hz mw_2_200 ⟨Nat.le_of_ble_eq_true rfl, Nat.le_of_ble_eq_true rfl⟩ hl.1 (Nat.le_of_ble_eq_true rfl) hcs dL_law_708 (fun H locs hP hS => ?_)
    have hX2 := lwY_X hP
    obtain ⟨d0, d1, d2, d3, d4, d5, d6, d7, d8, d9⟩ := inY_b (inY hX2.1)
    have hem2 := em_in hX2
    refine lv_istore (lv' := [(11, .int (iI z)), (13, .int (iI 0)), (0, .ref b), (1, .ref o), (2, .int (iI 1)), (3, .int (iI t)), (4, .int (iI x)), (5, .int (iI v)), (6, .int (iI w)), (7, .int (iI lk)), (8, .int (iI gd)), (9, .int (iI un)), (10, .int (iI (N 0))), (12, .int (iI wo))]) T.1 T.2.1 dL_law_711 hl (by decide) rfl (fun ls hl => ?_)
    refine lv_iload T.1 T.2.1 dL_law_713 (lv_at hl 0 rfl) ?_
    have hz0 : z < 0 := Int.not_le.mp fun q => by have h9 := (hq.2 q).1; omega
    refine xv_if_lt T (by omega) (tgt := 748) dL_law_715 (by decide) (fun _ => ?_) (fun c2 => absurd c2 (by omega))
    refine xv_iconst T dL_law_748 ?_
    refine lv_goto T.1 T.2.1 (tgt := 753) dL_law_749 (by decide) ?_
    refine lv_istore_n (lv' := [(2, .int (iI 1)), (11, .int (iI z)), (13, .int (iI 0)), (0, .ref b), (1, .ref o), (3, .int (iI t)), (4, .int (iI x)), (5, .int (iI v)), (6, .int (iI w)), (7, .int (iI lk)), (8, .int (iI gd)), (9, .int (iI un)), (10, .int (iI (N 0))), (12, .int (iI wo))]) T.1 T.2.1 dL_law_753 rfl hl (by decide) rfl (fun ls hl => ?_)
    refine lv_goto T.1 T.2.1 (tgt := 986) dL_law_754 (by decide) ?_
    exact again z N2 (chS N st z) _ _ ls (by omega) hP hS (lv_sub hl [3, 4, 0, 5, 1] rfl)
  · skip
    have hLk := hX.1.2.1 lk (by omega) (by omega)
    by_cases h14 : N (14 + lk) = 2
    · skip
      have hfi : finF N lk = N 2 := if_pos h14
      refine lv_aload_n T.1 T.2.1 dL_law_669 rfl (lv_at hl 1 rfl) ?_
      refine xv_iconst T dL_law_670 ?_
      refine ly_count T hK hP hS (fun q a => Nat.le_trans ho a.1) (by omega) (w := N 4) rfl mw_3_50 ⟨Nat.le_of_ble_eq_true rfl, Nat.le_of_ble_eq_true rfl⟩ hl.1 (Nat.le_of_ble_eq_true rfl) hcs dL_law_671 (fun H locs hP hS => ?_)
      refine xv_if_ne T (by omega) (tgt := 681) dL_law_674 (by decide) (fun _ => ?_) (fun c3 => absurd c3 (by omega))
      refine lv_aload_n T.1 T.2.1 dL_law_681 rfl (lv_at hl 1 rfl) ?_
      refine lv_iload T.1 T.2.1 dL_law_682 (lv_at hl 7 rfl) ?_
      refine xv_bipush T dL_law_684 (by omega) ?_
      refine ly_lockerOf T hK hP hS (fun q a => Nat.le_trans ho a.1) (by omega) (by omega) (w := N (14 + lk)) (rl8 (by omega)) mw_2_123 ⟨Nat.le_of_ble_eq_true rfl, Nat.le_of_ble_eq_true rfl⟩ hl.1 (Nat.le_of_ble_eq_true rfl) hcs dL_law_686 (fun H locs hP hS => ?_)
      refine xv_iconst T dL_law_689 ?_
      refine xv_icmp_ne T (by omega) (tgt := 702) dL_law_690 (by decide) (fun c4 => absurd c4 (by omega)) (fun _ => ?_)
      refine lv_aload_n T.1 T.2.1 dL_law_693 rfl (lv_at hl 1 rfl) ?_
      refine xv_bipush T dL_law_694 (by omega) ?_
      refine ly_count T hK hP hS (fun q a => Nat.le_trans ho a.1) (by omega) (w := N 2) rfl mw_3_50 ⟨Nat.le_of_ble_eq_true rfl, Nat.le_of_ble_eq_true rfl⟩ hl.1 (Nat.le_of_ble_eq_true rfl) hcs dL_law_696 (fun H locs hP hS => ?_)
      refine lv_goto T.1 T.2.1 (tgt := 703) dL_law_699 (by decide) ?_
      refine lv_istore (lv' := [(13, .int (iI (N 2))), (0, .ref b), (1, .ref o), (2, .int (iI 1)), (3, .int (iI t)), (4, .int (iI x)), (5, .int (iI v)), (6, .int (iI w)), (7, .int (iI lk)), (8, .int (iI gd)), (9, .int (iI un)), (10, .int (iI (N 0))), (11, .int (iI 0)), (12, .int (iI wo))]) T.1 T.2.1 dL_law_703 hl (by decide) rfl (fun ls hl => ?_)
      refine lv_aload_n T.1 T.2.1 dL_law_705 rfl (lv_at hl 2 rfl) ?_
      refine lv_iload T.1 T.2.1 dL_law_706 (lv_at hl 8 rfl) ?_
      obtain ⟨z, N2, hz⟩ : ∃ (z : Int) (N2 : Int → Int), sInspect N lk = (z, N2) := ⟨_, _, rfl⟩
      have hq := insp_ok hX lk
      rw [hz] at hq
      dsimp only at hq
      refine ly_inspect T hK hP hS (fun q a => Nat.le_trans ho a.1) (by omega) (z := z) (N2 := N2) hz mw_2_200 ⟨Nat.le_of_ble_eq_true rfl, Nat.le_of_ble_eq_true rfl⟩ hl.1 (Nat.le_of_ble_eq_true rfl) hcs dL_law_708 (fun H locs hP hS => ?_)
      have hX2 := lwY_X hP
      obtain ⟨d0, d1, d2, d3, d4, d5, d6, d7, d8, d9⟩ := inY_b (inY hX2.1)
      have hem2 := em_in hX2
      refine lv_istore (lv' := [(11, .int (iI z)), (13, .int (iI (N 2))), (0, .ref b), (1, .ref o), (2, .int (iI 1)), (3, .int (iI t)), (4, .int (iI x)), (5, .int (iI v)), (6, .int (iI w)), (7, .int (iI lk)), (8, .int (iI gd)), (9, .int (iI un)), (10, .int (iI (N 0))), (12, .int (iI wo))]) T.1 T.2.1 dL_law_711 hl (by decide) rfl (fun ls hl => ?_)
      refine lv_iload T.1 T.2.1 dL_law_713 (lv_at hl 0 rfl) ?_
      refine xv_if_lt T (by omega) (tgt := 748) dL_law_715 (by decide) (fun c5 => ?_) (fun c5 => ?_)
      · skip
        refine xv_iconst T dL_law_748 ?_
        refine lv_goto T.1 T.2.1 (tgt := 753) dL_law_749 (by decide) ?_
        refine lv_istore_n (lv' := [(2, .int (iI 1)), (11, .int (iI z)), (13, .int (iI (N 2))), (0, .ref b), (1, .ref o), (3, .int (iI t)), (4, .int (iI x)), (5, .int (iI v)), (6, .int (iI w)), (7, .int (iI lk)), (8, .int (iI gd)), (9, .int (iI un)), (10, .int (iI (N 0))), (12, .int (iI wo))]) T.1 T.2.1 dL_law_753 rfl hl (by decide) rfl (fun ls hl => ?_)
        refine lv_goto T.1 T.2.1 (tgt := 986) dL_law_754 (by decide) ?_
        exact again z N2 (chS N st z) _ _ ls (by omega) hP hS (lv_sub hl [3, 4, 0, 5, 1] rfl)
      · skip
        have hq2 := hq.2 (by omega)
        refine lv_iload T.1 T.2.1 dL_law_718 (lv_at hl 0 rfl) ?_
        refine lv_iload T.1 T.2.1 dL_law_720 (lv_at hl 1 rfl) ?_
        refine xv_icmp_lt T (by omega) (tgt := 752) dL_law_722 (by decide) (fun c6 => absurd c6 (by omega)) (fun _ => ?_)
        refine lv_aload_n T.1 T.2.1 dL_law_725 rfl (lv_at hl 3 rfl) ?_
        refine lv_iload T.1 T.2.1 dL_law_726 (lv_at hl 9 rfl) ?_
        refine xv_bipush T dL_law_728 (by omega) ?_
        refine ly_lockerOf T hK hP hS (fun q a => Nat.le_trans ho a.1) (by omega) (by omega) (w := 0) ((rl11 (N := N2) (by omega)).trans hq2.2.2.1) mw_2_123 ⟨Nat.le_of_ble_eq_true rfl, Nat.le_of_ble_eq_true rfl⟩ hl.1 (Nat.le_of_ble_eq_true rfl) hcs dL_law_730 (fun H locs hP hS => ?_)
        refine xv_if_ne T (by omega) (tgt := 752) dL_law_733 (by decide) (fun c7 => absurd c7 (by omega)) (fun _ => ?_)
        refine lv_aload_n T.1 T.2.1 dL_law_736 rfl (lv_at hl 3 rfl) ?_
        refine lv_iload T.1 T.2.1 dL_law_737 (lv_at hl 9 rfl) ?_
        refine xv_bipush T dL_law_739 (by omega) ?_
        refine ly_lockerOf T hK hP hS (fun q a => Nat.le_trans ho a.1) (by omega) (by omega) (w := 1) ((rl8 (N := N2) (by omega)).trans hq2.2.2.2.1) mw_2_123 ⟨Nat.le_of_ble_eq_true rfl, Nat.le_of_ble_eq_true rfl⟩ hl.1 (Nat.le_of_ble_eq_true rfl) hcs dL_law_741 (fun H locs hP hS => ?_)
        refine xv_iconst T dL_law_744 ?_
        refine xv_icmp_ne T (by omega) (tgt := 752) dL_law_745 (by decide) (fun c8 => absurd c8 (by omega)) (fun _ => ?_)
        refine xv_iconst T dL_law_748 ?_
        refine lv_goto T.1 T.2.1 (tgt := 753) dL_law_749 (by decide) ?_
        refine lv_istore_n (lv' := [(2, .int (iI 1)), (11, .int (iI z)), (13, .int (iI (N 2))), (0, .ref b), (1, .ref o), (3, .int (iI t)), (4, .int (iI x)), (5, .int (iI v)), (6, .int (iI w)), (7, .int (iI lk)), (8, .int (iI gd)), (9, .int (iI un)), (10, .int (iI (N 0))), (12, .int (iI wo))]) T.1 T.2.1 dL_law_753 rfl hl (by decide) rfl (fun ls hl => ?_)
        refine lv_goto T.1 T.2.1 (tgt := 986) dL_law_754 (by decide) ?_
        exact again z N2 (chS N st z) _ _ ls (by omega) hP hS (lv_sub hl [3, 4, 0, 5, 1] rfl)
    · skip
      have hfi : finF N lk = 0 := if_neg h14
      refine lv_aload_n T.1 T.2.1 dL_law_669 rfl (lv_at hl 1 rfl) ?_
      refine xv_iconst T dL_law_670 ?_
      refine ly_count T hK hP hS (fun q a => Nat.le_trans ho a.1) (by omega) (w := N 4) rfl mw_3_50 ⟨Nat.le_of_ble_eq_true rfl, Nat.le_of_ble_eq_true rfl⟩ hl.1 (Nat.le_of_ble_eq_true rfl) hcs dL_law_671 (fun H locs hP hS => ?_)
      refine xv_if_ne T (by omega) (tgt := 681) dL_law_674 (by decide) (fun _ => ?_) (fun c9 => absurd c9 (by omega))
      refine lv_aload_n T.1 T.2.1 dL_law_681 rfl (lv_at hl 1 rfl) ?_
      refine lv_iload T.1 T.2.1 dL_law_682 (lv_at hl 7 rfl) ?_
      refine xv_bipush T dL_law_684 (by omega) ?_
      refine ly_lockerOf T hK hP hS (fun q a => Nat.le_trans ho a.1) (by omega) (by omega) (w := N (14 + lk)) (rl8 (by omega)) mw_2_123 ⟨Nat.le_of_ble_eq_true rfl, Nat.le_of_ble_eq_true rfl⟩ hl.1 (Nat.le_of_ble_eq_true rfl) hcs dL_law_686 (fun H locs hP hS => ?_)
      refine xv_iconst T dL_law_689 ?_
      refine xv_icmp_ne T (by omega) (tgt := 702) dL_law_690 (by decide) (fun _ => ?_) (fun c10 => absurd c10 (by omega))
      refine xv_iconst T dL_law_702 ?_
      refine lv_istore (lv' := [(13, .int (iI 0)), (0, .ref b), (1, .ref o), (2, .int (iI 1)), (3, .int (iI t)), (4, .int (iI x)), (5, .int (iI v)), (6, .int (iI w)), (7, .int (iI lk)), (8, .int (iI gd)), (9, .int (iI un)), (10, .int (iI (N 0))), (11, .int (iI 0)), (12, .int (iI wo))]) T.1 T.2.1 dL_law_703 hl (by decide) rfl (fun ls hl => ?_)
      refine lv_aload_n T.1 T.2.1 dL_law_705 rfl (lv_at hl 2 rfl) ?_
      refine lv_iload T.1 T.2.1 dL_law_706 (lv_at hl 8 rfl) ?_
      obtain ⟨z, N2, hz⟩ : ∃ (z : Int) (N2 : Int → Int), sInspect N lk = (z, N2) := ⟨_, _, rfl⟩
      have hq := insp_ok hX lk
      rw [hz] at hq
      dsimp only at hq
      refine ly_inspect T hK hP hS (fun q a => Nat.le_trans ho a.1) (by omega) (z := z) (N2 := N2) hz mw_2_200 ⟨Nat.le_of_ble_eq_true rfl, Nat.le_of_ble_eq_true rfl⟩ hl.1 (Nat.le_of_ble_eq_true rfl) hcs dL_law_708 (fun H locs hP hS => ?_)
      have hX2 := lwY_X hP
      obtain ⟨d0, d1, d2, d3, d4, d5, d6, d7, d8, d9⟩ := inY_b (inY hX2.1)
      have hem2 := em_in hX2
      refine lv_istore (lv' := [(11, .int (iI z)), (13, .int (iI 0)), (0, .ref b), (1, .ref o), (2, .int (iI 1)), (3, .int (iI t)), (4, .int (iI x)), (5, .int (iI v)), (6, .int (iI w)), (7, .int (iI lk)), (8, .int (iI gd)), (9, .int (iI un)), (10, .int (iI (N 0))), (12, .int (iI wo))]) T.1 T.2.1 dL_law_711 hl (by decide) rfl (fun ls hl => ?_)
      refine lv_iload T.1 T.2.1 dL_law_713 (lv_at hl 0 rfl) ?_
      refine xv_if_lt T (by omega) (tgt := 748) dL_law_715 (by decide) (fun c11 => ?_) (fun c11 => ?_)
      · skip
        refine xv_iconst T dL_law_748 ?_
        refine lv_goto T.1 T.2.1 (tgt := 753) dL_law_749 (by decide) ?_
        refine lv_istore_n (lv' := [(2, .int (iI 1)), (11, .int (iI z)), (13, .int (iI 0)), (0, .ref b), (1, .ref o), (3, .int (iI t)), (4, .int (iI x)), (5, .int (iI v)), (6, .int (iI w)), (7, .int (iI lk)), (8, .int (iI gd)), (9, .int (iI un)), (10, .int (iI (N 0))), (12, .int (iI wo))]) T.1 T.2.1 dL_law_753 rfl hl (by decide) rfl (fun ls hl => ?_)
        refine lv_goto T.1 T.2.1 (tgt := 986) dL_law_754 (by decide) ?_
        exact again z N2 (chS N st z) _ _ ls (by omega) hP hS (lv_sub hl [3, 4, 0, 5, 1] rfl)
      · skip
        have hq2 := hq.2 (by omega)
        refine lv_iload T.1 T.2.1 dL_law_718 (lv_at hl 0 rfl) ?_
        refine lv_iload T.1 T.2.1 dL_law_720 (lv_at hl 1 rfl) ?_
        refine xv_icmp_lt T (by omega) (tgt := 752) dL_law_722 (by decide) (fun c12 => absurd c12 (by omega)) (fun _ => ?_)
        refine lv_aload_n T.1 T.2.1 dL_law_725 rfl (lv_at hl 3 rfl) ?_
        refine lv_iload T.1 T.2.1 dL_law_726 (lv_at hl 9 rfl) ?_
        refine xv_bipush T dL_law_728 (by omega) ?_
        refine ly_lockerOf T hK hP hS (fun q a => Nat.le_trans ho a.1) (by omega) (by omega) (w := 0) ((rl11 (N := N2) (by omega)).trans hq2.2.2.1) mw_2_123 ⟨Nat.le_of_ble_eq_true rfl, Nat.le_of_ble_eq_true rfl⟩ hl.1 (Nat.le_of_ble_eq_true rfl) hcs dL_law_730 (fun H locs hP hS => ?_)
        refine xv_if_ne T (by omega) (tgt := 752) dL_law_733 (by decide) (fun c13 => absurd c13 (by omega)) (fun _ => ?_)
        refine lv_aload_n T.1 T.2.1 dL_law_736 rfl (lv_at hl 3 rfl) ?_
        refine lv_iload T.1 T.2.1 dL_law_737 (lv_at hl 9 rfl) ?_
        refine xv_bipush T dL_law_739 (by omega) ?_
        refine ly_lockerOf T hK hP hS (fun q a => Nat.le_trans ho a.1) (by omega) (by omega) (w := 1) ((rl8 (N := N2) (by omega)).trans hq2.2.2.2.1) mw_2_123 ⟨Nat.le_of_ble_eq_true rfl, Nat.le_of_ble_eq_true rfl⟩ hl.1 (Nat.le_of_ble_eq_true rfl) hcs dL_law_741 (fun H locs hP hS => ?_)
        refine xv_iconst T dL_law_744 ?_
        refine xv_icmp_ne T (by omega) (tgt := 752) dL_law_745 (by decide) (fun c14 => absurd c14 (by omega)) (fun _ => ?_)
        refine xv_iconst T dL_law_748 ?_
        refine lv_goto T.1 T.2.1 (tgt := 753) dL_law_749 (by decide) ?_
        refine lv_istore_n (lv' := [(2, .int (iI 1)), (11, .int (iI z)), (13, .int (iI 0)), (0, .ref b), (1, .ref o), (3, .int (iI t)), (4, .int (iI x)), (5, .int (iI v)), (6, .int (iI w)), (7, .int (iI lk)), (8, .int (iI gd)), (9, .int (iI un)), (10, .int (iI (N 0))), (12, .int (iI wo))]) T.1 T.2.1 dL_law_753 rfl hl (by decide) rfl (fun ls hl => ?_)
        refine lv_goto T.1 T.2.1 (tgt := 986) dL_law_754 (by decide) ?_
        exact again z N2 (chS N st z) _ _ ls (by omega) hP hS (lv_sub hl [3, 4, 0, 5, 1] rfl)
set_option maxHeartbeats 4000000 in
set_option maxRecDepth 100000 in
theorem sw_757 (T : CF p m c cL_law 16 s #[.ref b] RL) (hK : xK K s) (hXs : va_X b n xs s s.heap) (hbl : b < s.heap.size) (ho : s.heap.size ≤ o) (hn : n ≤ 260) (hcs : cells ≤ room_1.cells ∧ slots ≤ room_1.slots) {t : Int} (ht : 0 ≤ t ∧ t < 30) {x v w : Int} (hx : -2147483648 ≤ x ∧ x ≤ 2147483647) (hv : 0 ≤ v ∧ v < 8192) (hw : 0 ≤ w ∧ w < 8192) {lk : Int} (hlk : (N 4 = 0 ∧ lk = 0) ∨ (0 ≤ lk ∧ lk < N 4)) {gd : Int} (hgd : (N 5 = 0 ∧ gd = 0) ∨ (0 ≤ gd ∧ gd < N 5)) {un : Int} (hun : 1 ≤ un ∧ un ≤ 30) {wo : Int} (hwo : (N 5 = 0 ∧ wo = -4) ∨ ((0 ≤ gd ∧ gd < N 5) ∧ wo = qWorth N gd un)) {H : Heap} {locs : List Loc} (hP : LwY K o N st H) (hS : va_S (fun q => s.heap.size ≤ q) s.heap H locs) {ls : Array Slot} (hl : lv_has ls 16 [(0, .ref b), (1, .ref o), (2, .int (iI 1)), (3, .int (iI t)), (4, .int (iI x)), (5, .int (iI v)), (6, .int (iI w)), (7, .int (iI lk)), (8, .int (iI gd)), (9, .int (iI un)), (10, .int (iI (N 0))), (11, .int (iI 0)), (12, .int (iI wo))]) (again : ∀ (z : Int) (N2 : Int → Int) (st2 : List (Int → Int)) (H1 : Heap) (locs1 : List Loc) (ls1 : Array Slot), -4 ≤ z ∧ z ≤ 2147483647 → LwY K o N2 st2 H1 → va_S (fun q => s.heap.size ≤ q) s.heap H1 locs1 → lv_has ls1 16 [(0, .ref b), (1, .ref o), (2, .int (iI 1)), (3, .int (iI t)), (11, .int (iI z))] → W p l e room_1 s m #[.ref b] below meth c H1 locs1 cells slots Q (F0 m 986 ls1 [])) : W p l e room_1 s m #[.ref b] below meth c H locs cells slots Q (F0 m 757 ls []) := by
  have hX := lwY_X hP
  have hR := inY_R (inY hX.1)
  obtain ⟨b0, b1, b2, b3, b4, b5, b6, b7, b8, b9⟩ := inY_b (inY hX.1)
  have hc1 := cntF_in (N := N) 1 b4.1
  by_cases h0 : N 0 = 1
  · skip
    refine lv_iload T.1 T.2.1 dL_law_757 (lv_at hl 10 rfl) ?_
    refine xv_iconst T dL_law_759 ?_
    refine xv_icmp_ne T (by omega) (tgt := 772) dL_law_760 (by decide) (fun c1 => absurd c1 (by omega)) (fun _ => ?_)
    refine xv_iconst T dL_law_763 ?_
    refine lv_iload T.1 T.2.1 dL_law_764 (lv_at hl 5 rfl) ?_
    refine xv_iconst T dL_law_766 ?_
    refine xv_irem T (by omega) (by omega) dL_law_767 ?_
    refine xv_imul T dL_law_768 ?_
    refine lv_goto T.1 T.2.1 (tgt := 773) dL_law_769 (by decide) ?_
    refine lv_istore (lv' := [(13, .int (iI (2 * (v % 2)))), (0, .ref b), (1, .ref o), (2, .int (iI 1)), (3, .int (iI t)), (4, .int (iI x)), (5, .int (iI v)), (6, .int (iI w)), (7, .int (iI lk)), (8, .int (iI gd)), (9, .int (iI un)), (10, .int (iI (N 0))), (11, .int (iI 0)), (12, .int (iI wo))]) T.1 T.2.1 dL_law_773 hl (by decide) rfl (fun ls hl => ?_)
    refine lv_aload_n T.1 T.2.1 dL_law_775 rfl (lv_at hl 2 rfl) ?_
    refine xv_bipush T dL_law_776 (by omega) ?_
    refine ly_count T hK hP hS (fun q a => Nat.le_trans ho a.1) (by omega) (w := cntF N 1) rfl mw_3_50 ⟨Nat.le_of_ble_eq_true rfl, Nat.le_of_ble_eq_true rfl⟩ hl.1 (Nat.le_of_ble_eq_true rfl) hcs dL_law_778 (fun H locs hP hS => ?_)
    refine lv_istore (lv' := [(14, .int (iI (cntF N 1))), (13, .int (iI (2 * (v % 2)))), (0, .ref b), (1, .ref o), (2, .int (iI 1)), (3, .int (iI t)), (4, .int (iI x)), (5, .int (iI v)), (6, .int (iI w)), (7, .int (iI lk)), (8, .int (iI gd)), (9, .int (iI un)), (10, .int (iI (N 0))), (11, .int (iI 0)), (12, .int (iI wo))]) T.1 T.2.1 dL_law_781 hl (by decide) rfl (fun ls hl => ?_)
    refine lv_aload_n T.1 T.2.1 dL_law_783 rfl (lv_at hl 3 rfl) ?_
    refine xv_iconst T dL_law_784 ?_
    refine ly_count T hK hP hS (fun q a => Nat.le_trans ho a.1) (by omega) (w := N 4) rfl mw_3_50 ⟨Nat.le_of_ble_eq_true rfl, Nat.le_of_ble_eq_true rfl⟩ hl.1 (Nat.le_of_ble_eq_true rfl) hcs dL_law_785 (fun H locs hP hS => ?_)
    refine lv_istore (lv' := [(15, .int (iI (N 4))), (14, .int (iI (cntF N 1))), (13, .int (iI (2 * (v % 2)))), (0, .ref b), (1, .ref o), (2, .int (iI 1)), (3, .int (iI t)), (4, .int (iI x)), (5, .int (iI v)), (6, .int (iI w)), (7, .int (iI lk)), (8, .int (iI gd)), (9, .int (iI un)), (10, .int (iI (N 0))), (11, .int (iI 0)), (12, .int (iI wo))]) T.1 T.2.1 dL_law_788 hl (by decide) rfl (fun ls hl => ?_)
    refine lv_aload_n T.1 T.2.1 dL_law_790 rfl (lv_at hl 4 rfl) ?_
    refine lv_iload T.1 T.2.1 dL_law_791 (lv_at hl 2 rfl) ?_
    obtain ⟨z, N2, hz⟩ : ∃ (z : Int) (N2 : Int → Int), sCross N (2 * (v % 2)) = (z, N2) := ⟨_, _, rfl⟩
    have hq := cross_ok hX (z := 2 * (v % 2)) (by omega)
    rw [hz] at hq
    dsimp only at hq
    have hzr : z = -3 ∨ (0 ≤ z ∧ z ≤ 5) := by
      rcases hq with h9 | ⟨h9, -⟩
      · exact Or.inl h9
      · right
        rw [h9]
        split
        · omega
        split <;> omega
    refine ly_cross T hK hP hS (fun q a => Nat.le_trans ho a.1) (by omega) (z := z) (N2 := N2) hz mw_2_212 ⟨Nat.le_of_ble_eq_true rfl, Nat.le_of_ble_eq_true rfl⟩ hl.1 (Nat.le_of_ble_eq_true rfl) hcs dL_law_793 (fun H locs hP hS => ?_)
    have hX2 := lwY_X hP
    obtain ⟨d0, d1, d2, d3, d4, d5, d6, d7, d8, d9⟩ := inY_b (inY hX2.1)
    refine lv_istore (lv' := [(11, .int (iI z)), (15, .int (iI (N 4))), (14, .int (iI (cntF N 1))), (13, .int (iI (2 * (v % 2)))), (0, .ref b), (1, .ref o), (2, .int (iI 1)), (3, .int (iI t)), (4, .int (iI x)), (5, .int (iI v)), (6, .int (iI w)), (7, .int (iI lk)), (8, .int (iI gd)), (9, .int (iI un)), (10, .int (iI (N 0))), (12, .int (iI wo))]) T.1 T.2.1 dL_law_796 hl (by decide) rfl (fun ls hl => ?_)
    refine lv_iload T.1 T.2.1 dL_law_798 (lv_at hl 0 rfl) ?_
    refine xv_bipush T dL_law_800 (by omega) ?_
    refine xv_icmp_eq T (by omega) (tgt := 841) dL_law_802 (by decide) (fun c2 => ?_) (fun c2 => ?_)
    · skip
      refine xv_iconst T dL_law_841 ?_
      refine lv_goto T.1 T.2.1 (tgt := 846) dL_law_842 (by decide) ?_
      refine lv_istore_n (lv' := [(2, .int (iI 1)), (11, .int (iI z)), (15, .int (iI (N 4))), (14, .int (iI (cntF N 1))), (13, .int (iI (2 * (v % 2)))), (0, .ref b), (1, .ref o), (3, .int (iI t)), (4, .int (iI x)), (5, .int (iI v)), (6, .int (iI w)), (7, .int (iI lk)), (8, .int (iI gd)), (9, .int (iI un)), (10, .int (iI (N 0))), (12, .int (iI wo))]) T.1 T.2.1 dL_law_846 rfl hl (by decide) rfl (fun ls hl => ?_)
      refine lv_goto T.1 T.2.1 (tgt := 986) dL_law_847 (by decide) ?_
      exact again z N2 (chS N st z) _ _ ls (by omega) hP hS (lv_sub hl [5, 6, 0, 7, 1] rfl)
    · skip
      have hq2 := hq.resolve_left c2
      have hq3 := hq2.1
      refine lv_iload T.1 T.2.1 dL_law_805 (lv_at hl 0 rfl) ?_
      refine lv_iload T.1 T.2.1 dL_law_807 (lv_at hl 14 rfl) ?_
      refine xv_if_ne T (by omega) (tgt := 817) dL_law_809 (by decide) (fun _ => ?_) (fun c3 => absurd c3 (by omega))
      refine lv_iload T.1 T.2.1 dL_law_817 (lv_at hl 3 rfl) ?_
      refine xv_if_ne T (by omega) (tgt := 827) dL_law_819 (by decide) (fun c4 => ?_) (fun c4 => ?_)
      · skip
        refine xv_iconst T dL_law_827 ?_
        first | rw [if_pos (by omega)] at hq3 | rw [if_neg (by omega), if_pos (by omega)] at hq3 | rw [if_neg (by omega), if_neg (by omega)] at hq3
        refine xv_icmp_ne T (by omega) (tgt := 845) dL_law_828 (by decide) (fun c5 => absurd c5 (by omega)) (fun _ => ?_)
        refine lv_aload_n T.1 T.2.1 dL_law_831 rfl (lv_at hl 5 rfl) ?_
        refine xv_iconst T dL_law_832 ?_
        refine ly_count T hK hP hS (fun q a => Nat.le_trans ho a.1) (by omega) (w := N2 0) rfl mw_3_50 ⟨Nat.le_of_ble_eq_true rfl, Nat.le_of_ble_eq_true rfl⟩ hl.1 (Nat.le_of_ble_eq_true rfl) hcs dL_law_833 (fun H locs hP hS => ?_)
        refine lv_iload T.1 T.2.1 dL_law_836 (lv_at hl 3 rfl) ?_
        refine xv_icmp_ne T (by omega) (tgt := 845) dL_law_838 (by decide) (fun c6 => absurd c6 (by omega)) (fun _ => ?_)
        refine xv_iconst T dL_law_841 ?_
        refine lv_goto T.1 T.2.1 (tgt := 846) dL_law_842 (by decide) ?_
        refine lv_istore_n (lv' := [(2, .int (iI 1)), (11, .int (iI z)), (15, .int (iI (N 4))), (14, .int (iI (cntF N 1))), (13, .int (iI (2 * (v % 2)))), (0, .ref b), (1, .ref o), (3, .int (iI t)), (4, .int (iI x)), (5, .int (iI v)), (6, .int (iI w)), (7, .int (iI lk)), (8, .int (iI gd)), (9, .int (iI un)), (10, .int (iI (N 0))), (12, .int (iI wo))]) T.1 T.2.1 dL_law_846 rfl hl (by decide) rfl (fun ls hl => ?_)
        refine lv_goto T.1 T.2.1 (tgt := 986) dL_law_847 (by decide) ?_
        exact again z N2 (chS N st z) _ _ ls (by omega) hP hS (lv_sub hl [5, 6, 0, 7, 1] rfl)
      · skip
        refine lv_iload T.1 T.2.1 dL_law_822 (lv_at hl 2 rfl) ?_
        refine lv_goto T.1 T.2.1 (tgt := 828) dL_law_824 (by decide) ?_
        first | rw [if_pos (by omega)] at hq3 | rw [if_neg (by omega), if_pos (by omega)] at hq3 | rw [if_neg (by omega), if_neg (by omega)] at hq3
        refine xv_icmp_ne T (by omega) (tgt := 845) dL_law_828 (by decide) (fun c7 => absurd c7 (by omega)) (fun _ => ?_)
        refine lv_aload_n T.1 T.2.1 dL_law_831 rfl (lv_at hl 5 rfl) ?_
        refine xv_iconst T dL_law_832 ?_
        refine ly_count T hK hP hS (fun q a => Nat.le_trans ho a.1) (by omega) (w := N2 0) rfl mw_3_50 ⟨Nat.le_of_ble_eq_true rfl, Nat.le_of_ble_eq_true rfl⟩ hl.1 (Nat.le_of_ble_eq_true rfl) hcs dL_law_833 (fun H locs hP hS => ?_)
        refine lv_iload T.1 T.2.1 dL_law_836 (lv_at hl 3 rfl) ?_
        refine xv_icmp_ne T (by omega) (tgt := 845) dL_law_838 (by decide) (fun c8 => absurd c8 (by omega)) (fun _ => ?_)
        refine xv_iconst T dL_law_841 ?_
        refine lv_goto T.1 T.2.1 (tgt := 846) dL_law_842 (by decide) ?_
        refine lv_istore_n (lv' := [(2, .int (iI 1)), (11, .int (iI z)), (15, .int (iI (N 4))), (14, .int (iI (cntF N 1))), (13, .int (iI (2 * (v % 2)))), (0, .ref b), (1, .ref o), (3, .int (iI t)), (4, .int (iI x)), (5, .int (iI v)), (6, .int (iI w)), (7, .int (iI lk)), (8, .int (iI gd)), (9, .int (iI un)), (10, .int (iI (N 0))), (12, .int (iI wo))]) T.1 T.2.1 dL_law_846 rfl hl (by decide) rfl (fun ls hl => ?_)
        refine lv_goto T.1 T.2.1 (tgt := 986) dL_law_847 (by decide) ?_
        exact again z N2 (chS N st z) _ _ ls (by omega) hP hS (lv_sub hl [5, 6, 0, 7, 1] rfl)
  · skip
    refine lv_iload T.1 T.2.1 dL_law_757 (lv_at hl 10 rfl) ?_
    refine xv_iconst T dL_law_759 ?_
    refine xv_icmp_ne T (by omega) (tgt := 772) dL_law_760 (by decide) (fun _ => ?_) (fun c9 => absurd c9 (by omega))
    refine xv_iconst T dL_law_772 ?_
    refine lv_istore (lv' := [(13, .int (iI 1)), (0, .ref b), (1, .ref o), (2, .int (iI 1)), (3, .int (iI t)), (4, .int (iI x)), (5, .int (iI v)), (6, .int (iI w)), (7, .int (iI lk)), (8, .int (iI gd)), (9, .int (iI un)), (10, .int (iI (N 0))), (11, .int (iI 0)), (12, .int (iI wo))]) T.1 T.2.1 dL_law_773 hl (by decide) rfl (fun ls hl => ?_)
    refine lv_aload_n T.1 T.2.1 dL_law_775 rfl (lv_at hl 2 rfl) ?_
    refine xv_bipush T dL_law_776 (by omega) ?_
    refine ly_count T hK hP hS (fun q a => Nat.le_trans ho a.1) (by omega) (w := cntF N 1) rfl mw_3_50 ⟨Nat.le_of_ble_eq_true rfl, Nat.le_of_ble_eq_true rfl⟩ hl.1 (Nat.le_of_ble_eq_true rfl) hcs dL_law_778 (fun H locs hP hS => ?_)
    refine lv_istore (lv' := [(14, .int (iI (cntF N 1))), (13, .int (iI 1)), (0, .ref b), (1, .ref o), (2, .int (iI 1)), (3, .int (iI t)), (4, .int (iI x)), (5, .int (iI v)), (6, .int (iI w)), (7, .int (iI lk)), (8, .int (iI gd)), (9, .int (iI un)), (10, .int (iI (N 0))), (11, .int (iI 0)), (12, .int (iI wo))]) T.1 T.2.1 dL_law_781 hl (by decide) rfl (fun ls hl => ?_)
    refine lv_aload_n T.1 T.2.1 dL_law_783 rfl (lv_at hl 3 rfl) ?_
    refine xv_iconst T dL_law_784 ?_
    refine ly_count T hK hP hS (fun q a => Nat.le_trans ho a.1) (by omega) (w := N 4) rfl mw_3_50 ⟨Nat.le_of_ble_eq_true rfl, Nat.le_of_ble_eq_true rfl⟩ hl.1 (Nat.le_of_ble_eq_true rfl) hcs dL_law_785 (fun H locs hP hS => ?_)
    refine lv_istore (lv' := [(15, .int (iI (N 4))), (14, .int (iI (cntF N 1))), (13, .int (iI 1)), (0, .ref b), (1, .ref o), (2, .int (iI 1)), (3, .int (iI t)), (4, .int (iI x)), (5, .int (iI v)), (6, .int (iI w)), (7, .int (iI lk)), (8, .int (iI gd)), (9, .int (iI un)), (10, .int (iI (N 0))), (11, .int (iI 0)), (12, .int (iI wo))]) T.1 T.2.1 dL_law_788 hl (by decide) rfl (fun ls hl => ?_)
    refine lv_aload_n T.1 T.2.1 dL_law_790 rfl (lv_at hl 4 rfl) ?_
    refine lv_iload T.1 T.2.1 dL_law_791 (lv_at hl 2 rfl) ?_
    obtain ⟨z, N2, hz⟩ : ∃ (z : Int) (N2 : Int → Int), sCross N (1) = (z, N2) := ⟨_, _, rfl⟩
    have hq := cross_ok hX (z := 1) (by omega)
    rw [hz] at hq
    dsimp only at hq
    have hzr : z = -3 ∨ (0 ≤ z ∧ z ≤ 5) := by
      rcases hq with h9 | ⟨h9, -⟩
      · exact Or.inl h9
      · right
        rw [h9]
        split
        · omega
        split <;> omega
    refine ly_cross T hK hP hS (fun q a => Nat.le_trans ho a.1) (by omega) (z := z) (N2 := N2) hz mw_2_212 ⟨Nat.le_of_ble_eq_true rfl, Nat.le_of_ble_eq_true rfl⟩ hl.1 (Nat.le_of_ble_eq_true rfl) hcs dL_law_793 (fun H locs hP hS => ?_)
    have hX2 := lwY_X hP
    obtain ⟨d0, d1, d2, d3, d4, d5, d6, d7, d8, d9⟩ := inY_b (inY hX2.1)
    refine lv_istore (lv' := [(11, .int (iI z)), (15, .int (iI (N 4))), (14, .int (iI (cntF N 1))), (13, .int (iI 1)), (0, .ref b), (1, .ref o), (2, .int (iI 1)), (3, .int (iI t)), (4, .int (iI x)), (5, .int (iI v)), (6, .int (iI w)), (7, .int (iI lk)), (8, .int (iI gd)), (9, .int (iI un)), (10, .int (iI (N 0))), (12, .int (iI wo))]) T.1 T.2.1 dL_law_796 hl (by decide) rfl (fun ls hl => ?_)
    refine lv_iload T.1 T.2.1 dL_law_798 (lv_at hl 0 rfl) ?_
    refine xv_bipush T dL_law_800 (by omega) ?_
    refine xv_icmp_eq T (by omega) (tgt := 841) dL_law_802 (by decide) (fun c10 => ?_) (fun c10 => ?_)
    · skip
      refine xv_iconst T dL_law_841 ?_
      refine lv_goto T.1 T.2.1 (tgt := 846) dL_law_842 (by decide) ?_
      refine lv_istore_n (lv' := [(2, .int (iI 1)), (11, .int (iI z)), (15, .int (iI (N 4))), (14, .int (iI (cntF N 1))), (13, .int (iI 1)), (0, .ref b), (1, .ref o), (3, .int (iI t)), (4, .int (iI x)), (5, .int (iI v)), (6, .int (iI w)), (7, .int (iI lk)), (8, .int (iI gd)), (9, .int (iI un)), (10, .int (iI (N 0))), (12, .int (iI wo))]) T.1 T.2.1 dL_law_846 rfl hl (by decide) rfl (fun ls hl => ?_)
      refine lv_goto T.1 T.2.1 (tgt := 986) dL_law_847 (by decide) ?_
      exact again z N2 (chS N st z) _ _ ls (by omega) hP hS (lv_sub hl [5, 6, 0, 7, 1] rfl)
    · skip
      have hq2 := hq.resolve_left c10
      have hq3 := hq2.1
      refine lv_iload T.1 T.2.1 dL_law_805 (lv_at hl 0 rfl) ?_
      refine lv_iload T.1 T.2.1 dL_law_807 (lv_at hl 14 rfl) ?_
      refine xv_if_ne T (by omega) (tgt := 817) dL_law_809 (by decide) (fun c11 => ?_) (fun c11 => ?_)
      · skip
        refine lv_iload T.1 T.2.1 dL_law_817 (lv_at hl 3 rfl) ?_
        refine xv_if_ne T (by omega) (tgt := 827) dL_law_819 (by decide) (fun _ => ?_) (fun c12 => absurd c12 (by omega))
        refine xv_iconst T dL_law_827 ?_
        first | rw [if_pos (by omega)] at hq3 | rw [if_neg (by omega), if_pos (by omega)] at hq3 | rw [if_neg (by omega), if_neg (by omega)] at hq3
        refine xv_icmp_ne T (by omega) (tgt := 845) dL_law_828 (by decide) (fun c13 => absurd c13 (by omega)) (fun _ => ?_)
        refine lv_aload_n T.1 T.2.1 dL_law_831 rfl (lv_at hl 5 rfl) ?_
        refine xv_iconst T dL_law_832 ?_
        refine ly_count T hK hP hS (fun q a => Nat.le_trans ho a.1) (by omega) (w := N2 0) rfl mw_3_50 ⟨Nat.le_of_ble_eq_true rfl, Nat.le_of_ble_eq_true rfl⟩ hl.1 (Nat.le_of_ble_eq_true rfl) hcs dL_law_833 (fun H locs hP hS => ?_)
        refine lv_iload T.1 T.2.1 dL_law_836 (lv_at hl 3 rfl) ?_
        refine xv_icmp_ne T (by omega) (tgt := 845) dL_law_838 (by decide) (fun c14 => absurd c14 (by omega)) (fun _ => ?_)
        refine xv_iconst T dL_law_841 ?_
        refine lv_goto T.1 T.2.1 (tgt := 846) dL_law_842 (by decide) ?_
        refine lv_istore_n (lv' := [(2, .int (iI 1)), (11, .int (iI z)), (15, .int (iI (N 4))), (14, .int (iI (cntF N 1))), (13, .int (iI 1)), (0, .ref b), (1, .ref o), (3, .int (iI t)), (4, .int (iI x)), (5, .int (iI v)), (6, .int (iI w)), (7, .int (iI lk)), (8, .int (iI gd)), (9, .int (iI un)), (10, .int (iI (N 0))), (12, .int (iI wo))]) T.1 T.2.1 dL_law_846 rfl hl (by decide) rfl (fun ls hl => ?_)
        refine lv_goto T.1 T.2.1 (tgt := 986) dL_law_847 (by decide) ?_
        exact again z N2 (chS N st z) _ _ ls (by omega) hP hS (lv_sub hl [5, 6, 0, 7, 1] rfl)
      · skip
        refine lv_iload T.1 T.2.1 dL_law_812 (lv_at hl 1 rfl) ?_
        refine lv_goto T.1 T.2.1 (tgt := 828) dL_law_814 (by decide) ?_
        first | rw [if_pos (by omega)] at hq3 | rw [if_neg (by omega), if_pos (by omega)] at hq3 | rw [if_neg (by omega), if_neg (by omega)] at hq3
        refine xv_icmp_ne T (by omega) (tgt := 845) dL_law_828 (by decide) (fun c15 => absurd c15 (by omega)) (fun _ => ?_)
        refine lv_aload_n T.1 T.2.1 dL_law_831 rfl (lv_at hl 5 rfl) ?_
        refine xv_iconst T dL_law_832 ?_
        refine ly_count T hK hP hS (fun q a => Nat.le_trans ho a.1) (by omega) (w := N2 0) rfl mw_3_50 ⟨Nat.le_of_ble_eq_true rfl, Nat.le_of_ble_eq_true rfl⟩ hl.1 (Nat.le_of_ble_eq_true rfl) hcs dL_law_833 (fun H locs hP hS => ?_)
        refine lv_iload T.1 T.2.1 dL_law_836 (lv_at hl 3 rfl) ?_
        refine xv_icmp_ne T (by omega) (tgt := 845) dL_law_838 (by decide) (fun c16 => absurd c16 (by omega)) (fun _ => ?_)
        refine xv_iconst T dL_law_841 ?_
        refine lv_goto T.1 T.2.1 (tgt := 846) dL_law_842 (by decide) ?_
        refine lv_istore_n (lv' := [(2, .int (iI 1)), (11, .int (iI z)), (15, .int (iI (N 4))), (14, .int (iI (cntF N 1))), (13, .int (iI 1)), (0, .ref b), (1, .ref o), (3, .int (iI t)), (4, .int (iI x)), (5, .int (iI v)), (6, .int (iI w)), (7, .int (iI lk)), (8, .int (iI gd)), (9, .int (iI un)), (10, .int (iI (N 0))), (12, .int (iI wo))]) T.1 T.2.1 dL_law_846 rfl hl (by decide) rfl (fun ls hl => ?_)
        refine lv_goto T.1 T.2.1 (tgt := 986) dL_law_847 (by decide) ?_
        exact again z N2 (chS N st z) _ _ ls (by omega) hP hS (lv_sub hl [5, 6, 0, 7, 1] rfl)
set_option maxHeartbeats 4000000 in
set_option maxRecDepth 100000 in
theorem sw_850 (T : CF p m c cL_law 16 s #[.ref b] RL) (hK : xK K s) (hXs : va_X b n xs s s.heap) (hbl : b < s.heap.size) (ho : s.heap.size ≤ o) (hn : n ≤ 260) (hcs : cells ≤ room_1.cells ∧ slots ≤ room_1.slots) {t : Int} (ht : 0 ≤ t ∧ t < 30) {x v w : Int} (hx : -2147483648 ≤ x ∧ x ≤ 2147483647) (hv : 0 ≤ v ∧ v < 8192) (hw : 0 ≤ w ∧ w < 8192) {lk : Int} (hlk : (N 4 = 0 ∧ lk = 0) ∨ (0 ≤ lk ∧ lk < N 4)) {gd : Int} (hgd : (N 5 = 0 ∧ gd = 0) ∨ (0 ≤ gd ∧ gd < N 5)) {un : Int} (hun : 1 ≤ un ∧ un ≤ 30) {wo : Int} (hwo : (N 5 = 0 ∧ wo = -4) ∨ ((0 ≤ gd ∧ gd < N 5) ∧ wo = qWorth N gd un)) {H : Heap} {locs : List Loc} (hP : LwY K o N st H) (hS : va_S (fun q => s.heap.size ≤ q) s.heap H locs) {ls : Array Slot} (hl : lv_has ls 16 [(0, .ref b), (1, .ref o), (2, .int (iI 1)), (3, .int (iI t)), (4, .int (iI x)), (5, .int (iI v)), (6, .int (iI w)), (7, .int (iI lk)), (8, .int (iI gd)), (9, .int (iI un)), (10, .int (iI (N 0))), (11, .int (iI 0)), (12, .int (iI wo))]) (again : ∀ (z : Int) (N2 : Int → Int) (st2 : List (Int → Int)) (H1 : Heap) (locs1 : List Loc) (ls1 : Array Slot), -4 ≤ z ∧ z ≤ 2147483647 → LwY K o N2 st2 H1 → va_S (fun q => s.heap.size ≤ q) s.heap H1 locs1 → lv_has ls1 16 [(0, .ref b), (1, .ref o), (2, .int (iI 1)), (3, .int (iI t)), (11, .int (iI z))] → W p l e room_1 s m #[.ref b] below meth c H1 locs1 cells slots Q (F0 m 986 ls1 [])) : W p l e room_1 s m #[.ref b] below meth c H locs cells slots Q (F0 m 850 ls []) := by
  have hX := lwY_X hP
  have hR := inY_R (inY hX.1)
  obtain ⟨b0, b1, b2, b3, b4, b5, b6, b7, b8, b9⟩ := inY_b (inY hX.1)
  have hem := em_in hX
  refine lv_aload_n T.1 T.2.1 dL_law_850 rfl (lv_at hl 1 rfl) ?_
  refine xv_bipush T dL_law_851 (by omega) ?_
  refine ly_count T hK hP hS (fun q a => Nat.le_trans ho a.1) (by omega) (w := N 1) rfl mw_3_50 ⟨Nat.le_of_ble_eq_true rfl, Nat.le_of_ble_eq_true rfl⟩ hl.1 (Nat.le_of_ble_eq_true rfl) hcs dL_law_853 (fun H locs hP hS => ?_)
  refine lv_istore (lv' := [(13, .int (iI (N 1))), (0, .ref b), (1, .ref o), (2, .int (iI 1)), (3, .int (iI t)), (4, .int (iI x)), (5, .int (iI v)), (6, .int (iI w)), (7, .int (iI lk)), (8, .int (iI gd)), (9, .int (iI un)), (10, .int (iI (N 0))), (11, .int (iI 0)), (12, .int (iI wo))]) T.1 T.2.1 dL_law_856 hl (by decide) rfl (fun ls hl => ?_)
  refine lv_aload_n T.1 T.2.1 dL_law_858 rfl (lv_at hl 2 rfl) ?_
  refine xv_iconst T dL_law_859 ?_
  refine ly_cents T hK hP hS (fun q a => Nat.le_trans ho a.1) (by omega) (w := N 13) rfl mw_3_37 ⟨Nat.le_of_ble_eq_true rfl, Nat.le_of_ble_eq_true rfl⟩ hl.1 (Nat.le_of_ble_eq_true rfl) hcs dL_law_860 (fun H locs hP hS => ?_)
  refine lv_istore (lv' := [(14, .int (iI (N 13))), (13, .int (iI (N 1))), (0, .ref b), (1, .ref o), (2, .int (iI 1)), (3, .int (iI t)), (4, .int (iI x)), (5, .int (iI v)), (6, .int (iI w)), (7, .int (iI lk)), (8, .int (iI gd)), (9, .int (iI un)), (10, .int (iI (N 0))), (11, .int (iI 0)), (12, .int (iI wo))]) T.1 T.2.1 dL_law_863 hl (by decide) rfl (fun ls hl => ?_)
  refine lv_aload_n T.1 T.2.1 dL_law_865 rfl (lv_at hl 3 rfl) ?_
  refine xv_iconst T dL_law_866 ?_
  refine lv_iload T.1 T.2.1 dL_law_867 (lv_at hl 7 rfl) ?_
  refine xv_bipush T dL_law_869 (by omega) ?_
  refine xv_irem T (by omega) (by omega) dL_law_871 ?_
  refine xv_iadd T dL_law_872 ?_
  obtain ⟨z, N2, hz⟩ : ∃ (z : Int) (N2 : Int → Int), sPass N (1 + v % 20) = (z, N2) := ⟨_, _, rfl⟩
  have hq := pass_ok hX (1 + v % 20)
  rw [hz] at hq
  dsimp only at hq
  refine ly_pass T hK hP hS (fun q a => Nat.le_trans ho a.1) (by omega) (z := z) (N2 := N2) hz mw_2_232 ⟨Nat.le_of_ble_eq_true rfl, Nat.le_of_ble_eq_true rfl⟩ hl.1 (Nat.le_of_ble_eq_true rfl) hcs dL_law_873 (fun H locs hP hS => ?_)
  have hX2 := lwY_X hP
  obtain ⟨d0, d1, d2, d3, d4, d5, d6, d7, d8, d9⟩ := inY_b (inY hX2.1)
  have hem2 := em_in hX2
  refine lv_istore (lv' := [(11, .int (iI z)), (14, .int (iI (N 13))), (13, .int (iI (N 1))), (0, .ref b), (1, .ref o), (2, .int (iI 1)), (3, .int (iI t)), (4, .int (iI x)), (5, .int (iI v)), (6, .int (iI w)), (7, .int (iI lk)), (8, .int (iI gd)), (9, .int (iI un)), (10, .int (iI (N 0))), (12, .int (iI wo))]) T.1 T.2.1 dL_law_876 hl (by decide) rfl (fun ls hl => ?_)
  refine lv_iload T.1 T.2.1 dL_law_878 (lv_at hl 0 rfl) ?_
  refine xv_if_lt T (by omega) (tgt := 915) dL_law_880 (by decide) (fun c1 => ?_) (fun c1 => ?_)
  · skip
    refine xv_iconst T dL_law_915 ?_
    refine lv_goto T.1 T.2.1 (tgt := 920) dL_law_916 (by decide) ?_
    refine lv_istore_n (lv' := [(2, .int (iI 1)), (11, .int (iI z)), (14, .int (iI (N 13))), (13, .int (iI (N 1))), (0, .ref b), (1, .ref o), (3, .int (iI t)), (4, .int (iI x)), (5, .int (iI v)), (6, .int (iI w)), (7, .int (iI lk)), (8, .int (iI gd)), (9, .int (iI un)), (10, .int (iI (N 0))), (12, .int (iI wo))]) T.1 T.2.1 dL_law_920 rfl hl (by decide) rfl (fun ls hl => ?_)
    refine lv_goto T.1 T.2.1 (tgt := 986) dL_law_921 (by decide) ?_
    exact again z N2 (chS N st z) _ _ ls (by omega) hP hS (lv_sub hl [4, 5, 0, 6, 1] rfl)
  · skip
    have hq2 := hq.2 (by omega)
    refine lv_aload_n T.1 T.2.1 dL_law_883 rfl (lv_at hl 4 rfl) ?_
    refine xv_bipush T dL_law_884 (by omega) ?_
    refine ly_count T hK hP hS (fun q a => Nat.le_trans ho a.1) (by omega) (w := N 1 + (1 + v % 20)) hq2.1 mw_3_50 ⟨Nat.le_of_ble_eq_true rfl, Nat.le_of_ble_eq_true rfl⟩ hl.1 (Nat.le_of_ble_eq_true rfl) hcs dL_law_886 (fun H locs hP hS => ?_)
    refine lv_iload T.1 T.2.1 dL_law_889 (lv_at hl 2 rfl) ?_
    refine xv_iconst T dL_law_891 ?_
    refine xv_iadd T dL_law_892 ?_
    refine lv_iload T.1 T.2.1 dL_law_893 (lv_at hl 8 rfl) ?_
    refine xv_bipush T dL_law_895 (by omega) ?_
    refine xv_irem T (by omega) (by omega) dL_law_897 ?_
    refine xv_iadd T dL_law_898 ?_
    refine xv_icmp_ne T (by omega) (tgt := 919) dL_law_899 (by decide) (fun c2 => absurd c2 (by omega)) (fun _ => ?_)
    refine lv_aload_n T.1 T.2.1 dL_law_902 rfl (lv_at hl 4 rfl) ?_
    refine xv_iconst T dL_law_903 ?_
    refine ly_cents T hK hP hS (fun q a => Nat.le_trans ho a.1) (by omega) (w := N 13 + z) hq2.2 mw_3_37 ⟨Nat.le_of_ble_eq_true rfl, Nat.le_of_ble_eq_true rfl⟩ hl.1 (Nat.le_of_ble_eq_true rfl) hcs dL_law_904 (fun H locs hP hS => ?_)
    refine lv_iload T.1 T.2.1 dL_law_907 (lv_at hl 1 rfl) ?_
    refine lv_iload T.1 T.2.1 dL_law_909 (lv_at hl 0 rfl) ?_
    refine xv_iadd T dL_law_911 ?_
    refine xv_icmp_ne T (by omega) (tgt := 919) dL_law_912 (by decide) (fun c3 => absurd c3 (by omega)) (fun _ => ?_)
    refine xv_iconst T dL_law_915 ?_
    refine lv_goto T.1 T.2.1 (tgt := 920) dL_law_916 (by decide) ?_
    refine lv_istore_n (lv' := [(2, .int (iI 1)), (11, .int (iI z)), (14, .int (iI (N 13))), (13, .int (iI (N 1))), (0, .ref b), (1, .ref o), (3, .int (iI t)), (4, .int (iI x)), (5, .int (iI v)), (6, .int (iI w)), (7, .int (iI lk)), (8, .int (iI gd)), (9, .int (iI un)), (10, .int (iI (N 0))), (12, .int (iI wo))]) T.1 T.2.1 dL_law_920 rfl hl (by decide) rfl (fun ls hl => ?_)
    refine lv_goto T.1 T.2.1 (tgt := 986) dL_law_921 (by decide) ?_
    exact again z N2 (chS N st z) _ _ ls (by omega) hP hS (lv_sub hl [4, 5, 0, 6, 1] rfl)
set_option maxHeartbeats 4000000 in
set_option maxRecDepth 100000 in
theorem sw_924 (T : CF p m c cL_law 16 s #[.ref b] RL) (hK : xK K s) (hXs : va_X b n xs s s.heap) (hbl : b < s.heap.size) (ho : s.heap.size ≤ o) (hn : n ≤ 260) (hcs : cells ≤ room_1.cells ∧ slots ≤ room_1.slots) {t : Int} (ht : 0 ≤ t ∧ t < 30) {x v w : Int} (hx : -2147483648 ≤ x ∧ x ≤ 2147483647) (hv : 0 ≤ v ∧ v < 8192) (hw : 0 ≤ w ∧ w < 8192) {lk : Int} (hlk : (N 4 = 0 ∧ lk = 0) ∨ (0 ≤ lk ∧ lk < N 4)) {gd : Int} (hgd : (N 5 = 0 ∧ gd = 0) ∨ (0 ≤ gd ∧ gd < N 5)) {un : Int} (hun : 1 ≤ un ∧ un ≤ 30) {wo : Int} (hwo : (N 5 = 0 ∧ wo = -4) ∨ ((0 ≤ gd ∧ gd < N 5) ∧ wo = qWorth N gd un)) {H : Heap} {locs : List Loc} (hP : LwY K o N st H) (hS : va_S (fun q => s.heap.size ≤ q) s.heap H locs) {ls : Array Slot} (hl : lv_has ls 16 [(0, .ref b), (1, .ref o), (2, .int (iI 1)), (3, .int (iI t)), (4, .int (iI x)), (5, .int (iI v)), (6, .int (iI w)), (7, .int (iI lk)), (8, .int (iI gd)), (9, .int (iI un)), (10, .int (iI (N 0))), (11, .int (iI 0)), (12, .int (iI wo))]) (again : ∀ (z : Int) (N2 : Int → Int) (st2 : List (Int → Int)) (H1 : Heap) (locs1 : List Loc) (ls1 : Array Slot), -4 ≤ z ∧ z ≤ 2147483647 → LwY K o N2 st2 H1 → va_S (fun q => s.heap.size ≤ q) s.heap H1 locs1 → lv_has ls1 16 [(0, .ref b), (1, .ref o), (2, .int (iI 1)), (3, .int (iI t)), (11, .int (iI z))] → W p l e room_1 s m #[.ref b] below meth c H1 locs1 cells slots Q (F0 m 986 ls1 [])) : W p l e room_1 s m #[.ref b] below meth c H locs cells slots Q (F0 m 924 ls []) := by
  have hX := lwY_X hP
  have hR := inY_R (inY hX.1)
  obtain ⟨b0, b1, b2, b3, b4, b5, b6, b7, b8, b9⟩ := inY_b (inY hX.1)
  refine lv_aload_n T.1 T.2.1 dL_law_924 rfl (lv_at hl 1 rfl) ?_
  refine lv_iload T.1 T.2.1 dL_law_925 (lv_at hl 5 rfl) ?_
  refine xv_iconst T dL_law_927 ?_
  refine xv_irem T (by omega) (by omega) dL_law_928 ?_
  refine xv_iconst T dL_law_929 ?_
  refine lv_iload T.1 T.2.1 dL_law_930 (lv_at hl 6 rfl) ?_
  refine xv_bipush T dL_law_932 (by omega) ?_
  refine xv_irem T (by omega) (by omega) dL_law_934 ?_
  refine xv_iadd T dL_law_935 ?_
  obtain ⟨z, N2, hz⟩ : ∃ (z : Int) (N2 : Int → Int), sSet N (v % 2) (1 + w % 40) = (z, N2) := ⟨_, _, rfl⟩
  have hq := set_ok hX (v % 2) (1 + w % 40)
  rw [hz] at hq
  dsimp only at hq
  refine ly_set T hK hP hS (fun q a => Nat.le_trans ho a.1) (by omega) (by omega) (z := z) (N2 := N2) hz mw_3_15 ⟨Nat.le_of_ble_eq_true rfl, Nat.le_of_ble_eq_true rfl⟩ hl.1 (Nat.le_of_ble_eq_true rfl) hcs dL_law_936 (fun H locs hP hS => ?_)
  have hX2 := lwY_X hP
  obtain ⟨d0, d1, d2, d3, d4, d5, d6, d7, d8, d9⟩ := inY_b (inY hX2.1)
  have hem2 := em_in hX2
  refine lv_istore (lv' := [(11, .int (iI z)), (0, .ref b), (1, .ref o), (2, .int (iI 1)), (3, .int (iI t)), (4, .int (iI x)), (5, .int (iI v)), (6, .int (iI w)), (7, .int (iI lk)), (8, .int (iI gd)), (9, .int (iI un)), (10, .int (iI (N 0))), (12, .int (iI wo))]) T.1 T.2.1 dL_law_939 hl (by decide) rfl (fun ls hl => ?_)
  refine lv_goto T.1 T.2.1 (tgt := 986) dL_law_941 (by decide) ?_
  exact again z N2 (chS N st z) _ _ ls (by omega) hP hS (lv_sub hl [1, 2, 3, 4, 0] rfl)
set_option maxHeartbeats 4000000 in
set_option maxRecDepth 100000 in
theorem sw_944 (T : CF p m c cL_law 16 s #[.ref b] RL) (hK : xK K s) (hXs : va_X b n xs s s.heap) (hbl : b < s.heap.size) (ho : s.heap.size ≤ o) (hn : n ≤ 260) (hcs : cells ≤ room_1.cells ∧ slots ≤ room_1.slots) {t : Int} (ht : 0 ≤ t ∧ t < 30) {x v w : Int} (hx : -2147483648 ≤ x ∧ x ≤ 2147483647) (hv : 0 ≤ v ∧ v < 8192) (hw : 0 ≤ w ∧ w < 8192) {lk : Int} (hlk : (N 4 = 0 ∧ lk = 0) ∨ (0 ≤ lk ∧ lk < N 4)) {gd : Int} (hgd : (N 5 = 0 ∧ gd = 0) ∨ (0 ≤ gd ∧ gd < N 5)) {un : Int} (hun : 1 ≤ un ∧ un ≤ 30) {wo : Int} (hwo : (N 5 = 0 ∧ wo = -4) ∨ ((0 ≤ gd ∧ gd < N 5) ∧ wo = qWorth N gd un)) {H : Heap} {locs : List Loc} (hP : LwY K o N st H) (hS : va_S (fun q => s.heap.size ≤ q) s.heap H locs) {ls : Array Slot} (hl : lv_has ls 16 [(0, .ref b), (1, .ref o), (2, .int (iI 1)), (3, .int (iI t)), (4, .int (iI x)), (5, .int (iI v)), (6, .int (iI w)), (7, .int (iI lk)), (8, .int (iI gd)), (9, .int (iI un)), (10, .int (iI (N 0))), (11, .int (iI 0)), (12, .int (iI wo))]) (again : ∀ (z : Int) (N2 : Int → Int) (st2 : List (Int → Int)) (H1 : Heap) (locs1 : List Loc) (ls1 : Array Slot), -4 ≤ z ∧ z ≤ 2147483647 → LwY K o N2 st2 H1 → va_S (fun q => s.heap.size ≤ q) s.heap H1 locs1 → lv_has ls1 16 [(0, .ref b), (1, .ref o), (2, .int (iI 1)), (3, .int (iI t)), (11, .int (iI z))] → W p l e room_1 s m #[.ref b] below meth c H1 locs1 cells slots Q (F0 m 986 ls1 [])) : W p l e room_1 s m #[.ref b] below meth c H locs cells slots Q (F0 m 944 ls []) := by
  have hX := lwY_X hP
  have hR := inY_R (inY hX.1)
  obtain ⟨b0, b1, b2, b3, b4, b5, b6, b7, b8, b9⟩ := inY_b (inY hX.1)
  have hst := lwY_st hP
  obtain ⟨hst0⟩ | ⟨S0, st2, hst0⟩ : (st = []) ∨ ∃ (S0 : Int → Int) (st2 : List (Int → Int)), st = S0 :: st2 := by
    cases st with
    | nil => exact Or.inl rfl
    | cons S0 st2 => exact Or.inr ⟨S0, st2, rfl⟩
  · skip
    have hlen : (st.length : Int) = 0 := by rw [hst0]; rfl
    refine lv_aload_n T.1 T.2.1 dL_law_944 rfl (lv_at hl 1 rfl) ?_
    refine xv_bipush T dL_law_945 (by omega) ?_
    refine ly_count T hK hP hS (fun q a => Nat.le_trans ho a.1) (by omega) (w := (st.length : Int)) rfl mw_3_50 ⟨Nat.le_of_ble_eq_true rfl, Nat.le_of_ble_eq_true rfl⟩ hl.1 (Nat.le_of_ble_eq_true rfl) hcs dL_law_947 (fun H locs hP hS => ?_)
    refine lv_istore (lv' := [(13, .int (iI (st.length : Int))), (0, .ref b), (1, .ref o), (2, .int (iI 1)), (3, .int (iI t)), (4, .int (iI x)), (5, .int (iI v)), (6, .int (iI w)), (7, .int (iI lk)), (8, .int (iI gd)), (9, .int (iI un)), (10, .int (iI (N 0))), (11, .int (iI 0)), (12, .int (iI wo))]) T.1 T.2.1 dL_law_950 hl (by decide) rfl (fun ls hl => ?_)
    refine lv_aload_n T.1 T.2.1 dL_law_952 rfl (lv_at hl 2 rfl) ?_
    refine ly_undo0 T hK hP hS (fun q a => Nat.le_trans ho a.1) hst0 mw_3_59 ⟨Nat.le_of_ble_eq_true rfl, Nat.le_of_ble_eq_true rfl⟩ hl.1 (Nat.le_of_ble_eq_true rfl) hcs dL_law_953 (fun H locs hP hS => ?_)
    refine lv_istore (lv' := [(11, .int (iI (-2))), (13, .int (iI (st.length : Int))), (0, .ref b), (1, .ref o), (2, .int (iI 1)), (3, .int (iI t)), (4, .int (iI x)), (5, .int (iI v)), (6, .int (iI w)), (7, .int (iI lk)), (8, .int (iI gd)), (9, .int (iI un)), (10, .int (iI (N 0))), (12, .int (iI wo))]) T.1 T.2.1 dL_law_956 hl (by decide) rfl (fun ls hl => ?_)
    refine lv_iload T.1 T.2.1 dL_law_958 (lv_at hl 0 rfl) ?_
    refine lv_iload T.1 T.2.1 dL_law_960 (lv_at hl 1 rfl) ?_
    refine xv_if_ne T (by omega) (tgt := 970) dL_law_962 (by decide) (fun c1 => absurd c1 (by omega)) (fun _ => ?_)
    refine xv_bipush T dL_law_965 (by omega) ?_
    refine lv_goto T.1 T.2.1 (tgt := 974) dL_law_967 (by decide) ?_
    refine xv_icmp_ne T (by omega) (tgt := 981) dL_law_974 (by decide) (fun c2 => absurd c2 (by omega)) (fun _ => ?_)
    refine xv_iconst T dL_law_977 ?_
    refine lv_goto T.1 T.2.1 (tgt := 982) dL_law_978 (by decide) ?_
    refine lv_istore_n (lv' := [(2, .int (iI 1)), (11, .int (iI (-2))), (13, .int (iI (st.length : Int))), (0, .ref b), (1, .ref o), (3, .int (iI t)), (4, .int (iI x)), (5, .int (iI v)), (6, .int (iI w)), (7, .int (iI lk)), (8, .int (iI gd)), (9, .int (iI un)), (10, .int (iI (N 0))), (12, .int (iI wo))]) T.1 T.2.1 dL_law_982 rfl hl (by decide) rfl (fun ls hl => ?_)
    refine lv_goto T.1 T.2.1 (tgt := 986) dL_law_983 (by decide) ?_
    exact again (-2) N st _ _ ls (by omega) hP hS (lv_sub hl [3, 4, 0, 5, 1] rfl)
  · skip
    have hlen : (st.length : Int) = (st2.length : Int) + 1 := by rw [hst0]; rfl
    refine lv_aload_n T.1 T.2.1 dL_law_944 rfl (lv_at hl 1 rfl) ?_
    refine xv_bipush T dL_law_945 (by omega) ?_
    refine ly_count T hK hP hS (fun q a => Nat.le_trans ho a.1) (by omega) (w := (st.length : Int)) rfl mw_3_50 ⟨Nat.le_of_ble_eq_true rfl, Nat.le_of_ble_eq_true rfl⟩ hl.1 (Nat.le_of_ble_eq_true rfl) hcs dL_law_947 (fun H locs hP hS => ?_)
    refine lv_istore (lv' := [(13, .int (iI (st.length : Int))), (0, .ref b), (1, .ref o), (2, .int (iI 1)), (3, .int (iI t)), (4, .int (iI x)), (5, .int (iI v)), (6, .int (iI w)), (7, .int (iI lk)), (8, .int (iI gd)), (9, .int (iI un)), (10, .int (iI (N 0))), (11, .int (iI 0)), (12, .int (iI wo))]) T.1 T.2.1 dL_law_950 hl (by decide) rfl (fun ls hl => ?_)
    refine lv_aload_n T.1 T.2.1 dL_law_952 rfl (lv_at hl 2 rfl) ?_
    refine ly_undo1 T hK hP hS (fun q a => Nat.le_trans ho a.1) (S := S0) (st2 := st2) hst0 mw_3_59 ⟨Nat.le_of_ble_eq_true rfl, Nat.le_of_ble_eq_true rfl⟩ hl.1 (Nat.le_of_ble_eq_true rfl) hcs dL_law_953 (fun H locs hP hS => ?_)
    refine lv_istore (lv' := [(11, .int (iI (st2.length : Int))), (13, .int (iI (st.length : Int))), (0, .ref b), (1, .ref o), (2, .int (iI 1)), (3, .int (iI t)), (4, .int (iI x)), (5, .int (iI v)), (6, .int (iI w)), (7, .int (iI lk)), (8, .int (iI gd)), (9, .int (iI un)), (10, .int (iI (N 0))), (12, .int (iI wo))]) T.1 T.2.1 dL_law_956 hl (by decide) rfl (fun ls hl => ?_)
    refine lv_iload T.1 T.2.1 dL_law_958 (lv_at hl 0 rfl) ?_
    refine lv_iload T.1 T.2.1 dL_law_960 (lv_at hl 1 rfl) ?_
    refine xv_if_ne T (by omega) (tgt := 970) dL_law_962 (by decide) (fun _ => ?_) (fun c3 => absurd c3 (by omega))
    refine lv_iload T.1 T.2.1 dL_law_970 (lv_at hl 1 rfl) ?_
    refine xv_iconst T dL_law_972 ?_
    refine xv_isub T dL_law_973 ?_
    refine xv_icmp_ne T (by omega) (tgt := 981) dL_law_974 (by decide) (fun c4 => absurd c4 (by omega)) (fun _ => ?_)
    refine xv_iconst T dL_law_977 ?_
    refine lv_goto T.1 T.2.1 (tgt := 982) dL_law_978 (by decide) ?_
    refine lv_istore_n (lv' := [(2, .int (iI 1)), (11, .int (iI (st2.length : Int))), (13, .int (iI (st.length : Int))), (0, .ref b), (1, .ref o), (3, .int (iI t)), (4, .int (iI x)), (5, .int (iI v)), (6, .int (iI w)), (7, .int (iI lk)), (8, .int (iI gd)), (9, .int (iI un)), (10, .int (iI (N 0))), (12, .int (iI wo))]) T.1 T.2.1 dL_law_982 rfl hl (by decide) rfl (fun ls hl => ?_)
    refine lv_goto T.1 T.2.1 (tgt := 986) dL_law_983 (by decide) ?_
    exact again (st2.length : Int) S0 st2 _ _ ls (by omega) hP hS (lv_sub hl [3, 4, 0, 5, 1] rfl)
end XSW
