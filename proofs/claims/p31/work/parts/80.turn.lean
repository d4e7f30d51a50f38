section XSW
variable {p : Program} {l : Launch} {e : Env} {s : State} {m : MethodId} {below : List Frame} {meth : Method} {c : Code} {cells slots : Nat} {Q : State → Prop} {b n o : Nat} {xs : Nat → Int32} {K : KT} {N : Int → Int} {st : List (Int → Int)}
set_option maxHeartbeats 4000000 in
set_option maxRecDepth 100000 in
theorem sw_223 (T : CF p m c cL_law 16 s #[.ref b] RL) (hK : xK K s) (hXs : va_X b n xs s s.heap) (hbl : b < s.heap.size) (ho : s.heap.size ≤ o) (hn : n ≤ 260) (hcs : cells ≤ room_1.cells ∧ slots ≤ room_1.slots) {t : Int} (ht : 0 ≤ t ∧ t < 30) {x v w : Int} (hx : -2147483648 ≤ x ∧ x ≤ 2147483647) (hv : 0 ≤ v ∧ v < 8192) (hw : 0 ≤ w ∧ w < 8192) {lk : Int} (hlk : (N 4 = 0 ∧ lk = 0) ∨ (0 ≤ lk ∧ lk < N 4)) {gd : Int} (hgd : (N 5 = 0 ∧ gd = 0) ∨ (0 ≤ gd ∧ gd < N 5)) {un : Int} (hun : 1 ≤ un ∧ un ≤ 30) {wo : Int} (hwo : (N 5 = 0 ∧ wo = -4) ∨ ((0 ≤ gd ∧ gd < N 5) ∧ wo = qWorth N gd un)) {H : Heap} {locs : List Loc} (hP : LwY K o N st H) (hS : va_S (fun q => s.heap.size ≤ q) s.heap H locs) {ls : Array Slot} (hl : lv_has ls 16 [(0, .ref b), (1, .ref o), (2, .int (iI 1)), (3, .int (iI t)), (4, .int (iI x)), (5, .int (iI v)), (6, .int (iI w)), (7, .int (iI lk)), (8, .int (iI gd)), (9, .int (iI un)), (10, .int (iI (N 0))), (11, .int (iI 0)), (12, .int (iI wo))]) (again : ∀ (z : Int) (N2 : Int → Int) (st2 : List (Int → Int)) (H1 : Heap) (locs1 : List Loc) (ls1 : Array Slot), -4 ≤ z ∧ z ≤ 2147483647 → LwY K o N2 st2 H1 → va_S (fun q => s.heap.size ≤ q) s.heap H1 locs1 → lv_has ls1 16 [(0, .ref b), (1, .ref o), (2, .int (iI 1)), (3, .int (iI t)), (11, .int (iI z))] → W p l e room_1 s m #[.ref b] below meth c H1 locs1 cells slots Q (F0 m 986 ls1 [])) : W p l e room_1 s m #[.ref b] below meth c H locs cells slots Q (F0 m 223 ls []) := by
  have hX := lwY_X hP
  have hR := inY_R (inY hX.1)
  obtain ⟨b0, b1, b2, b3, b4, b5, b6, b7, b8, b9⟩ := inY_b (inY hX.1)
  refine lv_iload_n T.1 T.2.1 dL_law_223 rfl (lv_at hl 3 rfl) ?_
  refine xv_iconst T dL_law_224 ?_
  refine xv_icmp_ge T (by omega) (tgt := 232) dL_law_225 (by decide) (fun c1 => ?_) (fun c1 => ?_)
  · skip
    refine lv_iload T.1 T.2.1 dL_law_232 (lv_at hl 4 rfl) ?_
    refine xv_bipush T dL_law_234 (by omega) ?_
    refine ly_low T hK hP hS (by omega) mw_3_134 rfl ⟨Nat.le_of_ble_eq_true rfl, Nat.le_of_ble_eq_true rfl⟩ hl.1 (Nat.le_of_ble_eq_true rfl) hcs dL_law_236 (fun sel H locs hsel hP hS => ?_)
    by_cases c2l : sel < 0
    · skip
      refine xv_tableOut T (tgt := 944) (by omega) dL_law_239 (by omega) (by decide) ?_
      exact sw_944 T hK hXs hbl ho hn hcs (t := t) (x := x) (v := v) (w := w) (lk := lk) (gd := gd) (un := un) (wo := wo) ht hx hv hw hlk hgd hun hwo hP hS (lv_sub hl [0, 1, 2, 3, 4, 5, 6, 7, 8, 9, 10, 11, 12] rfl) again
    by_cases c2h : 18 < sel
    · skip
      refine xv_tableOut T (tgt := 944) (by omega) dL_law_239 (by omega) (by decide) ?_
      exact sw_944 T hK hXs hbl ho hn hcs (t := t) (x := x) (v := v) (w := w) (lk := lk) (gd := gd) (un := un) (wo := wo) ht hx hv hw hlk hgd hun hwo hP hS (lv_sub hl [0, 1, 2, 3, 4, 5, 6, 7, 8, 9, 10, 11, 12] rfl) again
    have c2_0 : 0 ≤ sel := by omega
    by_cases c2 : sel = 0
    · skip
      refine xv_tableIn T (off := 89) (tgt := 328) 0 c2 (by omega) dL_law_239 (by omega) (by omega) (by decide) (by decide) ?_
      exact sw_328 T hK hXs hbl ho hn hcs (t := t) (x := x) (v := v) (w := w) (lk := lk) (gd := gd) (un := un) (wo := wo) ht hx hv hw hlk hgd hun hwo hP hS (lv_sub hl [0, 1, 2, 3, 4, 5, 6, 7, 8, 9, 10, 11, 12] rfl) again
    have c2_1 : 1 ≤ sel := by omega
    clear c2 c2_0
    by_cases c2 : sel = 1
    · skip
      refine xv_tableIn T (off := 98) (tgt := 337) 1 c2 (by omega) dL_law_239 (by omega) (by omega) (by decide) (by decide) ?_
      exact sw_337 T hK hXs hbl ho hn hcs (t := t) (x := x) (v := v) (w := w) (lk := lk) (gd := gd) (un := un) (wo := wo) ht hx hv hw hlk hgd hun hwo hP hS (lv_sub hl [0, 1, 2, 3, 4, 5, 6, 7, 8, 9, 10, 11, 12] rfl) again
    have c2_2 : 2 ≤ sel := by omega
    clear c2 c2_1
    by_cases c2 : sel = 2
    · skip
      refine xv_tableIn T (off := 115) (tgt := 354) 2 c2 (by omega) dL_law_239 (by omega) (by omega) (by decide) (by decide) ?_
      exact sw_354 T hK hXs hbl ho hn hcs (t := t) (x := x) (v := v) (w := w) (lk := lk) (gd := gd) (un := un) (wo := wo) ht hx hv hw hlk hgd hun hwo hP hS (lv_sub hl [0, 1, 2, 3, 4, 5, 6, 7, 8, 9, 10, 11, 12] rfl) again
    have c2_3 : 3 ≤ sel := by omega
    clear c2 c2_2
    by_cases c2 : sel = 3
    · skip
      refine xv_tableIn T (off := 115) (tgt := 354) 3 c2 (by omega) dL_law_239 (by omega) (by omega) (by decide) (by decide) ?_
      exact sw_354 T hK hXs hbl ho hn hcs (t := t) (x := x) (v := v) (w := w) (lk := lk) (gd := gd) (un := un) (wo := wo) ht hx hv hw hlk hgd hun hwo hP hS (lv_sub hl [0, 1, 2, 3, 4, 5, 6, 7, 8, 9, 10, 11, 12] rfl) again
    have c2_4 : 4 ≤ sel := by omega
    clear c2 c2_3
    by_cases c2 : sel = 4
    · skip
      refine xv_tableIn T (off := 115) (tgt := 354) 4 c2 (by omega) dL_law_239 (by omega) (by omega) (by decide) (by decide) ?_
      exact sw_354 T hK hXs hbl ho hn hcs (t := t) (x := x) (v := v) (w := w) (lk := lk) (gd := gd) (un := un) (wo := wo) ht hx hv hw hlk hgd hun hwo hP hS (lv_sub hl [0, 1, 2, 3, 4, 5, 6, 7, 8, 9, 10, 11, 12] rfl) again
    have c2_5 : 5 ≤ sel := by omega
    clear c2 c2_4
    by_cases c2 : sel = 5
    · skip
      refine xv_tableIn T (off := 115) (tgt := 354) 5 c2 (by omega) dL_law_239 (by omega) (by omega) (by decide) (by decide) ?_
      exact sw_354 T hK hXs hbl ho hn hcs (t := t) (x := x) (v := v) (w := w) (lk := lk) (gd := gd) (un := un) (wo := wo) ht hx hv hw hlk hgd hun hwo hP hS (lv_sub hl [0, 1, 2, 3, 4, 5, 6, 7, 8, 9, 10, 11, 12] rfl) again
    have c2_6 : 6 ≤ sel := by omega
    clear c2 c2_5
    by_cases c2 : sel = 6
    · skip
      refine xv_tableIn T (off := 176) (tgt := 415) 6 c2 (by omega) dL_law_239 (by omega) (by omega) (by decide) (by decide) ?_
      exact sw_415 T hK hXs hbl ho hn hcs (t := t) (x := x) (v := v) (w := w) (lk := lk) (gd := gd) (un := un) (wo := wo) ht hx hv hw hlk hgd hun hwo hP hS (lv_sub hl [0, 1, 2, 3, 4, 5, 6, 7, 8, 9, 10, 11, 12] rfl) again
    have c2_7 : 7 ≤ sel := by omega
    clear c2 c2_6
    by_cases c2 : sel = 7
    · skip
      refine xv_tableIn T (off := 176) (tgt := 415) 7 c2 (by omega) dL_law_239 (by omega) (by omega) (by decide) (by decide) ?_
      exact sw_415 T hK hXs hbl ho hn hcs (t := t) (x := x) (v := v) (w := w) (lk := lk) (gd := gd) (un := un) (wo := wo) ht hx hv hw hlk hgd hun hwo hP hS (lv_sub hl [0, 1, 2, 3, 4, 5, 6, 7, 8, 9, 10, 11, 12] rfl) again
    have c2_8 : 8 ≤ sel := by omega
    clear c2 c2_7
    by_cases c2 : sel = 8
    · skip
      refine xv_tableIn T (off := 176) (tgt := 415) 8 c2 (by omega) dL_law_239 (by omega) (by omega) (by decide) (by decide) ?_
      exact sw_415 T hK hXs hbl ho hn hcs (t := t) (x := x) (v := v) (w := w) (lk := lk) (gd := gd) (un := un) (wo := wo) ht hx hv hw hlk hgd hun hwo hP hS (lv_sub hl [0, 1, 2, 3, 4, 5, 6, 7, 8, 9, 10, 11, 12] rfl) again
    have c2_9 : 9 ≤ sel := by omega
    clear c2 c2_8
    by_cases c2 : sel = 9
    · skip
      refine xv_tableIn T (off := 214) (tgt := 453) 9 c2 (by omega) dL_law_239 (by omega) (by omega) (by decide) (by decide) ?_
      exact sw_453 T hK hXs hbl ho hn hcs (t := t) (x := x) (v := v) (w := w) (lk := lk) (gd := gd) (un := un) (wo := wo) ht hx hv hw hlk hgd hun hwo hP hS (lv_sub hl [0, 1, 2, 3, 4, 5, 6, 7, 8, 9, 10, 11, 12] rfl) again
    have c2_10 : 10 ≤ sel := by omega
    clear c2 c2_9
    by_cases c2 : sel = 10
    · skip
      refine xv_tableIn T (off := 253) (tgt := 492) 10 c2 (by omega) dL_law_239 (by omega) (by omega) (by decide) (by decide) ?_
      exact sw_492 T hK hXs hbl ho hn hcs (t := t) (x := x) (v := v) (w := w) (lk := lk) (gd := gd) (un := un) (wo := wo) ht hx hv hw hlk hgd hun hwo hP hS (lv_sub hl [0, 1, 2, 3, 4, 5, 6, 7, 8, 9, 10, 11, 12] rfl) again
    have c2_11 : 11 ≤ sel := by omega
    clear c2 c2_10
    by_cases c2 : sel = 11
    · skip
      refine xv_tableIn T (off := 253) (tgt := 492) 11 c2 (by omega) dL_law_239 (by omega) (by omega) (by decide) (by decide) ?_
      exact sw_492 T hK hXs hbl ho hn hcs (t := t) (x := x) (v := v) (w := w) (lk := lk) (gd := gd) (un := un) (wo := wo) ht hx hv hw hlk hgd hun hwo hP hS (lv_sub hl [0, 1, 2, 3, 4, 5, 6, 7, 8, 9, 10, 11, 12] rfl) again
    have c2_12 : 12 ≤ sel := by omega
    clear c2 c2_11
    by_cases c2 : sel = 12
    · skip
      refine xv_tableIn T (off := 355) (tgt := 594) 12 c2 (by omega) dL_law_239 (by omega) (by omega) (by decide) (by decide) ?_
      exact sw_594 T hK hXs hbl ho hn hcs (t := t) (x := x) (v := v) (w := w) (lk := lk) (gd := gd) (un := un) (wo := wo) ht hx hv hw hlk hgd hun hwo hP hS (lv_sub hl [0, 1, 2, 3, 4, 5, 6, 7, 8, 9, 10, 11, 12] rfl) again
    have c2_13 : 13 ≤ sel := by omega
    clear c2 c2_12
    by_cases c2 : sel = 13
    · skip
      refine xv_tableIn T (off := 430) (tgt := 669) 13 c2 (by omega) dL_law_239 (by omega) (by omega) (by decide) (by decide) ?_
      exact sw_669 T hK hXs hbl ho hn hcs (t := t) (x := x) (v := v) (w := w) (lk := lk) (gd := gd) (un := un) (wo := wo) ht hx hv hw hlk hgd hun hwo hP hS (lv_sub hl [0, 1, 2, 3, 4, 5, 6, 7, 8, 9, 10, 11, 12] rfl) again
    have c2_14 : 14 ≤ sel := by omega
    clear c2 c2_13
    by_cases c2 : sel = 14
    · skip
      refine xv_tableIn T (off := 518) (tgt := 757) 14 c2 (by omega) dL_law_239 (by omega) (by omega) (by decide) (by decide) ?_
      exact sw_757 T hK hXs hbl ho hn hcs (t := t) (x := x) (v := v) (w := w) (lk := lk) (gd := gd) (un := un) (wo := wo) ht hx hv hw hlk hgd hun hwo hP hS (lv_sub hl [0, 1, 2, 3, 4, 5, 6, 7, 8, 9, 10, 11, 12] rfl) again
    have c2_15 : 15 ≤ sel := by omega
    clear c2 c2_14
    by_cases c2 : sel = 15
    · skip
      refine xv_tableIn T (off := 518) (tgt := 757) 15 c2 (by omega) dL_law_239 (by omega) (by omega) (by decide) (by decide) ?_
      exact sw_757 T hK hXs hbl ho hn hcs (t := t) (x := x) (v := v) (w := w) (lk := lk) (gd := gd) (un := un) (wo := wo) ht hx hv hw hlk hgd hun hwo hP hS (lv_sub hl [0, 1, 2, 3, 4, 5, 6, 7, 8, 9, 10, 11, 12] rfl) again
    have c2_16 : 16 ≤ sel := by omega
    clear c2 c2_15
    by_cases c2 : sel = 16
    · skip
      refine xv_tableIn T (off := 518) (tgt := 757) 16 c2 (by omega) dL_law_239 (by omega) (by omega) (by decide) (by decide) ?_
      exact sw_757 T hK hXs hbl ho hn hcs (t := t) (x := x) (v := v) (w := w) (lk := lk) (gd := gd) (un := un) (wo := wo) ht hx hv hw hlk hgd hun hwo hP hS (lv_sub hl [0, 1, 2, 3, 4, 5, 6, 7, 8, 9, 10, 11, 12] rfl) again
    have c2_17 : 17 ≤ sel := by omega
    clear c2 c2_16
    by_cases c2 : sel = 17
    · skip
      refine xv_tableIn T (off := 611) (tgt := 850) 17 c2 (by omega) dL_law_239 (by omega) (by omega) (by decide) (by decide) ?_
      exact sw_850 T hK hXs hbl ho hn hcs (t := t) (x := x) (v := v) (w := w) (lk := lk) (gd := gd) (un := un) (wo := wo) ht hx hv hw hlk hgd hun hwo hP hS (lv_sub hl [0, 1, 2, 3, 4, 5, 6, 7, 8, 9, 10, 11, 12] rfl) again
    have c2_18 : 18 ≤ sel := by omega
    clear c2 c2_17
    have c2 : sel = 18 := by omega
    refine xv_tableIn T (off := 685) (tgt := 924) 18 c2 (by omega) dL_law_239 (by omega) (by omega) (by decide) (by decide) ?_
    exact sw_924 T hK hXs hbl ho hn hcs (t := t) (x := x) (v := v) (w := w) (lk := lk) (gd := gd) (un := un) (wo := wo) ht hx hv hw hlk hgd hun hwo hP hS (lv_sub hl [0, 1, 2, 3, 4, 5, 6, 7, 8, 9, 10, 11, 12] rfl) again
  · skip
    refine lv_iload_n T.1 T.2.1 dL_law_228 rfl (lv_at hl 3 rfl) ?_
    refine lv_goto T.1 T.2.1 (tgt := 239) dL_law_229 (by decide) ?_
    by_cases c3l : t < 0
    · skip
      refine xv_tableOut T (tgt := 944) (by omega) dL_law_239 (by omega) (by decide) ?_
      exact sw_944 T hK hXs hbl ho hn hcs (t := t) (x := x) (v := v) (w := w) (lk := lk) (gd := gd) (un := un) (wo := wo) ht hx hv hw hlk hgd hun hwo hP hS (lv_sub hl [0, 1, 2, 3, 4, 5, 6, 7, 8, 9, 10, 11, 12] rfl) again
    by_cases c3h : 18 < t
    · skip
      refine xv_tableOut T (tgt := 944) (by omega) dL_law_239 (by omega) (by decide) ?_
      exact sw_944 T hK hXs hbl ho hn hcs (t := t) (x := x) (v := v) (w := w) (lk := lk) (gd := gd) (un := un) (wo := wo) ht hx hv hw hlk hgd hun hwo hP hS (lv_sub hl [0, 1, 2, 3, 4, 5, 6, 7, 8, 9, 10, 11, 12] rfl) again
    have c3_0 : 0 ≤ t := by omega
    by_cases c3 : t = 0
    · skip
      refine xv_tableIn T (off := 89) (tgt := 328) 0 c3 (by omega) dL_law_239 (by omega) (by omega) (by decide) (by decide) ?_
      exact sw_328 T hK hXs hbl ho hn hcs (t := t) (x := x) (v := v) (w := w) (lk := lk) (gd := gd) (un := un) (wo := wo) ht hx hv hw hlk hgd hun hwo hP hS (lv_sub hl [0, 1, 2, 3, 4, 5, 6, 7, 8, 9, 10, 11, 12] rfl) again
    have c3_1 : 1 ≤ t := by omega
    clear c3 c3_0
    by_cases c3 : t = 1
    · skip
      refine xv_tableIn T (off := 98) (tgt := 337) 1 c3 (by omega) dL_law_239 (by omega) (by omega) (by decide) (by decide) ?_
      exact sw_337 T hK hXs hbl ho hn hcs (t := t) (x := x) (v := v) (w := w) (lk := lk) (gd := gd) (un := un) (wo := wo) ht hx hv hw hlk hgd hun hwo hP hS (lv_sub hl [0, 1, 2, 3, 4, 5, 6, 7, 8, 9, 10, 11, 12] rfl) again
    have c3_2 : 2 ≤ t := by omega
    clear c3 c3_1
    by_cases c3 : t = 2
    · skip
      refine xv_tableIn T (off := 115) (tgt := 354) 2 c3 (by omega) dL_law_239 (by omega) (by omega) (by decide) (by decide) ?_
      exact sw_354 T hK hXs hbl ho hn hcs (t := t) (x := x) (v := v) (w := w) (lk := lk) (gd := gd) (un := un) (wo := wo) ht hx hv hw hlk hgd hun hwo hP hS (lv_sub hl [0, 1, 2, 3, 4, 5, 6, 7, 8, 9, 10, 11, 12] rfl) again
    have c3_3 : 3 ≤ t := by omega
    clear c3 c3_2
    by_cases c3 : t = 3
    · skip
      refine xv_tableIn T (off := 115) (tgt := 354) 3 c3 (by omega) dL_law_239 (by omega) (by omega) (by decide) (by decide) ?_
      exact sw_354 T hK hXs hbl ho hn hcs (t := t) (x := x) (v := v) (w := w) (lk := lk) (gd := gd) (un := un) (wo := wo) ht hx hv hw hlk hgd hun hwo hP hS (lv_sub hl [0, 1, 2, 3, 4, 5, 6, 7, 8, 9, 10, 11, 12] rfl) again
    have c3_4 : 4 ≤ t := by omega
    clear c3 c3_3
    by_cases c3 : t = 4
    · skip
      refine xv_tableIn T (off := 115) (tgt := 354) 4 c3 (by omega) dL_law_239 (by omega) (by omega) (by decide) (by decide) ?_
      exact sw_354 T hK hXs hbl ho hn hcs (t := t) (x := x) (v := v) (w := w) (lk := lk) (gd := gd) (un := un) (wo := wo) ht hx hv hw hlk hgd hun hwo hP hS (lv_sub hl [0, 1, 2, 3, 4, 5, 6, 7, 8, 9, 10, 11, 12] rfl) again
    have c3_5 : 5 ≤ t := by omega
    clear c3 c3_4
    by_cases c3 : t = 5
    · skip
      refine xv_tableIn T (off := 115) (tgt := 354) 5 c3 (by omega) dL_law_239 (by omega) (by omega) (by decide) (by decide) ?_
      exact sw_354 T hK hXs hbl ho hn hcs (t := t) (x := x) (v := v) (w := w) (lk := lk) (gd := gd) (un := un) (wo := wo) ht hx hv hw hlk hgd hun hwo hP hS (lv_sub hl [0, 1, 2, 3, 4, 5, 6, 7, 8, 9, 10, 11, 12] rfl) again
    have c3_6 : 6 ≤ t := by omega
    clear c3 c3_5
    by_cases c3 : t = 6
    · skip
      refine xv_tableIn T (off := 176) (tgt := 415) 6 c3 (by omega) dL_law_239 (by omega) (by omega) (by decide) (by decide) ?_
      exact sw_415 T hK hXs hbl ho hn hcs (t := t) (x := x) (v := v) (w := w) (lk := lk) (gd := gd) (un := un) (wo := wo) ht hx hv hw hlk hgd hun hwo hP hS (lv_sub hl [0, 1, 2, 3, 4, 5, 6, 7, 8, 9, 10, 11, 12] rfl) again
    have c3_7 : 7 ≤ t := by omega
    clear c3 c3_6
    by_cases c3 : t = 7
    · skip
      refine xv_tableIn T (off := 176) (tgt := 415) 7 c3 (by omega) dL_law_239 (by omega) (by omega) (by decide) (by decide) ?_
      exact sw_415 T hK hXs hbl ho hn hcs (t := t) (x := x) (v := v) (w := w) (lk := lk) (gd := gd) (un := un) (wo := wo) ht hx hv hw hlk hgd hun hwo hP hS (lv_sub hl [0, 1, 2, 3, 4, 5, 6, 7, 8, 9, 10, 11, 12] rfl) again
    have c3_8 : 8 ≤ t := by omega
    clear c3 c3_7
    by_cases c3 : t = 8
    · skip
      refine xv_tableIn T (off := 176) (tgt := 415) 8 c3 (by omega) dL_law_239 (by omega) (by omega) (by decide) (by decide) ?_
      exact sw_415 T hK hXs hbl ho hn hcs (t := t) (x := x) (v := v) (w := w) (lk := lk) (gd := gd) (un := un) (wo := wo) ht hx hv hw hlk hgd hun hwo hP hS (lv_sub hl [0, 1, 2, 3, 4, 5, 6, 7, 8, 9, 10, 11, 12] rfl) again
    have c3_9 : 9 ≤ t := by omega
    clear c3 c3_8
    by_cases c3 : t = 9
    · skip
      refine xv_tableIn T (off := 214) (tgt := 453) 9 c3 (by omega) dL_law_239 (by omega) (by omega) (by decide) (by decide) ?_
      exact sw_453 T hK hXs hbl ho hn hcs (t := t) (x := x) (v := v) (w := w) (lk := lk) (gd := gd) (un := un) (wo := wo) ht hx hv hw hlk hgd hun hwo hP hS (lv_sub hl [0, 1, 2, 3, 4, 5, 6, 7, 8, 9, 10, 11, 12] rfl) again
    have c3_10 : 10 ≤ t := by omega
    clear c3 c3_9
    by_cases c3 : t = 10
    · skip
      refine xv_tableIn T (off := 253) (tgt := 492) 10 c3 (by omega) dL_law_239 (by omega) (by omega) (by decide) (by decide) ?_
      exact sw_492 T hK hXs hbl ho hn hcs (t := t) (x := x) (v := v) (w := w) (lk := lk) (gd := gd) (un := un) (wo := wo) ht hx hv hw hlk hgd hun hwo hP hS (lv_sub hl [0, 1, 2, 3, 4, 5, 6, 7, 8, 9, 10, 11, 12] rfl) again
    have c3_11 : 11 ≤ t := by omega
    clear c3 c3_10
    by_cases c3 : t = 11
    · skip
      refine xv_tableIn T (off := 253) (tgt := 492) 11 c3 (by omega) dL_law_239 (by omega) (by omega) (by decide) (by decide) ?_
      exact sw_492 T hK hXs hbl ho hn hcs (t := t) (x := x) (v := v) (w := w) (lk := lk) (gd := gd) (un := un) (wo := wo) ht hx hv hw hlk hgd hun hwo hP hS (lv_sub hl [0, 1, 2, 3, 4, 5, 6, 7, 8, 9, 10, 11, 12] rfl) again
    have c3_12 : 12 ≤ t := by omega
    clear c3 c3_11
    by_cases c3 : t = 12
    · skip
      refine xv_tableIn T (off := 355) (tgt := 594) 12 c3 (by omega) dL_law_239 (by omega) (by omega) (by decide) (by decide) ?_
      exact sw_594 T hK hXs hbl ho hn hcs (t := t) (x := x) (v := v) (w := w) (lk := lk) (gd := gd) (un := un) (wo := wo) ht hx hv hw hlk hgd hun hwo hP hS (lv_sub hl [0, 1, 2, 3, 4, 5, 6, 7, 8, 9, 10, 11, 12] rfl) again
    have c3_13 : 13 ≤ t := by omega
    clear c3 c3_12
    by_cases c3 : t = 13
    · skip
      refine xv_tableIn T (off := 430) (tgt := 669) 13 c3 (by omega) dL_law_239 (by omega) (by omega) (by decide) (by decide) ?_
      exact sw_669 T hK hXs hbl ho hn hcs (t := t) (x := x) (v := v) (w := w) (lk := lk) (gd := gd) (un := un) (wo := wo) ht hx hv hw hlk hgd hun hwo hP hS (lv_sub hl [0, 1, 2, 3, 4, 5, 6, 7, 8, 9, 10, 11, 12] rfl) again
    have c3_14 : 14 ≤ t := by omega
    clear c3 c3_13
    by_cases c3 : t = 14
    · skip
      refine xv_tableIn T (off := 518) (tgt := 757) 14 c3 (by omega) dL_law_239 (by omega) (by omega) (by decide) (by decide) ?_
      exact sw_757 T hK hXs hbl ho hn hcs (t := t) (x := x) (v := v) (w := w) (lk := lk) (gd := gd) (un := un) (wo := wo) ht hx hv hw hlk hgd hun hwo hP hS (lv_sub hl [0, 1, 2, 3, 4, 5, 6, 7, 8, 9, 10, 11, 12] rfl) again
    have c3_15 : 15 ≤ t := by omega
    clear c3 c3_14
    by_cases c3 : t = 15
    · skip
      refine xv_tableIn T (off := 518) (tgt := 757) 15 c3 (by omega) dL_law_239 (by omega) (by omega) (by decide) (by decide) ?_
      exact sw_757 T hK hXs hbl ho hn hcs (t := t) (x := x) (v := v) (w := w) (lk := lk) (gd := gd) (un := un) (wo := wo) ht hx hv hw hlk hgd hun hwo hP hS (lv_sub hl [0, 1, 2, 3, 4, 5, 6, 7, 8, 9, 10, 11, 12] rfl) again
    have c3_16 : 16 ≤ t := by omega
    clear c3 c3_15
    by_cases c3 : t = 16
    · skip
      refine xv_tableIn T (off := 518) (tgt := 757) 16 c3 (by omega) dL_law_239 (by omega) (by omega) (by decide) (by decide) ?_
      exact sw_757 T hK hXs hbl ho hn hcs (t := t) (x := x) (v := v) (w := w) (lk := lk) (gd := gd) (un := un) (wo := wo) ht hx hv hw hlk hgd hun hwo hP hS (lv_sub hl [0, 1, 2, 3, 4, 5, 6, 7, 8, 9, 10, 11, 12] rfl) again
    have c3_17 : 17 ≤ t := by omega
    clear c3 c3_16
    by_cases c3 : t = 17
    · skip
      refine xv_tableIn T (off := 611) (tgt := 850) 17 c3 (by omega) dL_law_239 (by omega) (by omega) (by decide) (by decide) ?_
      exact sw_850 T hK hXs hbl ho hn hcs (t := t) (x := x) (v := v) (w := w) (lk := lk) (gd := gd) (un := un) (wo := wo) ht hx hv hw hlk hgd hun hwo hP hS (lv_sub hl [0, 1, 2, 3, 4, 5, 6, 7, 8, 9, 10, 11, 12] rfl) again
    have c3_18 : 18 ≤ t := by omega
    clear c3 c3_17
    have c3 : t = 18 := by omega
    refine xv_tableIn T (off := 685) (tgt := 924) 18 c3 (by omega) dL_law_239 (by omega) (by omega) (by decide) (by decide) ?_
    exact sw_924 T hK hXs hbl ho hn hcs (t := t) (x := x) (v := v) (w := w) (lk := lk) (gd := gd) (un := un) (wo := wo) ht hx hv hw hlk hgd hun hwo hP hS (lv_sub hl [0, 1, 2, 3, 4, 5, 6, 7, 8, 9, 10, 11, 12] rfl) again
set_option maxHeartbeats 4000000 in
set_option maxRecDepth 100000 in
theorem sw_176 (T : CF p m c cL_law 16 s #[.ref b] RL) (hK : xK K s) (hXs : va_X b n xs s s.heap) (hbl : b < s.heap.size) (ho : s.heap.size ≤ o) (hn : n ≤ 260) (hcs : cells ≤ room_1.cells ∧ slots ≤ room_1.slots) {t : Int} (ht : 0 ≤ t ∧ t < 30) {x v w : Int} (hx : -2147483648 ≤ x ∧ x ≤ 2147483647) (hv : 0 ≤ v ∧ v < 8192) (hw : 0 ≤ w ∧ w < 8192) {lk : Int} (hlk : (N 4 = 0 ∧ lk = 0) ∨ (0 ≤ lk ∧ lk < N 4)) {gd : Int} (hgd : (N 5 = 0 ∧ gd = 0) ∨ (0 ≤ gd ∧ gd < N 5)) {H : Heap} {locs : List Loc} (hP : LwY K o N st H) (hS : va_S (fun q => s.heap.size ≤ q) s.heap H locs) {ls : Array Slot} (hl : lv_has ls 16 [(0, .ref b), (1, .ref o), (2, .int (iI 1)), (3, .int (iI t)), (4, .int (iI x)), (5, .int (iI v)), (6, .int (iI w)), (7, .int (iI lk)), (8, .int (iI gd))]) (again : ∀ (z : Int) (N2 : Int → Int) (st2 : List (Int → Int)) (H1 : Heap) (locs1 : List Loc) (ls1 : Array Slot), -4 ≤ z ∧ z ≤ 2147483647 → LwY K o N2 st2 H1 → va_S (fun q => s.heap.size ≤ q) s.heap H1 locs1 → lv_has ls1 16 [(0, .ref b), (1, .ref o), (2, .int (iI 1)), (3, .int (iI t)), (11, .int (iI z))] → W p l e room_1 s m #[.ref b] below meth c H1 locs1 cells slots Q (F0 m 986 ls1 [])) : W p l e room_1 s m #[.ref b] below meth c H locs cells slots Q (F0 m 176 ls []) := by
  have hX := lwY_X hP
  have hR := inY_R (inY hX.1)
  obtain ⟨b0, b1, b2, b3, b4, b5, b6, b7, b8, b9⟩ := inY_b (inY hX.1)
  refine xv_iconst T dL_law_176 ?_
  refine lv_iload T.1 T.2.1 dL_law_177 (lv_at hl 4 rfl) ?_
  refine xv_bipush T dL_law_179 (by omega) ?_
  refine lv_ishr T.1 T.2.1 dL_law_181 ?_
  obtain ⟨x1, rx1, ex1⟩ := iI_ex (iI x >>> (iI 17 &&& 31))
  rw [ex1]
  refine xv_bipush T dL_law_182 (by omega) ?_
  refine ly_low T hK hP hS (by omega) mw_3_134 rfl ⟨Nat.le_of_ble_eq_true rfl, Nat.le_of_ble_eq_true rfl⟩ hl.1 (Nat.le_of_ble_eq_true rfl) hcs dL_law_184 (fun u0 H locs hu0 hP hS => ?_)
  refine xv_iadd T dL_law_187 ?_
  refine lv_istore (lv' := [(9, .int (iI (1 + u0))), (0, .ref b), (1, .ref o), (2, .int (iI 1)), (3, .int (iI t)), (4, .int (iI x)), (5, .int (iI v)), (6, .int (iI w)), (7, .int (iI lk)), (8, .int (iI gd))]) T.1 T.2.1 dL_law_188 hl (by decide) rfl (fun ls hl => ?_)
  refine lv_aload_n T.1 T.2.1 dL_law_190 rfl (lv_at hl 2 rfl) ?_
  refine xv_iconst T dL_law_191 ?_
  refine ly_count T hK hP hS (fun q a => Nat.le_trans ho a.1) (by omega) (w := N 0) rfl mw_3_50 ⟨Nat.le_of_ble_eq_true rfl, Nat.le_of_ble_eq_true rfl⟩ hl.1 (Nat.le_of_ble_eq_true rfl) hcs dL_law_192 (fun H locs hP hS => ?_)
  refine lv_istore (lv' := [(10, .int (iI (N 0))), (9, .int (iI (1 + u0))), (0, .ref b), (1, .ref o), (2, .int (iI 1)), (3, .int (iI t)), (4, .int (iI x)), (5, .int (iI v)), (6, .int (iI w)), (7, .int (iI lk)), (8, .int (iI gd))]) T.1 T.2.1 dL_law_195 hl (by decide) rfl (fun ls hl => ?_)
  refine xv_iconst T dL_law_197 ?_
  refine lv_istore (lv' := [(11, .int (iI 0)), (10, .int (iI (N 0))), (9, .int (iI (1 + u0))), (0, .ref b), (1, .ref o), (2, .int (iI 1)), (3, .int (iI t)), (4, .int (iI x)), (5, .int (iI v)), (6, .int (iI w)), (7, .int (iI lk)), (8, .int (iI gd))]) T.1 T.2.1 dL_law_198 hl (by decide) rfl (fun ls hl => ?_)
  refine lv_aload_n T.1 T.2.1 dL_law_200 rfl (lv_at hl 4 rfl) ?_
  refine xv_iconst T dL_law_201 ?_
  refine ly_count T hK hP hS (fun q a => Nat.le_trans ho a.1) (by omega) (w := N 5) rfl mw_3_50 ⟨Nat.le_of_ble_eq_true rfl, Nat.le_of_ble_eq_true rfl⟩ hl.1 (Nat.le_of_ble_eq_true rfl) hcs dL_law_202 (fun H locs hP hS => ?_)
  refine xv_if_ne T (by omega) (tgt := 213) dL_law_205 (by decide) (fun c2 => ?_) (fun c2 => ?_)
  · skip
    refine lv_aload_n T.1 T.2.1 dL_law_213 rfl (lv_at hl 4 rfl) ?_
    refine lv_iload T.1 T.2.1 dL_law_214 (lv_at hl 11 rfl) ?_
    refine lv_iload T.1 T.2.1 dL_law_216 (lv_at hl 2 rfl) ?_
    refine ly_worth T hK hP hS (fun q a => Nat.le_trans ho a.1) (by omega) (by omega) (w := qWorth N gd (1 + u0)) rfl mw_3_67 ⟨Nat.le_of_ble_eq_true rfl, Nat.le_of_ble_eq_true rfl⟩ hl.1 (Nat.le_of_ble_eq_true rfl) hcs dL_law_218 (fun H locs hP hS => ?_)
    refine lv_istore (lv' := [(12, .int (iI (qWorth N gd (1 + u0)))), (11, .int (iI 0)), (10, .int (iI (N 0))), (9, .int (iI (1 + u0))), (0, .ref b), (1, .ref o), (2, .int (iI 1)), (3, .int (iI t)), (4, .int (iI x)), (5, .int (iI v)), (6, .int (iI w)), (7, .int (iI lk)), (8, .int (iI gd))]) T.1 T.2.1 dL_law_221 hl (by decide) rfl (fun ls hl => ?_)
    exact sw_223 T hK hXs hbl ho hn hcs (t := t) (x := x) (v := v) (w := w) (lk := lk) (gd := gd) (un := 1 + u0) (wo := qWorth N gd (1 + u0)) ht hx hv hw hlk hgd (by omega) (by omega) hP hS (lv_sub hl [4, 5, 6, 7, 8, 9, 10, 11, 12, 3, 2, 1, 0] rfl) again
  · skip
    refine xv_bipush T dL_law_208 (by omega) ?_
    refine lv_goto T.1 T.2.1 (tgt := 221) dL_law_210 (by decide) ?_
    refine lv_istore (lv' := [(12, .int (iI (-4))), (11, .int (iI 0)), (10, .int (iI (N 0))), (9, .int (iI (1 + u0))), (0, .ref b), (1, .ref o), (2, .int (iI 1)), (3, .int (iI t)), (4, .int (iI x)), (5, .int (iI v)), (6, .int (iI w)), (7, .int (iI lk)), (8, .int (iI gd))]) T.1 T.2.1 dL_law_221 hl (by decide) rfl (fun ls hl => ?_)
    exact sw_223 T hK hXs hbl ho hn hcs (t := t) (x := x) (v := v) (w := w) (lk := lk) (gd := gd) (un := 1 + u0) (wo := (-4)) ht hx hv hw hlk hgd (by omega) (by omega) hP hS (lv_sub hl [4, 5, 6, 7, 8, 9, 10, 11, 12, 3, 2, 1, 0] rfl) again
set_option maxHeartbeats 4000000 in
set_option maxRecDepth 100000 in
theorem sw_154 (T : CF p m c cL_law 16 s #[.ref b] RL) (hK : xK K s) (hXs : va_X b n xs s s.heap) (hbl : b < s.heap.size) (ho : s.heap.size ≤ o) (hn : n ≤ 260) (hcs : cells ≤ room_1.cells ∧ slots ≤ room_1.slots) {t : Int} (ht : 0 ≤ t ∧ t < 30) {x v w : Int} (hx : -2147483648 ≤ x ∧ x ≤ 2147483647) (hv : 0 ≤ v ∧ v < 8192) (hw : 0 ≤ w ∧ w < 8192) {lk : Int} (hlk : (N 4 = 0 ∧ lk = 0) ∨ (0 ≤ lk ∧ lk < N 4)) {H : Heap} {locs : List Loc} (hP : LwY K o N st H) (hS : va_S (fun q => s.heap.size ≤ q) s.heap H locs) {ls : Array Slot} (hl : lv_has ls 16 [(0, .ref b), (1, .ref o), (2, .int (iI 1)), (3, .int (iI t)), (4, .int (iI x)), (5, .int (iI v)), (6, .int (iI w)), (7, .int (iI lk))]) (again : ∀ (z : Int) (N2 : Int → Int) (st2 : List (Int → Int)) (H1 : Heap) (locs1 : List Loc) (ls1 : Array Slot), -4 ≤ z ∧ z ≤ 2147483647 → LwY K o N2 st2 H1 → va_S (fun q => s.heap.size ≤ q) s.heap H1 locs1 → lv_has ls1 16 [(0, .ref b), (1, .ref o), (2, .int (iI 1)), (3, .int (iI t)), (11, .int (iI z))] → W p l e room_1 s m #[.ref b] below meth c H1 locs1 cells slots Q (F0 m 986 ls1 [])) : W p l e room_1 s m #[.ref b] below meth c H locs cells slots Q (F0 m 154 ls []) := by
  have hX := lwY_X hP
  have hR := inY_R (inY hX.1)
  obtain ⟨b0, b1, b2, b3, b4, b5, b6, b7, b8, b9⟩ := inY_b (inY hX.1)
  refine lv_aload_n T.1 T.2.1 dL_law_154 rfl (lv_at hl 1 rfl) ?_
  refine xv_iconst T dL_law_155 ?_
  refine ly_count T hK hP hS (fun q a => Nat.le_trans ho a.1) (by omega) (w := N 5) rfl mw_3_50 ⟨Nat.le_of_ble_eq_true rfl, Nat.le_of_ble_eq_true rfl⟩ hl.1 (Nat.le_of_ble_eq_true rfl) hcs dL_law_156 (fun H locs hP hS => ?_)
  refine xv_if_ne T (by omega) (tgt := 166) dL_law_159 (by decide) (fun c1 => ?_) (fun c1 => ?_)
  · skip
    refine lv_iload T.1 T.2.1 dL_law_166 (lv_at hl 6 rfl) ?_
    refine lv_aload_n T.1 T.2.1 dL_law_168 rfl (lv_at hl 1 rfl) ?_
    refine xv_iconst T dL_law_169 ?_
    refine ly_count T hK hP hS (fun q a => Nat.le_trans ho a.1) (by omega) (w := N 5) rfl mw_3_50 ⟨Nat.le_of_ble_eq_true rfl, Nat.le_of_ble_eq_true rfl⟩ hl.1 (Nat.le_of_ble_eq_true rfl) hcs dL_law_170 (fun H locs hP hS => ?_)
    have hm1 := Int.emod_nonneg w (show N 5 ≠ 0 by omega)
    have hm2 := Int.emod_lt_of_pos w (show 0 < N 5 by omega)
    refine xv_irem T (by omega) (by omega) dL_law_173 ?_
    refine lv_istore (lv' := [(8, .int (iI (w % (N 5)))), (0, .ref b), (1, .ref o), (2, .int (iI 1)), (3, .int (iI t)), (4, .int (iI x)), (5, .int (iI v)), (6, .int (iI w)), (7, .int (iI lk))]) T.1 T.2.1 dL_law_174 hl (by decide) rfl (fun ls hl => ?_)
    exact sw_176 T hK hXs hbl ho hn hcs (t := t) (x := x) (v := v) (w := w) (lk := lk) (gd := w % (N 5)) ht hx hv hw hlk (by omega) hP hS (lv_sub hl [1, 2, 3, 4, 5, 6, 7, 8, 0] rfl) again
  · skip
    refine xv_iconst T dL_law_162 ?_
    refine lv_goto T.1 T.2.1 (tgt := 174) dL_law_163 (by decide) ?_
    refine lv_istore (lv' := [(8, .int (iI 0)), (0, .ref b), (1, .ref o), (2, .int (iI 1)), (3, .int (iI t)), (4, .int (iI x)), (5, .int (iI v)), (6, .int (iI w)), (7, .int (iI lk))]) T.1 T.2.1 dL_law_174 hl (by decide) rfl (fun ls hl => ?_)
    exact sw_176 T hK hXs hbl ho hn hcs (t := t) (x := x) (v := v) (w := w) (lk := lk) (gd := 0) ht hx hv hw hlk (by omega) hP hS (lv_sub hl [1, 2, 3, 4, 5, 6, 7, 8, 0] rfl) again
set_option maxHeartbeats 4000000 in
set_option maxRecDepth 100000 in
theorem sw_100 (T : CF p m c cL_law 16 s #[.ref b] RL) (hK : xK K s) (hXs : va_X b n xs s s.heap) (hbl : b < s.heap.size) (ho : s.heap.size ≤ o) (hn : n ≤ 260) (hcs : cells ≤ room_1.cells ∧ slots ≤ room_1.slots) {t : Int} (ht : 0 ≤ t ∧ t < 30) {H : Heap} {locs : List Loc} (hP : LwY K o N st H) (hS : va_S (fun q => s.heap.size ≤ q) s.heap H locs) {ls : Array Slot} (hl : lv_has ls 16 [(0, .ref b), (1, .ref o), (2, .int (iI 1)), (3, .int (iI t))]) (again : ∀ (z : Int) (N2 : Int → Int) (st2 : List (Int → Int)) (H1 : Heap) (locs1 : List Loc) (ls1 : Array Slot), -4 ≤ z ∧ z ≤ 2147483647 → LwY K o N2 st2 H1 → va_S (fun q => s.heap.size ≤ q) s.heap H1 locs1 → lv_has ls1 16 [(0, .ref b), (1, .ref o), (2, .int (iI 1)), (3, .int (iI t)), (11, .int (iI z))] → W p l e room_1 s m #[.ref b] below meth c H1 locs1 cells slots Q (F0 m 986 ls1 [])) : W p l e room_1 s m #[.ref b] below meth c H locs cells slots Q (F0 m 100 ls []) := by
  have hX := lwY_X hP
  have hR := inY_R (inY hX.1)
  obtain ⟨b0, b1, b2, b3, b4, b5, b6, b7, b8, b9⟩ := inY_b (inY hX.1)
  refine lv_aload_n T.1 T.2.1 dL_law_100 rfl (lv_at hl 0 rfl) ?_
  refine lv_iload_n T.1 T.2.1 dL_law_101 rfl (lv_at hl 3 rfl) ?_
  refine ly_cell T hK hP hXs hbl (Nat.not_le.mpr hbl) hn hS (by omega) mw_3_130 rfl ⟨Nat.le_of_ble_eq_true rfl, Nat.le_of_ble_eq_true rfl⟩ hl.1 (Nat.le_of_ble_eq_true rfl) hcs dL_law_102 (fun x H locs hx hP hS => ?_)
  refine lv_istore (lv' := [(4, .int (iI x)), (0, .ref b), (1, .ref o), (2, .int (iI 1)), (3, .int (iI t))]) T.1 T.2.1 dL_law_105 hl (by decide) rfl (fun ls hl => ?_)
  refine lv_iload T.1 T.2.1 dL_law_107 (lv_at hl 0 rfl) ?_
  refine xv_iconst T dL_law_109 ?_
  refine lv_ishr T.1 T.2.1 dL_law_110 ?_
  obtain ⟨x1, rx1, ex1⟩ := iI_ex (iI x >>> (iI 5 &&& 31))
  rw [ex1]
  refine xv_sipush T dL_law_111 (by omega) ?_
  refine ly_low T hK hP hS (by omega) mw_3_134 rfl ⟨Nat.le_of_ble_eq_true rfl, Nat.le_of_ble_eq_true rfl⟩ hl.1 (Nat.le_of_ble_eq_true rfl) hcs dL_law_114 (fun v H locs hv hP hS => ?_)
  refine lv_istore (lv' := [(5, .int (iI v)), (4, .int (iI x)), (0, .ref b), (1, .ref o), (2, .int (iI 1)), (3, .int (iI t))]) T.1 T.2.1 dL_law_117 hl (by decide) rfl (fun ls hl => ?_)
  refine lv_iload T.1 T.2.1 dL_law_119 (lv_at hl 1 rfl) ?_
  refine xv_bipush T dL_law_121 (by omega) ?_
  refine lv_ishr T.1 T.2.1 dL_law_123 ?_
  obtain ⟨x2, rx2, ex2⟩ := iI_ex (iI x >>> (iI 11 &&& 31))
  rw [ex2]
  refine xv_sipush T dL_law_124 (by omega) ?_
  refine ly_low T hK hP hS (by omega) mw_3_134 rfl ⟨Nat.le_of_ble_eq_true rfl, Nat.le_of_ble_eq_true rfl⟩ hl.1 (Nat.le_of_ble_eq_true rfl) hcs dL_law_127 (fun w H locs hw hP hS => ?_)
  refine lv_istore (lv' := [(6, .int (iI w)), (5, .int (iI v)), (4, .int (iI x)), (0, .ref b), (1, .ref o), (2, .int (iI 1)), (3, .int (iI t))]) T.1 T.2.1 dL_law_130 hl (by decide) rfl (fun ls hl => ?_)
  refine lv_aload_n T.1 T.2.1 dL_law_132 rfl (lv_at hl 4 rfl) ?_
  refine xv_iconst T dL_law_133 ?_
  refine ly_count T hK hP hS (fun q a => Nat.le_trans ho a.1) (by omega) (w := N 4) rfl mw_3_50 ⟨Nat.le_of_ble_eq_true rfl, Nat.le_of_ble_eq_true rfl⟩ hl.1 (Nat.le_of_ble_eq_true rfl) hcs dL_law_134 (fun H locs hP hS => ?_)
  refine xv_if_ne T (by omega) (tgt := 144) dL_law_137 (by decide) (fun c3 => ?_) (fun c3 => ?_)
  · skip
    refine lv_iload T.1 T.2.1 dL_law_144 (lv_at hl 1 rfl) ?_
    refine lv_aload_n T.1 T.2.1 dL_law_146 rfl (lv_at hl 4 rfl) ?_
    refine xv_iconst T dL_law_147 ?_
    refine ly_count T hK hP hS (fun q a => Nat.le_trans ho a.1) (by omega) (w := N 4) rfl mw_3_50 ⟨Nat.le_of_ble_eq_true rfl, Nat.le_of_ble_eq_true rfl⟩ hl.1 (Nat.le_of_ble_eq_true rfl) hcs dL_law_148 (fun H locs hP hS => ?_)
    have hm1 := Int.emod_nonneg v (show N 4 ≠ 0 by omega)
    have hm2 := Int.emod_lt_of_pos v (show 0 < N 4 by omega)
    refine xv_irem T (by omega) (by omega) dL_law_151 ?_
    refine lv_istore (lv' := [(7, .int (iI (v % (N 4)))), (6, .int (iI w)), (5, .int (iI v)), (4, .int (iI x)), (0, .ref b), (1, .ref o), (2, .int (iI 1)), (3, .int (iI t))]) T.1 T.2.1 dL_law_152 hl (by decide) rfl (fun ls hl => ?_)
    exact sw_154 T hK hXs hbl ho hn hcs (t := t) (x := x) (v := v) (w := w) (lk := v % (N 4)) ht hx hv hw (by omega) hP hS (lv_sub hl [4, 5, 6, 7, 3, 2, 1, 0] rfl) again
  · skip
    refine xv_iconst T dL_law_140 ?_
    refine lv_goto T.1 T.2.1 (tgt := 152) dL_law_141 (by decide) ?_
    refine lv_istore (lv' := [(7, .int (iI 0)), (6, .int (iI w)), (5, .int (iI v)), (4, .int (iI x)), (0, .ref b), (1, .ref o), (2, .int (iI 1)), (3, .int (iI t))]) T.1 T.2.1 dL_law_152 hl (by decide) rfl (fun ls hl => ?_)
    exact sw_154 T hK hXs hbl ho hn hcs (t := t) (x := x) (v := v) (w := w) (lk := 0) ht hx hv hw (by omega) hP hS (lv_sub hl [4, 5, 6, 7, 3, 2, 1, 0] rfl) again
set_option maxHeartbeats 4000000 in
set_option maxRecDepth 100000 in
theorem sw_986 (T : CF p m c cL_law 16 s #[.ref b] RL) (hK : xK K s) (hXs : va_X b n xs s s.heap) (hbl : b < s.heap.size) (ho : s.heap.size ≤ o) (hn : n ≤ 260) (hcs : cells ≤ room_1.cells ∧ slots ≤ room_1.slots) {t : Int} (ht : 0 ≤ t ∧ t < 30) {z : Int} (hz : -4 ≤ z ∧ z ≤ 2147483647) {H : Heap} {locs : List Loc} (hP : LwY K o N st H) (hS : va_S (fun q => s.heap.size ≤ q) s.heap H locs) {ls : Array Slot} (hl : lv_has ls 16 [(0, .ref b), (1, .ref o), (2, .int (iI 1)), (3, .int (iI t)), (11, .int (iI z))]) (again : ∀ (st2 : List (Int → Int)) (H1 : Heap) (locs1 : List Loc) (ls1 : Array Slot), LwY K o N st2 H1 → va_S (fun q => s.heap.size ≤ q) s.heap H1 locs1 → lv_has ls1 16 [(0, .ref b), (1, .ref o), (2, .int (iI 1)), (3, .int (iI (t + 1)))] → W p l e room_1 s m #[.ref b] below meth c H1 locs1 cells slots Q (F0 m 90 ls1 [])) : W p l e room_1 s m #[.ref b] below meth c H locs cells slots Q (F0 m 986 ls []) := by
  have hX := lwY_X hP
  have hR := inY_R (inY hX.1)
  obtain ⟨b0, b1, b2, b3, b4, b5, b6, b7, b8, b9⟩ := inY_b (inY hX.1)
  refine lv_iload_n T.1 T.2.1 dL_law_986 rfl (lv_at hl 2 rfl) ?_
  refine xv_if_eq T (by omega) (tgt := 1037) dL_law_987 (by decide) (fun c1 => absurd c1 (by omega)) (fun _ => ?_)
  refine lv_iload T.1 T.2.1 dL_law_990 (lv_at hl 4 rfl) ?_
  refine xv_bipush T dL_law_992 (by omega) ?_
  refine xv_icmp_lt T (by omega) (tgt := 1037) dL_law_994 (by decide) (fun c2 => absurd c2 (by omega)) (fun _ => ?_)
  refine lv_aload_n T.1 T.2.1 dL_law_997 rfl (lv_at hl 1 rfl) ?_
  refine lyS_I T hK hP hS (fun q a => Nat.le_trans ho a.1) (c_L_addsUp l K o N st) iL_addsUp mw_3_174 ⟨Nat.le_of_ble_eq_true rfl, Nat.le_of_ble_eq_true rfl⟩ hl.1 (Nat.le_of_ble_eq_true rfl) hcs dL_law_998 (fun z9 N9 st9 H locs q9 hP hS => ?_)
  obtain ⟨hz9, hN9, hs9⟩ := q9
  subst hz9
  subst hN9
  subst hs9
  refine xv_if_eq T (by omega) (tgt := 1037) dL_law_1001 (by decide) (fun c3 => absurd c3 (by omega)) (fun _ => ?_)
  refine lv_iload_n T.1 T.2.1 dL_law_1004 rfl (lv_at hl 3 rfl) ?_
  refine xv_iconst T dL_law_1005 ?_
  refine xv_irem T (by omega) (by omega) dL_law_1006 ?_
  refine xv_iconst T dL_law_1007 ?_
  refine xv_icmp_ne T (by omega) (tgt := 1018) dL_law_1008 (by decide) (fun c4 => ?_) (fun c4 => ?_)
  · skip
    refine lv_iload_n T.1 T.2.1 dL_law_1018 rfl (lv_at hl 3 rfl) ?_
    refine xv_bipush T dL_law_1019 (by omega) ?_
    refine xv_irem T (by omega) (by omega) dL_law_1021 ?_
    refine xv_iconst T dL_law_1022 ?_
    refine xv_icmp_ne T (by omega) (tgt := 1033) dL_law_1023 (by decide) (fun c5 => ?_) (fun c5 => ?_)
    · skip
      refine xv_iconst T dL_law_1033 ?_
      refine lv_goto T.1 T.2.1 (tgt := 1038) dL_law_1034 (by decide) ?_
      refine lv_istore_n (lv' := [(2, .int (iI 1)), (0, .ref b), (1, .ref o), (3, .int (iI t)), (11, .int (iI z))]) T.1 T.2.1 dL_law_1038 rfl hl (by decide) rfl (fun ls hl => ?_)
      refine xv_iinc T (y := t + 1) (lv' := [(3, .int (iI (t + 1))), (2, .int (iI 1)), (0, .ref b), (1, .ref o), (11, .int (iI z))]) dL_law_1039 hl (q := 3) rfl (by omega) (by decide) rfl (fun ls hl => ?_)
      refine lv_goto T.1 T.2.1 (tgt := 90) dL_law_1042 (by decide) ?_
      exact again st _ _ ls hP hS (lv_sub hl [2, 3, 1, 0] rfl)
    · skip
      refine lv_aload_n T.1 T.2.1 dL_law_1026 rfl (lv_at hl 1 rfl) ?_
      refine lyS_I T hK hP hS (fun q a => Nat.le_trans ho a.1) (c_L_refused l K o N st) iL_refused mw_3_138 ⟨Nat.le_of_ble_eq_true rfl, Nat.le_of_ble_eq_true rfl⟩ hl.1 (Nat.le_of_ble_eq_true rfl) hcs dL_law_1027 (fun z9 N9 st9 H locs q9 hP hS => ?_)
      obtain ⟨hz9, hN9, hs9⟩ := q9
      subst hz9
      subst hN9
      subst hs9
      refine xv_if_eq T (by omega) (tgt := 1037) dL_law_1030 (by decide) (fun c6 => absurd c6 (by omega)) (fun _ => ?_)
      refine xv_iconst T dL_law_1033 ?_
      refine lv_goto T.1 T.2.1 (tgt := 1038) dL_law_1034 (by decide) ?_
      refine lv_istore_n (lv' := [(2, .int (iI 1)), (0, .ref b), (1, .ref o), (3, .int (iI t)), (11, .int (iI z))]) T.1 T.2.1 dL_law_1038 rfl hl (by decide) rfl (fun ls hl => ?_)
      refine xv_iinc T (y := t + 1) (lv' := [(3, .int (iI (t + 1))), (2, .int (iI 1)), (0, .ref b), (1, .ref o), (11, .int (iI z))]) dL_law_1039 hl (q := 3) rfl (by omega) (by decide) rfl (fun ls hl => ?_)
      refine lv_goto T.1 T.2.1 (tgt := 90) dL_law_1042 (by decide) ?_
      exact again st _ _ ls hP hS (lv_sub hl [2, 3, 1, 0] rfl)
  · skip
    refine lv_aload_n T.1 T.2.1 dL_law_1011 rfl (lv_at hl 1 rfl) ?_
    refine lyS_I T hK hP hS (fun q a => Nat.le_trans ho a.1) (c_L_isAhead l K o N st) iL_isAhead mw_3_178 ⟨Nat.le_of_ble_eq_true rfl, Nat.le_of_ble_eq_true rfl⟩ hl.1 (Nat.le_of_ble_eq_true rfl) hcs dL_law_1012 (fun z9 N9 st7 H locs q9 hP hS => ?_)
    obtain ⟨hz9, hN9⟩ := q9
    subst hz9
    subst hN9
    refine xv_if_eq T (by omega) (tgt := 1037) dL_law_1015 (by decide) (fun c8 => absurd c8 (by omega)) (fun _ => ?_)
    refine lv_iload_n T.1 T.2.1 dL_law_1018 rfl (lv_at hl 3 rfl) ?_
    refine xv_bipush T dL_law_1019 (by omega) ?_
    refine xv_irem T (by omega) (by omega) dL_law_1021 ?_
    refine xv_iconst T dL_law_1022 ?_
    refine xv_icmp_ne T (by omega) (tgt := 1033) dL_law_1023 (by decide) (fun c9 => ?_) (fun c9 => ?_)
    · skip
      refine xv_iconst T dL_law_1033 ?_
      refine lv_goto T.1 T.2.1 (tgt := 1038) dL_law_1034 (by decide) ?_
      refine lv_istore_n (lv' := [(2, .int (iI 1)), (0, .ref b), (1, .ref o), (3, .int (iI t)), (11, .int (iI z))]) T.1 T.2.1 dL_law_1038 rfl hl (by decide) rfl (fun ls hl => ?_)
      refine xv_iinc T (y := t + 1) (lv' := [(3, .int (iI (t + 1))), (2, .int (iI 1)), (0, .ref b), (1, .ref o), (11, .int (iI z))]) dL_law_1039 hl (q := 3) rfl (by omega) (by decide) rfl (fun ls hl => ?_)
      refine lv_goto T.1 T.2.1 (tgt := 90) dL_law_1042 (by decide) ?_
      exact again st7 _ _ ls hP hS (lv_sub hl [2, 3, 1, 0] rfl)
    · skip
      refine lv_aload_n T.1 T.2.1 dL_law_1026 rfl (lv_at hl 1 rfl) ?_
      refine lyS_I T hK hP hS (fun q a => Nat.le_trans ho a.1) (c_L_refused l K o N st7) iL_refused mw_3_138 ⟨Nat.le_of_ble_eq_true rfl, Nat.le_of_ble_eq_true rfl⟩ hl.1 (Nat.le_of_ble_eq_true rfl) hcs dL_law_1027 (fun z9 N9 st9 H locs q9 hP hS => ?_)
      obtain ⟨hz9, hN9, hs9⟩ := q9
      subst hz9
      subst hN9
      subst hs9
      refine xv_if_eq T (by omega) (tgt := 1037) dL_law_1030 (by decide) (fun c10 => absurd c10 (by omega)) (fun _ => ?_)
      refine xv_iconst T dL_law_1033 ?_
      refine lv_goto T.1 T.2.1 (tgt := 1038) dL_law_1034 (by decide) ?_
      refine lv_istore_n (lv' := [(2, .int (iI 1)), (0, .ref b), (1, .ref o), (3, .int (iI t)), (11, .int (iI z))]) T.1 T.2.1 dL_law_1038 rfl hl (by decide) rfl (fun ls hl => ?_)
      refine xv_iinc T (y := t + 1) (lv' := [(3, .int (iI (t + 1))), (2, .int (iI 1)), (0, .ref b), (1, .ref o), (11, .int (iI z))]) dL_law_1039 hl (q := 3) rfl (by omega) (by decide) rfl (fun ls hl => ?_)
      refine lv_goto T.1 T.2.1 (tgt := 90) dL_law_1042 (by decide) ?_
      exact again st7 _ _ ls hP hS (lv_sub hl [2, 3, 1, 0] rfl)
end XSW
