set_option maxHeartbeats 4000000 in
set_option maxRecDepth 100000 in
theorem c_X2_takeLowestFirst_u (l : Launch) (K : KT) (o : Nat) (N : Int → Int) (gd un : Int) (r_gd : 0 ≤ gd ∧ gd < 8) (r_un : 0 ≤ un ∧ un ≤ 600000) (hI0 : In0 N) (hKc : InK N) : CtI l yX2_takeLowestFirst cX2_takeLowestFirst 8 .int 1 22 K [.ref (o + 3), .ref (o + 6), .int (iI gd), .int (iI un)] (shipW K o N) (Blk o 21) (fun (z : Int) (u : Int → Int) => z = (loS 24 (N 4).toNat N gd un).2 ∧ u = (loS 24 (N 4).toNat N gd un).1) (fun u => shipW K o u) := by
  refine CtI_of (by decide) (Nat.le_of_ble_eq_true rfl) ?_
  intro p e s m args below meth c T hr hk hP hK ls hl
  have T : CF p m c cX2_takeLowestFirst 8 s args RX2 := T
  have hS : va_S (Blk o 21) s.heap s.heap [] := va_S.rf
  have hl : lv_has ls 8 [(0, .ref (o + 3)), (1, .ref (o + 6)), (2, .int (iI gd)), (3, .int (iI un))] := hl
  obtain ⟨b0, b1, b2, b3, b4, b5, b6, b7, b8, b9⟩ := id hI0
  refine lv_iload_n T.1 T.2.1 dX2_takeLowestFirst_0 rfl (lv_at hl 3 rfl) ?_
  refine lv_istore (lv' := [(4, .int (iI un)), (0, .ref (o + 3)), (1, .ref (o + 6)), (2, .int (iI gd)), (3, .int (iI un))]) T.1 T.2.1 dX2_takeLowestFirst_1 hl (by decide) rfl (fun ls hl => ?_)
  refine xv_iconst T dX2_takeLowestFirst_3 ?_
  refine lv_istore (lv' := [(5, .int (iI 0)), (4, .int (iI un)), (0, .ref (o + 3)), (1, .ref (o + 6)), (2, .int (iI gd)), (3, .int (iI un))]) T.1 T.2.1 dX2_takeLowestFirst_4 hl (by decide) rfl (fun ls hl => ?_)
  have lp6 : ∀ (fuel : Nat) (rest : Int) (i : Int) (NL : Int → Int) (H : Heap) (locs : List Loc) (ls : Array Slot), (0 ≤ i ∧ i ≤ N 4) → (0 ≤ rest ∧ rest ≤ 600000) → (NL 4 = N 4) → (InK NL) → (NL = (loS 24 i.toNat N gd un).1 ∧ rest = (loS 24 i.toNat N gd un).2) → N 4 - i < (fuel : Int) → xP K (shipW K o NL) H → va_S (Blk o 21) s.heap H locs → lv_has ls 8 [(0, .ref (o + 3)), (1, .ref (o + 6)), (2, .int (iI gd)), (3, .int (iI un)), (4, .int (iI rest)), (5, .int (iI i))] → W p l e (rmF 1 22) s m args below meth c H locs 0 0 (MQ below (qI K (fun (z : Int) (u : Int → Int) => z = (loS 24 (N 4).toNat N gd un).2 ∧ u = (loS 24 (N 4).toNat N gd un).1) (fun u => shipW K o u) (Blk o 21)) args s 0 0 (Blk o 21)) (F0 m 6 ls []) := by
    intro fuel
    induction fuel with
    | zero =>
      intro rest i NL H locs ls hi hr0 h4 hKL hq hm hP hS hl
      exact absurd hm (by omega)
    | succ fuel ih6 =>
      intro rest i NL H locs ls hi hr0 h4 hKL hq hm hP hS hl
      refine lv_iload T.1 T.2.1 dX2_takeLowestFirst_6 (lv_at hl 5 rfl) ?_
      refine lv_aload_n T.1 T.2.1 dX2_takeLowestFirst_8 rfl (lv_at hl 0 rfl) ?_
      refine g2_number T hK hP 3 rfl (v := .int (iI (NL 4))) rfl mw_1_31 dX2_takeLowestFirst_9 ?_
      refine xv_icmp_ge T (by omega) (tgt := 57) dX2_takeLowestFirst_12 (by decide) (fun c1 => ?_) (fun c1 => ?_)
      · skip
        refine lv_iload T.1 T.2.1 dX2_takeLowestFirst_57 (lv_at hl 4 rfl) ?_
        exact rI T (u := NL) hr hk hK hP hS dX2_takeLowestFirst_59 (by rw [show (N 4).toNat = i.toNat by omega]; exact ⟨hq.2, hq.1⟩)
      · skip
        have hki := hKL i gd (by omega) (by omega) (by omega) (by omega)
        refine lv_aload_n T.1 T.2.1 dX2_takeLowestFirst_15 rfl (lv_at hl 0 rfl) ?_
        refine lv_iload T.1 T.2.1 dX2_takeLowestFirst_16 (lv_at hl 5 rfl) ?_
        refine lv_iload_n T.1 T.2.1 dX2_takeLowestFirst_18 rfl (lv_at hl 2 rfl) ?_
        refine cI_V T hK hP hS 3 rfl rfl rfl (c_X2_place l K o NL i gd ) iX2_place mw_2_132 ⟨Nat.le_of_ble_eq_true rfl, Nat.le_of_ble_eq_true rfl⟩ hP noA rfl hl.1 rfl (Nat.le_of_ble_eq_true rfl) ⟨Nat.zero_le _, Nat.zero_le _⟩ dX2_takeLowestFirst_19 (fun z2 _ H1 locs q3 hP1 hg1 hg2 hS => ?_)
        have hP := xP_kept hP hg2
        generalize H1 = H at hP hS ⊢
        clear hg1 hg2 hP1
        obtain rfl : z2 = i * 8 + gd := q3
        refine lv_istore (lv' := [(6, .int (iI (i * 8 + gd))), (0, .ref (o + 3)), (1, .ref (o + 6)), (2, .int (iI gd)), (3, .int (iI un)), (4, .int (iI rest)), (5, .int (iI i))]) T.1 T.2.1 dX2_takeLowestFirst_22 hl (by decide) rfl (fun ls hl => ?_)
        refine lv_iload T.1 T.2.1 dX2_takeLowestFirst_24 (lv_at hl 5 rfl) ?_
        refine lv_aload_n T.1 T.2.1 dX2_takeLowestFirst_26 rfl (lv_at hl 2 rfl) ?_
        refine lv_iload T.1 T.2.1 dX2_takeLowestFirst_27 (lv_at hl 0 rfl) ?_
        refine xa_iald T hK hP 6 rfl rfl (24 + 8 * i + gd) (by omega) (by omega) (by decide) dX2_takeLowestFirst_29 ?_
        refine xv_min T mw_3_14 dX2_takeLowestFirst_30 hl.1 (Nat.le_of_ble_eq_true rfl) (Nat.le_of_ble_eq_true rfl) ⟨Nat.zero_le _, Nat.zero_le _⟩ (by omega) (fun mn hmn => ?_)
        refine lv_istore (lv' := [(7, .int (iI mn)), (6, .int (iI (i * 8 + gd))), (0, .ref (o + 3)), (1, .ref (o + 6)), (2, .int (iI gd)), (3, .int (iI un)), (4, .int (iI rest)), (5, .int (iI i))]) T.1 T.2.1 dX2_takeLowestFirst_33 hl (by decide) rfl (fun ls hl => ?_)
        refine lv_aload_n T.1 T.2.1 dX2_takeLowestFirst_35 rfl (lv_at hl 3 rfl) ?_
        refine lv_iload T.1 T.2.1 dX2_takeLowestFirst_36 (lv_at hl 1 rfl) ?_
        refine lv_dup2_11 T.1 T.2.1 dX2_takeLowestFirst_38 rfl rfl ?_
        refine xa_iald T hK hP 6 rfl rfl (24 + 8 * i + gd) (by omega) (by omega) (by decide) dX2_takeLowestFirst_39 ?_
        refine lv_iload T.1 T.2.1 dX2_takeLowestFirst_40 (lv_at hl 0 rfl) ?_
        refine xv_isub T dX2_takeLowestFirst_42 ?_
        refine xa_iast T hK hP (ship_D K o NL) hS 6 rfl rfl (by omega) (by decide) dX2_takeLowestFirst_43 (su_a24 K o NL (i := 24 + 8 * i + gd) (NL (24 + 8 * i + gd) - mn) (by omega) (by omega)) (fun H locs hP hS => ?_)
        obtain ⟨NM, hNM⟩ : ∃ Y0 : Int → Int, Y0 = uZ NL (24 + 8 * i + gd) (NL (24 + 8 * i + gd) - mn) := ⟨_, rfl⟩
        have hP : xP K (shipW K o NM) H := by rw [hNM]; exact hP
        refine lv_iload T.1 T.2.1 dX2_takeLowestFirst_44 (lv_at hl 6 rfl) ?_
        refine lv_iload T.1 T.2.1 dX2_takeLowestFirst_46 (lv_at hl 0 rfl) ?_
        refine xv_isub T dX2_takeLowestFirst_48 ?_
        refine lv_istore (lv' := [(4, .int (iI (rest - mn))), (7, .int (iI mn)), (6, .int (iI (i * 8 + gd))), (0, .ref (o + 3)), (1, .ref (o + 6)), (2, .int (iI gd)), (3, .int (iI un)), (5, .int (iI i))]) T.1 T.2.1 dX2_takeLowestFirst_49 hl (by decide) rfl (fun ls hl => ?_)
        refine xv_iinc T (y := i + 1) (lv' := [(5, .int (iI (i + 1))), (4, .int (iI (rest - mn))), (7, .int (iI mn)), (6, .int (iI (i * 8 + gd))), (0, .ref (o + 3)), (1, .ref (o + 6)), (2, .int (iI gd)), (3, .int (iI un))]) dX2_takeLowestFirst_51 hl (q := 7) rfl (by omega) (by decide) rfl (fun ls hl => ?_)
        refine lv_goto T.1 T.2.1 (tgt := 6) dX2_takeLowestFirst_54 (by decide) ?_
        have hmf := minF_of hmn
        exact ih6 (rest - mn) (i + 1) NM _ _ ls (by omega) (by omega) (by rw [hNM, uZ_ne (by omega)]; exact h4) (by rw [hNM]; exact inK_up hKL (by omega)) (by rw [loS_s (by omega), ← hq.1, ← hq.2, hNM, ← hmf]; exact ⟨rfl, rfl⟩) (by omega) hP hS (lv_sub hl [4, 5, 6, 7, 1, 0] rfl)
  exact lp6 6 un 0 N _ _ ls (by omega) (by omega) rfl hKc ⟨rfl, rfl⟩ (by omega) hP hS (lv_sub hl [2, 3, 4, 5, 1, 0] rfl)
set_option maxHeartbeats 4000000 in
set_option maxRecDepth 100000 in
theorem c_X2_takeLowestFirst_m (l : Launch) (K : KT) (o : Nat) (N : Int → Int) (gd un : Int) (r_gd : 0 ≤ gd ∧ gd < 8) (r_un : 0 ≤ un ∧ un ≤ 600000) (hI0 : In0 N) (hKc : InK N) : CtI l yX2_takeLowestFirst cX2_takeLowestFirst 8 .int 1 22 K [.ref (o + 3), .ref (o + 7), .int (iI gd), .int (iI un)] (shipW K o N) (Blk o 21) (fun (z : Int) (u : Int → Int) => z = (loS 64 (N 4).toNat N gd un).2 ∧ u = (loS 64 (N 4).toNat N gd un).1) (fun u => shipW K o u) := by
  refine CtI_of (by decide) (Nat.le_of_ble_eq_true rfl) ?_
  intro p e s m args below meth c T hr hk hP hK ls hl
  have T : CF p m c cX2_takeLowestFirst 8 s args RX2 := T
  have hS : va_S (Blk o 21) s.heap s.heap [] := va_S.rf
  have hl : lv_has ls 8 [(0, .ref (o + 3)), (1, .ref (o + 7)), (2, .int (iI gd)), (3, .int (iI un))] := hl
  obtain ⟨b0, b1, b2, b3, b4, b5, b6, b7, b8, b9⟩ := id hI0
  refine lv_iload_n T.1 T.2.1 dX2_takeLowestFirst_0 rfl (lv_at hl 3 rfl) ?_
  refine lv_istore (lv' := [(4, .int (iI un)), (0, .ref (o + 3)), (1, .ref (o + 7)), (2, .int (iI gd)), (3, .int (iI un))]) T.1 T.2.1 dX2_takeLowestFirst_1 hl (by decide) rfl (fun ls hl => ?_)
  refine xv_iconst T dX2_takeLowestFirst_3 ?_
  refine lv_istore (lv' := [(5, .int (iI 0)), (4, .int (iI un)), (0, .ref (o + 3)), (1, .ref (o + 7)), (2, .int (iI gd)), (3, .int (iI un))]) T.1 T.2.1 dX2_takeLowestFirst_4 hl (by decide) rfl (fun ls hl => ?_)
  have lp6 : ∀ (fuel : Nat) (rest : Int) (i : Int) (NL : Int → Int) (H : Heap) (locs : List Loc) (ls : Array Slot), (0 ≤ i ∧ i ≤ N 4) → (0 ≤ rest ∧ rest ≤ 600000) → (NL 4 = N 4) → (InK NL) → (NL = (loS 64 i.toNat N gd un).1 ∧ rest = (loS 64 i.toNat N gd un).2) → N 4 - i < (fuel : Int) → xP K (shipW K o NL) H → va_S (Blk o 21) s.heap H locs → lv_has ls 8 [(0, .ref (o + 3)), (1, .ref (o + 7)), (2, .int (iI gd)), (3, .int (iI un)), (4, .int (iI rest)), (5, .int (iI i))] → W p l e (rmF 1 22) s m args below meth c H locs 0 0 (MQ below (qI K (fun (z : Int) (u : Int → Int) => z = (loS 64 (N 4).toNat N gd un).2 ∧ u = (loS 64 (N 4).toNat N gd un).1) (fun u => shipW K o u) (Blk o 21)) args s 0 0 (Blk o 21)) (F0 m 6 ls []) := by
    intro fuel
    induction fuel with
    | zero =>
      intro rest i NL H locs ls hi hr0 h4 hKL hq hm hP hS hl
      exact absurd hm (by omega)
    | succ fuel ih6 =>
      intro rest i NL H locs ls hi hr0 h4 hKL hq hm hP hS hl
      refine lv_iload T.1 T.2.1 dX2_takeLowestFirst_6 (lv_at hl 5 rfl) ?_
      refine lv_aload_n T.1 T.2.1 dX2_takeLowestFirst_8 rfl (lv_at hl 0 rfl) ?_
      refine g2_number T hK hP 3 rfl (v := .int (iI (NL 4))) rfl mw_1_31 dX2_takeLowestFirst_9 ?_
      refine xv_icmp_ge T (by omega) (tgt := 57) dX2_takeLowestFirst_12 (by decide) (fun c1 => ?_) (fun c1 => ?_)
      · skip
        refine lv_iload T.1 T.2.1 dX2_takeLowestFirst_57 (lv_at hl 4 rfl) ?_
        exact rI T (u := NL) hr hk hK hP hS dX2_takeLowestFirst_59 (by rw [show (N 4).toNat = i.toNat by omega]; exact ⟨hq.2, hq.1⟩)
      · skip
        have hki := hKL i gd (by omega) (by omega) (by omega) (by omega)
        refine lv_aload_n T.1 T.2.1 dX2_takeLowestFirst_15 rfl (lv_at hl 0 rfl) ?_
        refine lv_iload T.1 T.2.1 dX2_takeLowestFirst_16 (lv_at hl 5 rfl) ?_
        refine lv_iload_n T.1 T.2.1 dX2_takeLowestFirst_18 rfl (lv_at hl 2 rfl) ?_
        refine cI_V T hK hP hS 3 rfl rfl rfl (c_X2_place l K o NL i gd ) iX2_place mw_2_132 ⟨Nat.le_of_ble_eq_true rfl, Nat.le_of_ble_eq_true rfl⟩ hP noA rfl hl.1 rfl (Nat.le_of_ble_eq_true rfl) ⟨Nat.zero_le _, Nat.zero_le _⟩ dX2_takeLowestFirst_19 (fun z2 _ H1 locs q3 hP1 hg1 hg2 hS => ?_)
        have hP := xP_kept hP hg2
        generalize H1 = H at hP hS ⊢
        clear hg1 hg2 hP1
        obtain rfl : z2 = i * 8 + gd := q3
        refine lv_istore (lv' := [(6, .int (iI (i * 8 + gd))), (0, .ref (o + 3)), (1, .ref (o + 7)), (2, .int (iI gd)), (3, .int (iI un)), (4, .int (iI rest)), (5, .int (iI i))]) T.1 T.2.1 dX2_takeLowestFirst_22 hl (by decide) rfl (fun ls hl => ?_)
        refine lv_iload T.1 T.2.1 dX2_takeLowestFirst_24 (lv_at hl 5 rfl) ?_
        refine lv_aload_n T.1 T.2.1 dX2_takeLowestFirst_26 rfl (lv_at hl 2 rfl) ?_
        refine lv_iload T.1 T.2.1 dX2_takeLowestFirst_27 (lv_at hl 0 rfl) ?_
        refine xa_iald T hK hP 7 rfl rfl (64 + 8 * i + gd) (by omega) (by omega) (by decide) dX2_takeLowestFirst_29 ?_
        refine xv_min T mw_3_14 dX2_takeLowestFirst_30 hl.1 (Nat.le_of_ble_eq_true rfl) (Nat.le_of_ble_eq_true rfl) ⟨Nat.zero_le _, Nat.zero_le _⟩ (by omega) (fun mn hmn => ?_)
        refine lv_istore (lv' := [(7, .int (iI mn)), (6, .int (iI (i * 8 + gd))), (0, .ref (o + 3)), (1, .ref (o + 7)), (2, .int (iI gd)), (3, .int (iI un)), (4, .int (iI rest)), (5, .int (iI i))]) T.1 T.2.1 dX2_takeLowestFirst_33 hl (by decide) rfl (fun ls hl => ?_)
        refine lv_aload_n T.1 T.2.1 dX2_takeLowestFirst_35 rfl (lv_at hl 3 rfl) ?_
        refine lv_iload T.1 T.2.1 dX2_takeLowestFirst_36 (lv_at hl 1 rfl) ?_
        refine lv_dup2_11 T.1 T.2.1 dX2_takeLowestFirst_38 rfl rfl ?_
        refine xa_iald T hK hP 7 rfl rfl (64 + 8 * i + gd) (by omega) (by omega) (by decide) dX2_takeLowestFirst_39 ?_
        refine lv_iload T.1 T.2.1 dX2_takeLowestFirst_40 (lv_at hl 0 rfl) ?_
        refine xv_isub T dX2_takeLowestFirst_42 ?_
        refine xa_iast T hK hP (ship_D K o NL) hS 7 rfl rfl (by omega) (by decide) dX2_takeLowestFirst_43 (su_a64 K o NL (i := 64 + 8 * i + gd) (NL (64 + 8 * i + gd) - mn) (by omega) (by omega)) (fun H locs hP hS => ?_)
        obtain ⟨NM, hNM⟩ : ∃ Y0 : Int → Int, Y0 = uZ NL (64 + 8 * i + gd) (NL (64 + 8 * i + gd) - mn) := ⟨_, rfl⟩
        have hP : xP K (shipW K o NM) H := by rw [hNM]; exact hP
        refine lv_iload T.1 T.2.1 dX2_takeLowestFirst_44 (lv_at hl 6 rfl) ?_
        refine lv_iload T.1 T.2.1 dX2_takeLowestFirst_46 (lv_at hl 0 rfl) ?_
        refine xv_isub T dX2_takeLowestFirst_48 ?_
        refine lv_istore (lv' := [(4, .int (iI (rest - mn))), (7, .int (iI mn)), (6, .int (iI (i * 8 + gd))), (0, .ref (o + 3)), (1, .ref (o + 7)), (2, .int (iI gd)), (3, .int (iI un)), (5, .int (iI i))]) T.1 T.2.1 dX2_takeLowestFirst_49 hl (by decide) rfl (fun ls hl => ?_)
        refine xv_iinc T (y := i + 1) (lv' := [(5, .int (iI (i + 1))), (4, .int (iI (rest - mn))), (7, .int (iI mn)), (6, .int (iI (i * 8 + gd))), (0, .ref (o + 3)), (1, .ref (o + 7)), (2, .int (iI gd)), (3, .int (iI un))]) dX2_takeLowestFirst_51 hl (q := 7) rfl (by omega) (by decide) rfl (fun ls hl => ?_)
        refine lv_goto T.1 T.2.1 (tgt := 6) dX2_takeLowestFirst_54 (by decide) ?_
        have hmf := minF_of hmn
        exact ih6 (rest - mn) (i + 1) NM _ _ ls (by omega) (by omega) (by rw [hNM, uZ_ne (by omega)]; exact h4) (by rw [hNM]; exact inK_up hKL (by omega)) (by rw [loS_s (by omega), ← hq.1, ← hq.2, hNM, ← hmf]; exact ⟨rfl, rfl⟩) (by omega) hP hS (lv_sub hl [4, 5, 6, 7, 1, 0] rfl)
  exact lp6 6 un 0 N _ _ ls (by omega) (by omega) rfl hKc ⟨rfl, rfl⟩ (by omega) hP hS (lv_sub hl [2, 3, 4, 5, 1, 0] rfl)
set_option maxHeartbeats 4000000 in
set_option maxRecDepth 100000 in
theorem c_X2_takeFromAny (l : Launch) (K : KT) (o : Nat) (N : Int → Int) (gd un : Int) (r_gd : 0 ≤ gd ∧ gd < 8) (r_un : 0 ≤ un ∧ un ≤ 600000) (hI0 : In0 N) (hKc : InK N) (hz : ∀ l : Int, N 4 ≤ l → l < 5 → N (64 + 8 * l + gd) = 0 ∧ N (24 + 8 * l + gd) = 0) : CtV l yX2_takeFromAny cX2_takeFromAny 4 2 49 K [.ref (o + 3), .int (iI gd), .int (iI un)] (shipW K o N) (Blk o 21) (fun (u : Int → Int) => u = (losF 10 N gd un).1) (fun u => shipW K o u) := by
  refine CtV_of (by decide) (Nat.le_of_ble_eq_true rfl) ?_
  intro p e s m args below meth c T hr hk hP hK ls hl
  have T : CF p m c cX2_takeFromAny 4 s args RX2 := T
  have hS : va_S (Blk o 21) s.heap s.heap [] := va_S.rf
  have hl : lv_has ls 4 [(0, .ref (o + 3)), (1, .int (iI gd)), (2, .int (iI un))] := hl
  obtain ⟨b0, b1, b2, b3, b4, b5, b6, b7, b8, b9⟩ := id hI0
  refine lv_aload_n T.1 T.2.1 dX2_takeFromAny_0 rfl (lv_at hl 0 rfl) ?_
  refine lv_aload_n T.1 T.2.1 dX2_takeFromAny_1 rfl (lv_at hl 0 rfl) ?_
  refine g2_missing T hK hP 3 rfl rfl mw_1_43 dX2_takeFromAny_2 ?_
  refine lv_iload_n T.1 T.2.1 dX2_takeFromAny_5 rfl (lv_at hl 1 rfl) ?_
  refine lv_iload_n T.1 T.2.1 dX2_takeFromAny_6 rfl (lv_at hl 2 rfl) ?_
  refine cI_V T hK hP hS 3 rfl rfl rfl (c_X2_takeLowestFirst_m l K o N gd un (by omega) (by omega) (by omega) (by omega)) iX2_takeLowestFirst mw_3_10 ⟨Nat.le_of_ble_eq_true rfl, Nat.le_of_ble_eq_true rfl⟩ hP (fun _ h => h) rfl hl.1 rfl (Nat.le_of_ble_eq_true rfl) ⟨Nat.zero_le _, Nat.zero_le _⟩ dX2_takeFromAny_7 (fun zr Na H1 locs q1 hP1 hg1 hg2 hS => ?_)
  have hP : xP K (shipW K o Na) H1 := hP1
  generalize H1 = H at hP hS ⊢
  clear hg1 hg2 hP1
  obtain ⟨hzr, hNa⟩ := q1
  have hlo := loS_all (b := 64) (Or.inr rfl) (N 4).toNat (by omega) r_gd r_un.1 hKc
  have h4a : Na 4 = N 4 := by rw [hNa, loS_ne _ fun j a b => by omega]
  rw [← hNa, ← hzr] at hlo
  refine lv_istore_n (lv' := [(3, .int (iI zr)), (0, .ref (o + 3)), (1, .int (iI gd)), (2, .int (iI un))]) T.1 T.2.1 dX2_takeFromAny_10 rfl hl (by decide) rfl (fun ls hl => ?_)
  refine lv_aload_n T.1 T.2.1 dX2_takeFromAny_11 rfl (lv_at hl 1 rfl) ?_
  refine lv_aload_n T.1 T.2.1 dX2_takeFromAny_12 rfl (lv_at hl 1 rfl) ?_
  refine g2_units T hK hP 3 rfl rfl mw_1_40 dX2_takeFromAny_13 ?_
  refine lv_iload_n T.1 T.2.1 dX2_takeFromAny_16 rfl (lv_at hl 2 rfl) ?_
  refine lv_iload_n T.1 T.2.1 dX2_takeFromAny_17 rfl (lv_at hl 0 rfl) ?_
  refine cI_V T hK hP hS 3 rfl rfl rfl (c_X2_takeLowestFirst_u l K o Na gd zr (by omega) (by omega) (by rw [hNa]; exact in0_of hI0 (fun k a b c => loS_ne _ fun j d e => by omega) (by rw [loS_ne _ fun j d e => by omega]; omega)) hlo.1) iX2_takeLowestFirst mw_3_10 ⟨Nat.le_of_ble_eq_true rfl, Nat.le_of_ble_eq_true rfl⟩ hP (fun _ h => h) rfl hl.1 rfl (Nat.le_of_ble_eq_true rfl) ⟨Nat.zero_le _, Nat.zero_le _⟩ dX2_takeFromAny_18 (fun zs Nb H1 locs q2 hP1 hg1 hg2 hS => ?_)
  have hP : xP K (shipW K o Nb) H1 := hP1
  generalize H1 = H at hP hS ⊢
  clear hg1 hg2 hP1
  obtain ⟨-, hNb⟩ := q2
  refine lv_pop T.1 T.2.1 dX2_takeFromAny_21 rfl ?_
  exact rV T (u := Nb) hr hk hK hP hS dX2_takeFromAny_22 (by rw [losF_cls hKc b4 r_gd r_un.1 hz, hNb, h4a, hNa, hzr])
set_option maxHeartbeats 4000000 in
set_option maxRecDepth 100000 in
theorem c_X6_runOutBonds (l : Launch) (K : KT) (o : Nat) (N : Int → Int) (hR : InR N) (hKc : InK N) (hz : ∀ l g : Int, N 4 ≤ l → l < 5 → 0 ≤ g → g < 8 → N (64 + 8 * l + g) = 0 ∧ N (24 + 8 * l + g) = 0) : CtL l yX6_runOutBonds cX6_runOutBonds 9 3 72 K [.ref o] (shipW K o N) (Blk o 21) (fun (z : Int) (u : Int → Int) => z = (roF 61 N).2 ∧ u = (roF 61 N).1) (fun u => shipW K o u) := by
  refine CtL_of (by decide) (Nat.le_of_ble_eq_true rfl) ?_
  intro p e s m args below meth c T hr hk hP hK ls hl
  have T : CF p m c cX6_runOutBonds 9 s args RX6 := T
  have hS : va_S (Blk o 21) s.heap s.heap [] := va_S.rf
  have hl : lv_has ls 9 [(0, .ref o)] := hl
  obtain ⟨hI0, hIB⟩ := id hR
  obtain ⟨b0, b1, b2, b3, b4, b5, b6, b7, b8, b9⟩ := id hI0
  refine xv_lconst T (z := 0) dX6_runOutBonds_0 rfl ?_
  refine lv_lstore_n (lv' := [(1, .long (lI 0)), (0, .ref o)]) T.1 T.2.1 dX6_runOutBonds_1 rfl hl (by decide) rfl (fun ls hl => ?_)
  refine xv_iconst T dX6_runOutBonds_2 ?_
  refine lv_istore_n (lv' := [(3, .int (iI 0)), (1, .long (lI 0)), (0, .ref o)]) T.1 T.2.1 dX6_runOutBonds_3 rfl hl (by decide) rfl (fun ls hl => ?_)
  have lp4 : ∀ (fuel : Nat) (acc : Int) (i : Int) (NL : Int → Int) (H : Heap) (locs : List Loc) (ls : Array Slot), (0 ≤ i ∧ i ≤ N 6) → (InR NL) → (InK NL) → (∀ l g : Int, N 4 ≤ l → l < 5 → 0 ≤ g → g < 8 → NL (64 + 8 * l + g) = 0 ∧ NL (24 + 8 * l + g) = 0) → (NL 4 = N 4 ∧ NL 6 = N 6) → (livF NL ≤ N 6 - i) → (∃ n : Nat, livF NL < (n : Int) ∧ roF 61 N = ((roF n NL).1, acc + (roF n NL).2)) → N 6 - i < (fuel : Int) → xP K (shipW K o NL) H → va_S (Blk o 21) s.heap H locs → lv_has ls 9 [(0, .ref o), (1, .long (lI acc)), (3, .int (iI i))] → W p l e (rmF 3 72) s m args below meth c H locs 0 0 (MQ below (qL K (fun (z : Int) (u : Int → Int) => z = (roF 61 N).2 ∧ u = (roF 61 N).1) (fun u => shipW K o u) (Blk o 21)) args s 0 0 (Blk o 21)) (F0 m 4 ls []) := by
    intro fuel
    induction fuel with
    | zero =>
      intro acc i NL H locs ls hi hRL hKL hzL h46 hliv hq hm hP hS hl
      exact absurd hm (by omega)
    | succ fuel ih4 =>
      intro acc i NL H locs ls hi hRL hKL hzL h46 hliv hq hm hP hS hl
      obtain ⟨n, hn, hq⟩ := hq
      obtain ⟨c0, c1, c2, c3, c4, c5, c6, c7, c8, c9⟩ := id hRL.1
      have jn134 : ∀ (H : Heap) (locs : List Loc) (ls : Array Slot), (roF 61 N = (NL, acc)) → xP K (shipW K o NL) H → va_S (Blk o 21) s.heap H locs → lv_has ls 9 [(0, .ref o), (1, .long (lI acc))] → W p l e (rmF 3 72) s m args below meth c H locs 0 0 (MQ below (qL K (fun (z : Int) (u : Int → Int) => z = (roF 61 N).2 ∧ u = (roF 61 N).1) (fun u => shipW K o u) (Blk o 21)) args s 0 0 (Blk o 21)) (F0 m 134 ls []) := by
        intro  H locs ls hend hP hS hl
        refine lv_lload_n T.1 T.2.1 dX6_runOutBonds_134 rfl (lv_at hl 1 rfl) ?_
        exact rL T (u := NL) hr hk hK hP hS dX6_runOutBonds_135 (by rw [hend]; exact ⟨rfl, rfl⟩)
      refine lv_iload_n T.1 T.2.1 dX6_runOutBonds_4 rfl (lv_at hl 2 rfl) ?_
      refine lv_aload_n T.1 T.2.1 dX6_runOutBonds_5 rfl (lv_at hl 0 rfl) ?_
      refine g6_bonds T hK hP 0 rfl rfl mw_1_155 dX6_runOutBonds_6 ?_
      refine g0_number T hK hP 12 rfl (v := .int (iI (NL 6))) rfl mw_1_89 dX6_runOutBonds_9 ?_
      refine xv_icmp_ge T (by omega) (tgt := 134) dX6_runOutBonds_12 (by decide) (fun c1 => ?_) (fun c1 => ?_)
      · skip
        exact jn134  _ _ ls (by rw [hq, roF_0 (by first | omega | (rw [← hbz.2]; omega) | (have h7 := livF_no (N := NL) (by omega); omega))]; simp) hP hS (lv_sub hl [0, 1] rfl)
      · skip
        refine lv_aload_n T.1 T.2.1 dX6_runOutBonds_15 rfl (lv_at hl 0 rfl) ?_
        refine g6_bonds T hK hP 0 rfl rfl mw_1_155 dX6_runOutBonds_16 ?_
        refine xv_iconst T dX6_runOutBonds_19 ?_
        refine xv_iconst T dX6_runOutBonds_20 ?_
        refine cI_V T hK hP hS 12 rfl rfl rfl (c_X0_nextAfter l K o NL (-1) (-1) (by omega) (by omega) hRL) iX0_nextAfter mw_3_4 ⟨Nat.le_of_ble_eq_true rfl, Nat.le_of_ble_eq_true rfl⟩ hP noA rfl hl.1 rfl (Nat.le_of_ble_eq_true rfl) ⟨Nat.zero_le _, Nat.zero_le _⟩ dX6_runOutBonds_21 (fun bz _ H1 locs qz hP1 hg1 hg2 hS => ?_)
        have hP := xP_kept hP hg2
        generalize H1 = H at hP hS ⊢
        clear hg1 hg2 hP1
        have hno := nxC_or NL (-1) (-1)
        rw [← qz] at hno
        refine lv_istore (lv' := [(4, .int (iI bz)), (0, .ref o), (1, .long (lI acc)), (3, .int (iI i))]) T.1 T.2.1 dX6_runOutBonds_24 hl (by decide) rfl (fun ls hl => ?_)
        refine lv_iload T.1 T.2.1 dX6_runOutBonds_26 (lv_at hl 0 rfl) ?_
        refine xv_iconst T dX6_runOutBonds_28 ?_
        refine xv_icmp_eq T (by omega) (tgt := 134) dX6_runOutBonds_29 (by decide) (fun c2 => ?_) (fun c2 => ?_)
        · skip
          exact jn134  _ _ ls (by rw [hq, roF_0 (by first | omega | (rw [← hbz.2]; omega) | (have h7 := livF_no (N := NL) (by omega); omega))]; simp) hP hS (lv_sub hl [1, 2] rfl)
        · skip
          have hbz : (0 ≤ bz ∧ bz < NL 6) ∧ bz = nxt NL (-1) (-1) := by omega
          have hf := hRL.2 bz (by omega) (by omega)
          have hps := isNx_pos (nxt_is NL (-1) (-1)) (by omega)
          rw [← hbz.2] at hps
          refine lv_aload_n T.1 T.2.1 dX6_runOutBonds_32 rfl (lv_at hl 1 rfl) ?_
          refine g6_bonds T hK hP 0 rfl rfl mw_1_155 dX6_runOutBonds_33 ?_
          refine g0_due T hK hP 12 rfl rfl mw_1_105 dX6_runOutBonds_36 ?_
          refine lv_iload T.1 T.2.1 dX6_runOutBonds_39 (lv_at hl 0 rfl) ?_
          refine xa_iald T hK hP 17 rfl rfl (392 + bz) (by omega) (by omega) (by decide) dX6_runOutBonds_41 ?_
          refine lv_aload_n T.1 T.2.1 dX6_runOutBonds_42 rfl (lv_at hl 1 rfl) ?_
          refine g6_day T hK hP 0 rfl (v := .int (iI (NL 1))) rfl mw_1_144 dX6_runOutBonds_43 ?_
          refine xv_icmp_lt T (by omega) (tgt := 52) dX6_runOutBonds_46 (by decide) (fun c3 => ?_) (fun c3 => ?_)
          · skip
            refine lv_aload_n T.1 T.2.1 dX6_runOutBonds_52 rfl (lv_at hl 1 rfl) ?_
            refine g6_bonds T hK hP 0 rfl rfl mw_1_155 dX6_runOutBonds_53 ?_
            refine g0_good T hK hP 12 rfl rfl mw_1_95 dX6_runOutBonds_56 ?_
            refine lv_iload T.1 T.2.1 dX6_runOutBonds_59 (lv_at hl 0 rfl) ?_
            refine xa_iald T hK hP 13 rfl rfl (152 + bz) (by omega) (by omega) (by decide) dX6_runOutBonds_61 ?_
            refine lv_istore (lv' := [(5, .int (iI (NL (152 + bz)))), (4, .int (iI bz)), (0, .ref o), (1, .long (lI acc)), (3, .int (iI i))]) T.1 T.2.1 dX6_runOutBonds_62 hl (by decide) rfl (fun ls hl => ?_)
            refine lv_aload_n T.1 T.2.1 dX6_runOutBonds_64 rfl (lv_at hl 2 rfl) ?_
            refine g6_bonds T hK hP 0 rfl rfl mw_1_155 dX6_runOutBonds_65 ?_
            refine g0_left T hK hP 12 rfl rfl mw_1_100 dX6_runOutBonds_68 ?_
            refine lv_iload T.1 T.2.1 dX6_runOutBonds_71 (lv_at hl 1 rfl) ?_
            refine xa_iald T hK hP 15 rfl rfl (272 + bz) (by omega) (by omega) (by decide) dX6_runOutBonds_73 ?_
            refine lv_istore (lv' := [(6, .int (iI (NL (272 + bz)))), (5, .int (iI (NL (152 + bz)))), (4, .int (iI bz)), (0, .ref o), (1, .long (lI acc)), (3, .int (iI i))]) T.1 T.2.1 dX6_runOutBonds_74 hl (by decide) rfl (fun ls hl => ?_)
            refine lv_aload_n T.1 T.2.1 dX6_runOutBonds_76 rfl (lv_at hl 3 rfl) ?_
            refine g6_bonds T hK hP 0 rfl rfl mw_1_155 dX6_runOutBonds_77 ?_
            refine lv_iload T.1 T.2.1 dX6_runOutBonds_80 (lv_at hl 2 rfl) ?_
            refine cL_V T hK hP hS 12 rfl rfl rfl (c_X0_held l K o NL bz (by omega) hRL) iX0_held mw_3_5 ⟨Nat.le_of_ble_eq_true rfl, Nat.le_of_ble_eq_true rfl⟩ hP noA rfl hl.1 rfl (Nat.le_of_ble_eq_true rfl) ⟨Nat.zero_le _, Nat.zero_le _⟩ dX6_runOutBonds_82 (fun z4 _ H1 locs q5 hP1 hg1 hg2 hS => ?_)
            have hP := xP_kept hP hg2
            generalize H1 = H at hP hS ⊢
            clear hg1 hg2 hP1
            obtain rfl : z4 = NL (272 + bz) * NL (332 + bz) := q5
            refine lv_lstore (lv' := [(7, .long (lI (NL (272 + bz) * NL (332 + bz)))), (6, .int (iI (NL (272 + bz)))), (5, .int (iI (NL (152 + bz)))), (4, .int (iI bz)), (0, .ref o), (1, .long (lI acc)), (3, .int (iI i))]) T.1 T.2.1 dX6_runOutBonds_85 hl (by decide) rfl (fun ls hl => ?_)
            refine lv_aload_n T.1 T.2.1 dX6_runOutBonds_87 rfl (lv_at hl 4 rfl) ?_
            refine g6_bonds T hK hP 0 rfl rfl mw_1_155 dX6_runOutBonds_88 ?_
            refine g0_left T hK hP 12 rfl rfl mw_1_100 dX6_runOutBonds_91 ?_
            refine lv_iload T.1 T.2.1 dX6_runOutBonds_94 (lv_at hl 3 rfl) ?_
            refine xv_iconst T dX6_runOutBonds_96 ?_
            refine xa_iast T hK hP (ship_D K o NL) hS 15 rfl rfl (by omega) (by decide) dX6_runOutBonds_97 (su_a272 K o NL (i := 272 + bz) 0 (by omega) (by omega)) (fun H locs hP hS => ?_)
            obtain ⟨N0, hN0⟩ : ∃ Y0 : Int → Int, Y0 = uZ NL (272 + bz) 0 := ⟨_, rfl⟩
            have hP : xP K (shipW K o N0) H := by rw [hN0]; exact hP
            refine lv_aload_n T.1 T.2.1 dX6_runOutBonds_98 rfl (lv_at hl 4 rfl) ?_
            refine g6_releases T hK hP 0 rfl rfl mw_1_157 dX6_runOutBonds_99 ?_
            refine lv_iload T.1 T.2.1 dX6_runOutBonds_102 (lv_at hl 2 rfl) ?_
            refine xv_iconst T dX6_runOutBonds_104 ?_
            refine lv_iload T.1 T.2.1 dX6_runOutBonds_105 (lv_at hl 1 rfl) ?_
            refine lv_lload T.1 T.2.1 dX6_runOutBonds_107 (lv_at hl 0 rfl) ?_
            refine cV_V T hK hP hS 18 rfl rfl rfl (c_X4_add l K o N0 (NL (152 + bz)) 3 (NL (272 + bz)) (NL (272 + bz) * NL (332 + bz)) (by omega) (by omega)) iX4_add mw_2_168 ⟨Nat.le_of_ble_eq_true rfl, Nat.le_of_ble_eq_true rfl⟩ hP (fun _ h => h) rfl hl.1 rfl (Nat.le_of_ble_eq_true rfl) ⟨Nat.zero_le _, Nat.zero_le _⟩ dX6_runOutBonds_109 (fun Nr H1 locs qr hP1 hg1 hg2 hS => ?_)
            have hP : xP K (shipW K o Nr) H1 := hP1
            generalize H1 = H at hP hS ⊢
            clear hg1 hg2 hP1
            have hNt : Nr = takeF NL bz (NL (272 + bz)) 3 := by rw [qr, hN0]; exact rad_take (by omega) (by omega)
            clear qr
            obtain ⟨Nt, hNte⟩ : ∃ M : Int → Int, M = Nr := ⟨_, rfl⟩
            rw [← hNte] at hP hNt
            have hRt : InR Nt := by rw [hNt]; exact takeF_R hRL hbz.1 (by omega) (by omega)
            have hKt : InK Nt := by rw [hNt]; exact inK_of hKL fun k a b => takeF_ne (by omega) (by omega) (by omega)
            have h4t : Nt 4 = NL 4 := by rw [hNt, takeF_ne (by omega) (by omega) (by omega)]
            have hzt : ∀ l g : Int, N 4 ≤ l → l < 5 → 0 ≤ g → g < 8 → Nt (64 + 8 * l + g) = 0 ∧ Nt (24 + 8 * l + g) = 0 := fun l g a b c d => by rw [hNt, takeF_ne (by omega) (by omega) (by omega), takeF_ne (by omega) (by omega) (by omega)]; exact hzL l g a b c d
            refine lv_aload_n T.1 T.2.1 dX6_runOutBonds_112 rfl (lv_at hl 4 rfl) ?_
            refine g6_lockers T hK hP 0 rfl rfl mw_1_151 dX6_runOutBonds_113 ?_
            refine lv_iload T.1 T.2.1 dX6_runOutBonds_116 (lv_at hl 2 rfl) ?_
            refine lv_iload T.1 T.2.1 dX6_runOutBonds_118 (lv_at hl 1 rfl) ?_
            refine cV_V T hK hP hS 3 rfl rfl rfl (c_X2_takeFromAny l K o Nt (NL (152 + bz)) (NL (272 + bz)) (by omega) (by omega) hRt.1 hKt (fun l a b => hzt l (NL (152 + bz)) (by omega) b (by omega) (by omega))) iX2_takeFromAny mw_3_6 ⟨Nat.le_of_ble_eq_true rfl, Nat.le_of_ble_eq_true rfl⟩ hP (fun _ h => h) rfl hl.1 rfl (Nat.le_of_ble_eq_true rfl) ⟨Nat.zero_le _, Nat.zero_le _⟩ dX6_runOutBonds_120 (fun Nd H1 locs hNd hP1 hg1 hg2 hS => ?_)
            have hP : xP K (shipW K o Nd) H1 := hP1
            generalize H1 = H at hP hS ⊢
            clear hg1 hg2 hP1
            refine lv_lload_n T.1 T.2.1 dX6_runOutBonds_123 rfl (lv_at hl 5 rfl) ?_
            refine lv_lload T.1 T.2.1 dX6_runOutBonds_124 (lv_at hl 0 rfl) ?_
            refine xv_ladd T dX6_runOutBonds_126 ?_
            refine lv_lstore_n (lv' := [(1, .long (lI (acc + (NL (272 + bz) * NL (332 + bz))))), (7, .long (lI (NL (272 + bz) * NL (332 + bz)))), (6, .int (iI (NL (272 + bz)))), (5, .int (iI (NL (152 + bz)))), (4, .int (iI bz)), (0, .ref o), (3, .int (iI i))]) T.1 T.2.1 dX6_runOutBonds_127 rfl hl (by decide) rfl (fun ls hl => ?_)
            refine xv_iinc T (y := i + 1) (lv' := [(3, .int (iI (i + 1))), (1, .long (lI (acc + (NL (272 + bz) * NL (332 + bz))))), (7, .long (lI (NL (272 + bz) * NL (332 + bz)))), (6, .int (iI (NL (272 + bz)))), (5, .int (iI (NL (152 + bz)))), (4, .int (iI bz)), (0, .ref o)]) dX6_runOutBonds_128 hl (q := 6) rfl (by omega) (by decide) rfl (fun ls hl => ?_)
            refine lv_goto T.1 T.2.1 (tgt := 4) dX6_runOutBonds_131 (by decide) ?_
            have hlv := (livF_in (N := NL) (by omega)).1
            obtain ⟨n, rfl⟩ : ∃ k : Nat, n = k + 1 := ⟨n - 1, by omega⟩
            have hst := stp_f hRL (by omega)
            have hTK : stpF NL = Nd := by unfold stpF; rw [← hbz.2, hNd, hNt]
            rw [hTK] at hst
            exact ih4 (acc + (NL (272 + bz) * NL (332 + bz))) (i + 1) Nd _ _ ls (by omega) hst.1 (by rw [hNd]; exact (losF_K 10 (by omega) (by omega) (by omega) hKt).1) (fun l g a b c d => by rw [hNd]; exact losF_Z (by omega) (by omega) hKt (fun l2 a2 b2 => hzt l2 (NL (152 + bz)) a2 b2 (by omega) (by omega)) (hzt l g a b c d) a b c d) (by rw [hNd, losF_ne 10 (by omega) (by omega) (by omega), losF_ne 10 (by omega) (by omega) (by omega), hNt, takeF_ne (by omega) (by omega) (by omega), takeF_ne (by omega) (by omega) (by omega)]; exact h46) (by rw [hst.2.2]; omega) ⟨n, by rw [hst.2.2]; omega, by rw [hq, roF_s (by rw [← hbz.2]; omega), ← hbz.2, hNd, hNt, Int.add_assoc]⟩ (by omega) hP hS (lv_sub hl [6, 1, 0] rfl)
          · skip
            refine lv_goto T.1 T.2.1 (tgt := 134) dX6_runOutBonds_49 (by decide) ?_
            exact jn134  _ _ ls (by rw [hq, roF_0 (by first | omega | (rw [← hbz.2]; omega) | (have h7 := livF_no (N := NL) (by omega); omega))]; simp) hP hS (lv_sub hl [1, 2] rfl)
  exact lp4 61 0 0 N _ _ ls (by omega) hR hKc hz ⟨rfl, rfl⟩ (by have := (livF_in (N := N) (by omega)).2; omega) ⟨61, by have := (livF_in (N := N) (by omega)).2; omega, by simp⟩ (by omega) hP hS (lv_sub hl [2, 1, 0] rfl)
set_option maxHeartbeats 4000000 in
set_option maxRecDepth 100000 in
theorem c_X6_passDays (l : Launch) (K : KT) (o : Nat) (N : Int → Int) (dy : Int) (r_dy : -2147483648 ≤ dy ∧ dy ≤ 2147483647) (hI : Inv N) : CtI l yX6_passDays cX6_passDays 2 .int 4 100 K [.ref o, .int (iI dy)] (shipW K o N) (Blk o 21) (fun (z : Int) (u : Int → Int) => (z, u) = sPass N dy) (fun u => shipW K o u) := by
  refine CtI_of (by decide) (Nat.le_of_ble_eq_true rfl) ?_
  intro p e s m args below meth c T hr hk hP hK ls hl
  have T : CF p m c cX6_passDays 2 s args RX6 := T
  have hS : va_S (Blk o 21) s.heap s.heap [] := va_S.rf
  have hl : lv_has ls 2 [(0, .ref o), (1, .int (iI dy))] := hl
  obtain ⟨hI0, hIL, hIH, hIB, hID, hIC, hIG, hIZ, hIF⟩ := id hI
  have hR : InR N := ⟨hI0, hIB⟩
  obtain ⟨b0, b1, b2, b3, b4, b5, b6, b7, b8, b9⟩ := id hI0
  refine lv_iload_n T.1 T.2.1 dX6_passDays_0 rfl (lv_at hl 1 rfl) ?_
  refine xv_iconst T dX6_passDays_1 ?_
  refine xv_icmp_lt T (by omega) (tgt := 11) dX6_passDays_2 (by decide) (fun c1 => ?_) (fun c1 => ?_)
  · skip
    refine xv_iconst T dX6_passDays_11 ?_
    exact rI T (u := N) hr hk hK hP hS dX6_passDays_12 (by skip; unfold sPass; (repeat' split) <;> first | (exfalso; omega) | rfl)
  · skip
    refine lv_iload_n T.1 T.2.1 dX6_passDays_5 rfl (lv_at hl 1 rfl) ?_
    refine xv_bipush T dX6_passDays_6 (by omega) ?_
    refine xv_icmp_le T (by omega) (tgt := 13) dX6_passDays_8 (by decide) (fun c2 => ?_) (fun c2 => ?_)
    · skip
      refine lv_aload_n T.1 T.2.1 dX6_passDays_13 rfl (lv_at hl 0 rfl) ?_
      refine g6_day T hK hP 0 rfl (v := .int (iI (N 1))) rfl mw_1_144 dX6_passDays_14 ?_
      refine lv_iload_n T.1 T.2.1 dX6_passDays_17 rfl (lv_at hl 1 rfl) ?_
      refine xv_iadd T dX6_passDays_18 ?_
      refine xv_sipush T dX6_passDays_19 (by omega) ?_
      refine xv_icmp_le T (by omega) (tgt := 28) dX6_passDays_22 (by decide) (fun c3 => ?_) (fun c3 => ?_)
      · skip
        refine lv_aload_n T.1 T.2.1 dX6_passDays_28 rfl (lv_at hl 0 rfl) ?_
        refine lv_dup T.1 T.2.1 dX6_passDays_29 rfl ?_
        refine g6_day T hK hP 0 rfl (v := .int (iI (N 1))) rfl mw_1_144 dX6_passDays_30 ?_
        refine lv_iload_n T.1 T.2.1 dX6_passDays_33 rfl (lv_at hl 1 rfl) ?_
        refine xv_iadd T dX6_passDays_34 ?_
        refine p6_day T hK hP (ship_D K o N) hS 0 rfl (Nat.le_of_ble_eq_true rfl) mw_1_144 dX6_passDays_35 (su_f1 K o N (N 1 + dy)) (fun H locs hP hS => ?_)
        obtain ⟨Na, hNa⟩ : ∃ Y0 : Int → Int, Y0 = uZ N 1 (N 1 + dy) := ⟨_, rfl⟩
        have hP : xP K (shipW K o Na) H := by rw [hNa]; exact hP
        refine lv_aload_n T.1 T.2.1 dX6_passDays_38 rfl (lv_at hl 0 rfl) ?_
        refine cL_V T hK hP hS 0 rfl rfl rfl (c_X6_runOutBonds l K o Na (by rw [hNa]; exact inR_day hR (by omega)) (by rw [hNa]; exact inK_of (inK_inv hI) fun k a b => uZ_ne (by omega)) (fun l g a b c d => by rw [hNa, uZ_ne (by omega)] at a; rw [hNa, uZ_ne (by omega), uZ_ne (by omega)]; have h9 := (hIH l g (by omega) b c d).2.2 a; exact ⟨h9.2, h9.1⟩)) iX6_runOutBonds mw_3_0 ⟨Nat.le_of_ble_eq_true rfl, Nat.le_of_ble_eq_true rfl⟩ hP (fun _ h => h) rfl hl.1 rfl (Nat.le_of_ble_eq_true rfl) ⟨Nat.zero_le _, Nat.zero_le _⟩ dX6_passDays_39 (fun zr Nb H1 locs q1 hP1 hg1 hg2 hS => ?_)
        have hP : xP K (shipW K o Nb) H1 := hP1
        generalize H1 = H at hP hS ⊢
        clear hg1 hg2 hP1
        obtain ⟨hzr, hNb⟩ := q1
        refine xv_l2i T dX6_passDays_42 ?_
        exact rI T (u := Nb) hr hk hK hP hS dX6_passDays_43 (by rw [hzr, hNb, hNa]; unfold sPass; rw [if_neg (by omega), if_neg (by omega), dayF_one hR (by omega) (by omega)])
      · skip
        refine xv_bipush T dX6_passDays_25 (by omega) ?_
        exact rI T (u := N) hr hk hK hP hS dX6_passDays_27 (by skip; unfold sPass; (repeat' split) <;> first | (exfalso; omega) | rfl)
    · skip
      refine xv_iconst T dX6_passDays_11 ?_
      exact rI T (u := N) hr hk hK hP hS dX6_passDays_12 (by skip; unfold sPass; (repeat' split) <;> first | (exfalso; omega) | rfl)
