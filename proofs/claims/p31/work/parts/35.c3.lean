set_option maxHeartbeats 4000000 in
set_option maxRecDepth 100000 in
theorem c_X0_amountOf_0 (l : Launch) (K : KT) (o : Nat) (N : Int → Int) (gd un : Int) (r_gd : 0 ≤ gd ∧ gd < 8) (r_un : 0 ≤ un ∧ un ≤ 600000) (hR : InR N) : CtL l yX0_amountOf cX0_amountOf 10 1 29 K [.ref (o + 12), .int (iI gd), .int (iI un), .int (iI 0)] (shipW K o N) (NoA) (fun (z : Int) (_ : Unit) => z = (worF un.toNat N gd (-1) un).1) (fun _ => shipW K o N) := by
  refine CtL_of (by decide) (Nat.le_of_ble_eq_true rfl) ?_
  intro p e s m args below meth c T hr hk hP hK ls hl
  have T : CF p m c cX0_amountOf 10 s args RX0 := T
  have hS : va_S (NoA) s.heap s.heap [] := va_S.rf
  have hl : lv_has ls 10 [(0, .ref (o + 12)), (1, .int (iI gd)), (2, .int (iI un)), (3, .int (iI 0))] := hl
  obtain ⟨hI0, hIB⟩ := id hR
  obtain ⟨b0, b1, b2, b3, b4, b5, b6, b7, b8, b9⟩ := id hI0
  refine xv_lconst T (z := 0) dX0_amountOf_0 rfl ?_
  refine lv_lstore (lv' := [(4, .long (lI 0)), (0, .ref (o + 12)), (1, .int (iI gd)), (2, .int (iI un)), (3, .int (iI 0))]) T.1 T.2.1 dX0_amountOf_1 hl (by decide) rfl (fun ls hl => ?_)
  refine lv_iload_n T.1 T.2.1 dX0_amountOf_3 rfl (lv_at hl 3 rfl) ?_
  refine lv_istore (lv' := [(6, .int (iI un)), (4, .long (lI 0)), (0, .ref (o + 12)), (1, .int (iI gd)), (2, .int (iI un)), (3, .int (iI 0))]) T.1 T.2.1 dX0_amountOf_4 hl (by decide) rfl (fun ls hl => ?_)
  refine xv_iconst T dX0_amountOf_6 ?_
  refine lv_istore (lv' := [(7, .int (iI (-1))), (6, .int (iI un)), (4, .long (lI 0)), (0, .ref (o + 12)), (1, .int (iI gd)), (2, .int (iI un)), (3, .int (iI 0))]) T.1 T.2.1 dX0_amountOf_7 hl (by decide) rfl (fun ls hl => ?_)
  refine xv_iconst T dX0_amountOf_9 ?_
  refine lv_istore (lv' := [(8, .int (iI 0)), (7, .int (iI (-1))), (6, .int (iI un)), (4, .long (lI 0)), (0, .ref (o + 12)), (1, .int (iI gd)), (2, .int (iI un)), (3, .int (iI 0))]) T.1 T.2.1 dX0_amountOf_10 hl (by decide) rfl (fun ls hl => ?_)
  have lp12 : ∀ (fuel : Nat) (acc : Int) (rest : Int) (bd : Int) (i : Int) (H : Heap) (locs : List Loc) (ls : Array Slot), (0 ≤ i ∧ i ≤ N 6) → (0 ≤ rest ∧ rest ≤ 600000) → (bd = -1 ∨ (0 ≤ bd ∧ bd < N 6)) → (cF N gd bd ≤ N 6 - i) → (∃ n : Nat, rest ≤ (n : Int) ∧ worF un.toNat N gd (-1) un = (acc + (worF n N gd bd rest).1, (worF n N gd bd rest).2)) → N 6 - i < (fuel : Int) → xP K (shipW K o N) H → va_S (NoA) s.heap H locs → lv_has ls 10 [(0, .ref (o + 12)), (1, .int (iI gd)), (2, .int (iI un)), (3, .int (iI 0)), (4, .long (lI acc)), (6, .int (iI rest)), (7, .int (iI bd)), (8, .int (iI i))] → W p l e (rmF 1 29) s m args below meth c H locs 0 0 (MQ below (qL K (fun (z : Int) (_ : Unit) => z = (worF un.toNat N gd (-1) un).1) (fun _ => shipW K o N) (NoA)) args s 0 0 (NoA)) (F0 m 12 ls []) := by
    intro fuel
    induction fuel with
    | zero =>
      intro acc rest bd i H locs ls hi hr0 hbd hc hq hm hP hS hl
      exact absurd hm (by omega)
    | succ fuel ih12 =>
      intro acc rest bd i H locs ls hi hr0 hbd hc hq hm hP hS hl
      obtain ⟨n, hn, hq⟩ := hq
      have jn104 : ∀ (H : Heap) (locs : List Loc) (ls : Array Slot), ((worF un.toNat N gd (-1) un).1 = acc) → xP K (shipW K o N) H → va_S (NoA) s.heap H locs → lv_has ls 10 [(0, .ref (o + 12)), (4, .long (lI acc))] → W p l e (rmF 1 29) s m args below meth c H locs 0 0 (MQ below (qL K (fun (z : Int) (_ : Unit) => z = (worF un.toNat N gd (-1) un).1) (fun _ => shipW K o N) (NoA)) args s 0 0 (NoA)) (F0 m 104 ls []) := by
        intro  H locs ls hend hP hS hl
        refine lv_lload T.1 T.2.1 dX0_amountOf_104 (lv_at hl 1 rfl) ?_
        exact rL T (u := ()) hr hk hK hP hS dX0_amountOf_106 (hend.symm)
      refine lv_iload T.1 T.2.1 dX0_amountOf_12 (lv_at hl 7 rfl) ?_
      refine lv_aload_n T.1 T.2.1 dX0_amountOf_14 rfl (lv_at hl 0 rfl) ?_
      refine g0_number T hK hP 12 rfl (v := .int (iI (N 6))) rfl mw_1_87 dX0_amountOf_15 ?_
      refine xv_icmp_ge T (by omega) (tgt := 104) dX0_amountOf_18 (by decide) (fun c1 => ?_) (fun c1 => ?_)
      · skip
        exact jn104  _ _ ls (by rw [hq, worF_0 (by first | omega | (have := cF_0 (N := N) (g := gd) (p := bd) (by omega); omega))]; exact Int.add_zero acc) hP hS (lv_sub hl [0, 4] rfl)
      · skip
        refine lv_iload T.1 T.2.1 dX0_amountOf_21 (lv_at hl 5 rfl) ?_
        refine xv_if_le T (by omega) (tgt := 104) dX0_amountOf_23 (by decide) (fun c2 => ?_) (fun c2 => ?_)
        · skip
          exact jn104  _ _ ls (by rw [hq, worF_0 (by first | omega | (have := cF_0 (N := N) (g := gd) (p := bd) (by omega); omega))]; exact Int.add_zero acc) hP hS (lv_sub hl [0, 4] rfl)
        · skip
          refine lv_aload_n T.1 T.2.1 dX0_amountOf_26 rfl (lv_at hl 0 rfl) ?_
          refine lv_iload_n T.1 T.2.1 dX0_amountOf_27 rfl (lv_at hl 1 rfl) ?_
          refine lv_iload T.1 T.2.1 dX0_amountOf_28 (lv_at hl 6 rfl) ?_
          refine cI_V T hK hP hS 12 rfl rfl rfl (c_X0_nextAfter l K o N gd bd (by omega) (by omega) hR) iX0_nextAfter mw_2_163 ⟨Nat.le_of_ble_eq_true rfl, Nat.le_of_ble_eq_true rfl⟩ hP noA rfl hl.1 rfl (Nat.le_of_ble_eq_true rfl) ⟨Nat.zero_le _, Nat.zero_le _⟩ dX0_amountOf_30 (fun bz _ H1 locs qz hP1 hg1 hg2 hS => ?_)
          have hP := xP_kept hP hg2
          generalize H1 = H at hP hS ⊢
          clear hg1 hg2 hP1
          have hno := nxC_or N gd bd
          rw [← qz] at hno
          refine lv_istore (lv' := [(7, .int (iI bz)), (0, .ref (o + 12)), (1, .int (iI gd)), (2, .int (iI un)), (3, .int (iI 0)), (4, .long (lI acc)), (6, .int (iI rest)), (8, .int (iI i))]) T.1 T.2.1 dX0_amountOf_33 hl (by decide) rfl (fun ls hl => ?_)
          refine lv_iload T.1 T.2.1 dX0_amountOf_35 (lv_at hl 0 rfl) ?_
          refine xv_iconst T dX0_amountOf_37 ?_
          refine xv_icmp_ne T (by omega) (tgt := 44) dX0_amountOf_38 (by decide) (fun c3 => ?_) (fun c3 => ?_)
          · skip
            have hbz : (0 ≤ bz ∧ bz < N 6) ∧ bz = nxt N gd bd := by omega
            have hf := hIB bz (by omega) (by omega)
            have hps := isNx_pos (nxt_is N gd bd) (by omega)
            rw [← hbz.2] at hps
            refine lv_iload T.1 T.2.1 dX0_amountOf_44 (lv_at hl 6 rfl) ?_
            refine lv_aload_n T.1 T.2.1 dX0_amountOf_46 rfl (lv_at hl 1 rfl) ?_
            refine g0_left T hK hP 12 rfl rfl mw_1_98 dX0_amountOf_47 ?_
            refine lv_iload T.1 T.2.1 dX0_amountOf_50 (lv_at hl 0 rfl) ?_
            refine xa_iald T hK hP 15 rfl rfl (272 + bz) (by omega) (by omega) (by decide) dX0_amountOf_52 ?_
            have f4 := hIB bz (by omega) (by omega)
            refine xv_min T mw_2_167 dX0_amountOf_53 hl.1 (Nat.le_of_ble_eq_true rfl) (Nat.le_of_ble_eq_true rfl) ⟨Nat.zero_le _, Nat.zero_le _⟩ (by omega) (fun mn hmn => ?_)
            refine lv_istore (lv' := [(9, .int (iI mn)), (7, .int (iI bz)), (0, .ref (o + 12)), (1, .int (iI gd)), (2, .int (iI un)), (3, .int (iI 0)), (4, .long (lI acc)), (6, .int (iI rest)), (8, .int (iI i))]) T.1 T.2.1 dX0_amountOf_56 hl (by decide) rfl (fun ls hl => ?_)
            refine lv_lload T.1 T.2.1 dX0_amountOf_58 (lv_at hl 6 rfl) ?_
            refine lv_iload T.1 T.2.1 dX0_amountOf_60 (lv_at hl 0 rfl) ?_
            refine xv_i2l T (by omega) dX0_amountOf_62 ?_
            refine lv_aload_n T.1 T.2.1 dX0_amountOf_63 rfl (lv_at hl 2 rfl) ?_
            refine g0_duty T hK hP 12 rfl rfl mw_1_101 dX0_amountOf_64 ?_
            refine lv_iload T.1 T.2.1 dX0_amountOf_67 (lv_at hl 1 rfl) ?_
            refine xa_iald T hK hP 16 rfl rfl (332 + bz) (by omega) (by omega) (by decide) dX0_amountOf_69 ?_
            refine xv_i2l T (by omega) dX0_amountOf_70 ?_
            refine xv_lmul T dX0_amountOf_71 ?_
            refine xv_ladd T dX0_amountOf_72 ?_
            refine lv_lstore (lv' := [(4, .long (lI (acc + (mn * (N (332 + bz)))))), (9, .int (iI mn)), (7, .int (iI bz)), (0, .ref (o + 12)), (1, .int (iI gd)), (2, .int (iI un)), (3, .int (iI 0)), (6, .int (iI rest)), (8, .int (iI i))]) T.1 T.2.1 dX0_amountOf_73 hl (by decide) rfl (fun ls hl => ?_)
            refine lv_iload T.1 T.2.1 dX0_amountOf_75 (lv_at hl 7 rfl) ?_
            refine lv_iload T.1 T.2.1 dX0_amountOf_77 (lv_at hl 1 rfl) ?_
            refine xv_isub T dX0_amountOf_79 ?_
            refine lv_istore (lv' := [(6, .int (iI (rest - mn))), (4, .long (lI (acc + (mn * (N (332 + bz)))))), (9, .int (iI mn)), (7, .int (iI bz)), (0, .ref (o + 12)), (1, .int (iI gd)), (2, .int (iI un)), (3, .int (iI 0)), (8, .int (iI i))]) T.1 T.2.1 dX0_amountOf_80 hl (by decide) rfl (fun ls hl => ?_)
            refine lv_iload_n T.1 T.2.1 dX0_amountOf_82 rfl (lv_at hl 7 rfl) ?_
            refine xv_if_eq T (by omega) (tgt := 98) dX0_amountOf_83 (by decide) (fun _ => ?_) (fun c5 => absurd c5 (by omega))
            refine xv_iinc T (y := i + 1) (lv' := [(8, .int (iI (i + 1))), (6, .int (iI (rest - mn))), (4, .long (lI (acc + (mn * (N (332 + bz)))))), (9, .int (iI mn)), (7, .int (iI bz)), (0, .ref (o + 12)), (1, .int (iI gd)), (2, .int (iI un)), (3, .int (iI 0))]) dX0_amountOf_98 hl (q := 8) rfl (by omega) (by decide) rfl (fun ls hl => ?_)
            refine lv_goto T.1 T.2.1 (tgt := 12) dX0_amountOf_101 (by decide) ?_
            obtain ⟨n, rfl⟩ : ∃ k : Nat, n = k + 1 := ⟨n - 1, by omega⟩
            have e1 := byF_of (N := N) (g := gd) (p := bd) (u := rest) (z := mn) (by rw [← hbz.2]; exact hmn)
            have hst := cF_step (N := N) (g := gd) (p := bd) (by omega)
            rw [← hbz.2] at hst
            exact ih12 (acc + (mn * (N (332 + bz)))) (rest - mn) bz (i + 1) _ _ ls (by omega) (by omega) (by omega) (by omega) ⟨n, by omega, by rw [hq, worF_s (by omega) (by omega), ← e1, ← hbz.2, Int.add_assoc]⟩ (by omega) hP hS (lv_sub hl [5, 6, 7, 8, 2, 1, 4, 0] rfl)
          · skip
            refine lv_goto T.1 T.2.1 (tgt := 104) dX0_amountOf_41 (by decide) ?_
            exact jn104  _ _ ls (by rw [hq, worF_0 (by first | omega | (have := cF_0 (N := N) (g := gd) (p := bd) (by omega); omega))]; exact Int.add_zero acc) hP hS (lv_sub hl [1, 5] rfl)
  exact lp12 61 0 un (-1) 0 _ _ ls (by omega) (by omega) (by omega) (by have := cF_top (N := N) gd (-1) (by omega); omega) ⟨un.toNat, by omega, by rw [Int.zero_add]⟩ (by omega) hP hS (lv_sub hl [4, 5, 6, 7, 3, 2, 1, 0] rfl)
set_option maxHeartbeats 4000000 in
set_option maxRecDepth 100000 in
theorem c_X0_amountOf_1 (l : Launch) (K : KT) (o : Nat) (N : Int → Int) (gd un : Int) (r_gd : 0 ≤ gd ∧ gd < 8) (r_un : 0 ≤ un ∧ un ≤ 600000) (h_un : un ≤ restF N gd) (hR : InR N) : CtL l yX0_amountOf cX0_amountOf 10 1 29 K [.ref (o + 12), .int (iI gd), .int (iI un), .int (iI 1)] (shipW K o N) (Blk o 21) (fun (z : Int) (u : Int → Int) => z = (rlF un.toNat N gd un).2 ∧ u = (rlF un.toNat N gd un).1) (fun u => shipW K o u) := by
  refine CtL_of (by decide) (Nat.le_of_ble_eq_true rfl) ?_
  intro p e s m args below meth c T hr hk hP hK ls hl
  have T : CF p m c cX0_amountOf 10 s args RX0 := T
  have hS : va_S (Blk o 21) s.heap s.heap [] := va_S.rf
  have hl : lv_has ls 10 [(0, .ref (o + 12)), (1, .int (iI gd)), (2, .int (iI un)), (3, .int (iI 1))] := hl
  obtain ⟨hI0, hIB⟩ := id hR
  obtain ⟨b0, b1, b2, b3, b4, b5, b6, b7, b8, b9⟩ := id hI0
  refine xv_lconst T (z := 0) dX0_amountOf_0 rfl ?_
  refine lv_lstore (lv' := [(4, .long (lI 0)), (0, .ref (o + 12)), (1, .int (iI gd)), (2, .int (iI un)), (3, .int (iI 1))]) T.1 T.2.1 dX0_amountOf_1 hl (by decide) rfl (fun ls hl => ?_)
  refine lv_iload_n T.1 T.2.1 dX0_amountOf_3 rfl (lv_at hl 3 rfl) ?_
  refine lv_istore (lv' := [(6, .int (iI un)), (4, .long (lI 0)), (0, .ref (o + 12)), (1, .int (iI gd)), (2, .int (iI un)), (3, .int (iI 1))]) T.1 T.2.1 dX0_amountOf_4 hl (by decide) rfl (fun ls hl => ?_)
  refine xv_iconst T dX0_amountOf_6 ?_
  refine lv_istore (lv' := [(7, .int (iI (-1))), (6, .int (iI un)), (4, .long (lI 0)), (0, .ref (o + 12)), (1, .int (iI gd)), (2, .int (iI un)), (3, .int (iI 1))]) T.1 T.2.1 dX0_amountOf_7 hl (by decide) rfl (fun ls hl => ?_)
  refine xv_iconst T dX0_amountOf_9 ?_
  refine lv_istore (lv' := [(8, .int (iI 0)), (7, .int (iI (-1))), (6, .int (iI un)), (4, .long (lI 0)), (0, .ref (o + 12)), (1, .int (iI gd)), (2, .int (iI un)), (3, .int (iI 1))]) T.1 T.2.1 dX0_amountOf_10 hl (by decide) rfl (fun ls hl => ?_)
  have lp12 : ∀ (fuel : Nat) (acc : Int) (rest : Int) (bd : Int) (i : Int) (NL : Int → Int) (H : Heap) (locs : List Loc) (ls : Array Slot), (0 ≤ i ∧ i ≤ N 6) → (0 ≤ rest ∧ rest ≤ 600000) → (bd = -1 ∨ (0 ≤ bd ∧ bd < N 6)) → (InR NL) → (NL 6 = N 6) → (rest ≤ restF NL gd) → (0 < rest → ∀ k : Int, 0 ≤ k → k < NL 6 → okB NL gd (-1) k → okB NL gd bd k) → (0 < rest → cF NL gd bd ≤ N 6 - i) → (∃ n : Nat, rest ≤ (n : Int) ∧ rlF un.toNat N gd un = ((rlF n NL gd rest).1, acc + (rlF n NL gd rest).2)) → N 6 - i < (fuel : Int) → xP K (shipW K o NL) H → va_S (Blk o 21) s.heap H locs → lv_has ls 10 [(0, .ref (o + 12)), (1, .int (iI gd)), (2, .int (iI un)), (3, .int (iI 1)), (4, .long (lI acc)), (6, .int (iI rest)), (7, .int (iI bd)), (8, .int (iI i))] → W p l e (rmF 1 29) s m args below meth c H locs 0 0 (MQ below (qL K (fun (z : Int) (u : Int → Int) => z = (rlF un.toNat N gd un).2 ∧ u = (rlF un.toNat N gd un).1) (fun u => shipW K o u) (Blk o 21)) args s 0 0 (Blk o 21)) (F0 m 12 ls []) := by
    intro fuel
    induction fuel with
    | zero =>
      intro acc rest bd i NL H locs ls hi hr0 hbd hRL h6 hrs hpos hc hq hm hP hS hl
      exact absurd hm (by omega)
    | succ fuel ih12 =>
      intro acc rest bd i NL H locs ls hi hr0 hbd hRL h6 hrs hpos hc hq hm hP hS hl
      obtain ⟨n, hn, hq⟩ := hq
      obtain ⟨c0, c1, c2, c3, c4, c5, c6, c7, c8, c9⟩ := id hRL.1
      have hsm : 0 < rest → nxt NL gd bd = nxt NL gd (-1) := fun h => nxt_same (hpos h)
      have hex : 0 < rest → 0 ≤ nxt NL gd (-1) := fun h => (nx_pos (by omega) (nxt_is NL gd (-1))).1.1
      have jn104 : ∀ (H : Heap) (locs : List Loc) (ls : Array Slot), (rlF un.toNat N gd un = (NL, acc)) → xP K (shipW K o NL) H → va_S (Blk o 21) s.heap H locs → lv_has ls 10 [(0, .ref (o + 12)), (4, .long (lI acc))] → W p l e (rmF 1 29) s m args below meth c H locs 0 0 (MQ below (qL K (fun (z : Int) (u : Int → Int) => z = (rlF un.toNat N gd un).2 ∧ u = (rlF un.toNat N gd un).1) (fun u => shipW K o u) (Blk o 21)) args s 0 0 (Blk o 21)) (F0 m 104 ls []) := by
        intro  H locs ls hend hP hS hl
        refine lv_lload T.1 T.2.1 dX0_amountOf_104 (lv_at hl 1 rfl) ?_
        exact rL T (u := NL) hr hk hK hP hS dX0_amountOf_106 (by rw [hend]; exact ⟨rfl, rfl⟩)
      refine lv_iload T.1 T.2.1 dX0_amountOf_12 (lv_at hl 7 rfl) ?_
      refine lv_aload_n T.1 T.2.1 dX0_amountOf_14 rfl (lv_at hl 0 rfl) ?_
      refine g0_number T hK hP 12 rfl (v := .int (iI (NL 6))) rfl mw_1_87 dX0_amountOf_15 ?_
      refine xv_icmp_ge T (by omega) (tgt := 104) dX0_amountOf_18 (by decide) (fun c1 => ?_) (fun c1 => ?_)
      · skip
        exact jn104  _ _ ls (by rw [hq, rlF_0 (Classical.byCases (p := 0 < rest) (fun hp0 => by have h7 := hsm hp0; have h8 := hex hp0; have h9 := hc hp0; have h10 := cF_0 (N := NL) (g := gd) (p := bd); omega) (fun hp0 => by omega))]; simp) hP hS (lv_sub hl [0, 4] rfl)
      · skip
        refine lv_iload T.1 T.2.1 dX0_amountOf_21 (lv_at hl 5 rfl) ?_
        refine xv_if_le T (by omega) (tgt := 104) dX0_amountOf_23 (by decide) (fun c2 => ?_) (fun c2 => ?_)
        · skip
          exact jn104  _ _ ls (by rw [hq, rlF_0 (Classical.byCases (p := 0 < rest) (fun hp0 => by have h7 := hsm hp0; have h8 := hex hp0; have h9 := hc hp0; have h10 := cF_0 (N := NL) (g := gd) (p := bd); omega) (fun hp0 => by omega))]; simp) hP hS (lv_sub hl [0, 4] rfl)
        · skip
          refine lv_aload_n T.1 T.2.1 dX0_amountOf_26 rfl (lv_at hl 0 rfl) ?_
          refine lv_iload_n T.1 T.2.1 dX0_amountOf_27 rfl (lv_at hl 1 rfl) ?_
          refine lv_iload T.1 T.2.1 dX0_amountOf_28 (lv_at hl 6 rfl) ?_
          refine cI_V T hK hP hS 12 rfl rfl rfl (c_X0_nextAfter l K o NL gd bd (by omega) (by omega) hRL) iX0_nextAfter mw_2_163 ⟨Nat.le_of_ble_eq_true rfl, Nat.le_of_ble_eq_true rfl⟩ hP noA rfl hl.1 rfl (Nat.le_of_ble_eq_true rfl) ⟨Nat.zero_le _, Nat.zero_le _⟩ dX0_amountOf_30 (fun bz _ H1 locs qz hP1 hg1 hg2 hS => ?_)
          have hP := xP_kept hP hg2
          generalize H1 = H at hP hS ⊢
          clear hg1 hg2 hP1
          have hno := nxC_or NL gd bd
          rw [← qz] at hno
          refine lv_istore (lv' := [(7, .int (iI bz)), (0, .ref (o + 12)), (1, .int (iI gd)), (2, .int (iI un)), (3, .int (iI 1)), (4, .long (lI acc)), (6, .int (iI rest)), (8, .int (iI i))]) T.1 T.2.1 dX0_amountOf_33 hl (by decide) rfl (fun ls hl => ?_)
          refine lv_iload T.1 T.2.1 dX0_amountOf_35 (lv_at hl 0 rfl) ?_
          refine xv_iconst T dX0_amountOf_37 ?_
          refine xv_icmp_ne T (by omega) (tgt := 44) dX0_amountOf_38 (by decide) (fun c3 => ?_) (fun c3 => ?_)
          · skip
            have hbz : (0 ≤ bz ∧ bz < NL 6) ∧ bz = nxt NL gd bd := by omega
            have hs := hsm (by omega)
            have hf := hRL.2 bz (by omega) (by omega)
            have hok := nx_pos (by omega) (nxt_is NL gd (-1))
            rw [← hs, ← hbz.2] at hok
            refine lv_iload T.1 T.2.1 dX0_amountOf_44 (lv_at hl 6 rfl) ?_
            refine lv_aload_n T.1 T.2.1 dX0_amountOf_46 rfl (lv_at hl 1 rfl) ?_
            refine g0_left T hK hP 12 rfl rfl mw_1_98 dX0_amountOf_47 ?_
            refine lv_iload T.1 T.2.1 dX0_amountOf_50 (lv_at hl 0 rfl) ?_
            refine xa_iald T hK hP 15 rfl rfl (272 + bz) (by omega) (by omega) (by decide) dX0_amountOf_52 ?_
            refine xv_min T mw_2_167 dX0_amountOf_53 hl.1 (Nat.le_of_ble_eq_true rfl) (Nat.le_of_ble_eq_true rfl) ⟨Nat.zero_le _, Nat.zero_le _⟩ (by omega) (fun mn hmn => ?_)
            refine lv_istore (lv' := [(9, .int (iI mn)), (7, .int (iI bz)), (0, .ref (o + 12)), (1, .int (iI gd)), (2, .int (iI un)), (3, .int (iI 1)), (4, .long (lI acc)), (6, .int (iI rest)), (8, .int (iI i))]) T.1 T.2.1 dX0_amountOf_56 hl (by decide) rfl (fun ls hl => ?_)
            refine lv_lload T.1 T.2.1 dX0_amountOf_58 (lv_at hl 6 rfl) ?_
            refine lv_iload T.1 T.2.1 dX0_amountOf_60 (lv_at hl 0 rfl) ?_
            refine xv_i2l T (by omega) dX0_amountOf_62 ?_
            refine lv_aload_n T.1 T.2.1 dX0_amountOf_63 rfl (lv_at hl 2 rfl) ?_
            refine g0_duty T hK hP 12 rfl rfl mw_1_101 dX0_amountOf_64 ?_
            refine lv_iload T.1 T.2.1 dX0_amountOf_67 (lv_at hl 1 rfl) ?_
            refine xa_iald T hK hP 16 rfl rfl (332 + bz) (by omega) (by omega) (by decide) dX0_amountOf_69 ?_
            refine xv_i2l T (by omega) dX0_amountOf_70 ?_
            refine xv_lmul T dX0_amountOf_71 ?_
            refine xv_ladd T dX0_amountOf_72 ?_
            refine lv_lstore (lv' := [(4, .long (lI (acc + (mn * (NL (332 + bz)))))), (9, .int (iI mn)), (7, .int (iI bz)), (0, .ref (o + 12)), (1, .int (iI gd)), (2, .int (iI un)), (3, .int (iI 1)), (6, .int (iI rest)), (8, .int (iI i))]) T.1 T.2.1 dX0_amountOf_73 hl (by decide) rfl (fun ls hl => ?_)
            refine lv_iload T.1 T.2.1 dX0_amountOf_75 (lv_at hl 7 rfl) ?_
            refine lv_iload T.1 T.2.1 dX0_amountOf_77 (lv_at hl 1 rfl) ?_
            refine xv_isub T dX0_amountOf_79 ?_
            refine lv_istore (lv' := [(6, .int (iI (rest - mn))), (4, .long (lI (acc + (mn * (NL (332 + bz)))))), (9, .int (iI mn)), (7, .int (iI bz)), (0, .ref (o + 12)), (1, .int (iI gd)), (2, .int (iI un)), (3, .int (iI 1)), (8, .int (iI i))]) T.1 T.2.1 dX0_amountOf_80 hl (by decide) rfl (fun ls hl => ?_)
            refine lv_iload_n T.1 T.2.1 dX0_amountOf_82 rfl (lv_at hl 7 rfl) ?_
            refine xv_if_eq T (by omega) (tgt := 98) dX0_amountOf_83 (by decide) (fun c4 => absurd c4 (by omega)) (fun _ => ?_)
            refine lv_aload_n T.1 T.2.1 dX0_amountOf_86 rfl (lv_at hl 4 rfl) ?_
            refine g0_left T hK hP 12 rfl rfl mw_1_98 dX0_amountOf_87 ?_
            refine lv_iload T.1 T.2.1 dX0_amountOf_90 (lv_at hl 3 rfl) ?_
            refine lv_dup2_11 T.1 T.2.1 dX0_amountOf_92 rfl rfl ?_
            refine xa_iald T hK hP 15 rfl rfl (272 + bz) (by omega) (by omega) (by decide) dX0_amountOf_93 ?_
            refine lv_iload T.1 T.2.1 dX0_amountOf_94 (lv_at hl 2 rfl) ?_
            refine xv_isub T dX0_amountOf_96 ?_
            refine xa_iast T hK hP (ship_D K o NL) hS 15 rfl rfl (by omega) (by decide) dX0_amountOf_97 (su_a272 K o NL (i := 272 + bz) (NL (272 + bz) - mn) (by omega) (by omega)) (fun H locs hP hS => ?_)
            obtain ⟨NM, hNM⟩ : ∃ Y0 : Int → Int, Y0 = uZ NL (272 + bz) (NL (272 + bz) - mn) := ⟨_, rfl⟩
            have hP : xP K (shipW K o NM) H := by rw [hNM]; exact hP
            refine xv_iinc T (y := i + 1) (lv' := [(8, .int (iI (i + 1))), (6, .int (iI (rest - mn))), (4, .long (lI (acc + (mn * (NL (332 + bz)))))), (9, .int (iI mn)), (7, .int (iI bz)), (0, .ref (o + 12)), (1, .int (iI gd)), (2, .int (iI un)), (3, .int (iI 1))]) dX0_amountOf_98 hl (q := 8) rfl (by omega) (by decide) rfl (fun ls hl => ?_)
            refine lv_goto T.1 T.2.1 (tgt := 12) dX0_amountOf_101 (by decide) ?_
            obtain ⟨n, rfl⟩ : ∃ k : Nat, n = k + 1 := ⟨n - 1, by omega⟩
            have e1 := byF_of (N := NL) (g := gd) (p := -1) (u := rest) (z := mn) (by rw [← hs, ← hbz.2]; exact hmn)
            have hgd : NL (152 + bz) = gd := by omega
            have hcr := cut_rest (u := mn) hRL (b := bz) (by omega)
            rw [hgd] at hcr
            exact ih12 (acc + (mn * (NL (332 + bz)))) (rest - mn) bz (i + 1) NM _ _ ls (by omega) (by omega) (by omega) (by rw [hNM]; exact cut_R hRL (by omega) (by omega)) (by rw [hNM, uZ_ne (by omega)]; exact h6) (by rw [hNM, hcr]; omega) (fun h => by rw [hNM, uZ_ne (by omega)]; exact step_pos (by omega) (by omega) (by rw [hbz.2, hs]) (by omega)) (fun h => by have := step_cnt (N := NL) (g := gd) (p := bd) (z := bz) (v := NL (272 + bz) - mn) (by omega) (by omega) hbz.2 (by omega) (by omega); have h9 := hc (by omega); rw [hNM]; omega) ⟨n, by omega, by rw [hq, rlF_s (by omega), ← e1, ← hs, ← hbz.2, hNM, Int.add_assoc]⟩ (by omega) hP hS (lv_sub hl [5, 6, 7, 8, 2, 1, 4, 0] rfl)
          · skip
            refine lv_goto T.1 T.2.1 (tgt := 104) dX0_amountOf_41 (by decide) ?_
            exact jn104  _ _ ls (by rw [hq, rlF_0 (Classical.byCases (p := 0 < rest) (fun hp0 => by have h7 := hsm hp0; have h8 := hex hp0; have h9 := hc hp0; have h10 := cF_0 (N := NL) (g := gd) (p := bd); omega) (fun hp0 => by omega))]; simp) hP hS (lv_sub hl [1, 5] rfl)
  exact lp12 61 0 un (-1) 0 N _ _ ls (by omega) (by omega) (by omega) hR rfl h_un (fun _ k _ _ h => h) (fun _ => by have := cF_top (N := N) gd (-1) (by omega); omega) ⟨un.toNat, by omega, by rw [Int.zero_add]⟩ (by omega) hP hS (lv_sub hl [4, 5, 6, 7, 3, 2, 1, 0] rfl)
set_option maxHeartbeats 4000000 in
set_option maxRecDepth 100000 in
theorem c_X6_release (l : Launch) (K : KT) (o : Nat) (N : Int → Int) (gd un re : Int) (r_gd : 0 ≤ gd ∧ gd < 8) (r_un : 0 ≤ un ∧ un ≤ 600000) (r_re : 0 ≤ re ∧ re < 4) (h_un : un ≤ restF N gd) (hR : InR N) : CtL l yX6_release cX6_release 6 2 58 K [.ref o, .int (iI gd), .int (iI un), .int (iI re)] (shipW K o N) (Blk o 21) (fun (z : Int) (u : Int → Int) => z = (relF un.toNat N gd un re).2 ∧ u = (relF un.toNat N gd un re).1) (fun u => shipW K o u) := by
  refine CtL_of (by decide) (Nat.le_of_ble_eq_true rfl) ?_
  intro p e s m args below meth c T hr hk hP hK ls hl
  have T : CF p m c cX6_release 6 s args RX6 := T
  have hS : va_S (Blk o 21) s.heap s.heap [] := va_S.rf
  have hl : lv_has ls 6 [(0, .ref o), (1, .int (iI gd)), (2, .int (iI un)), (3, .int (iI re))] := hl
  obtain ⟨hI0, hIB⟩ := id hR
  obtain ⟨b0, b1, b2, b3, b4, b5, b6, b7, b8, b9⟩ := id hI0
  refine lv_aload_n T.1 T.2.1 dX6_release_0 rfl (lv_at hl 0 rfl) ?_
  refine g6_bonds T hK hP 0 rfl rfl mw_1_155 dX6_release_1 ?_
  refine lv_iload_n T.1 T.2.1 dX6_release_4 rfl (lv_at hl 1 rfl) ?_
  refine lv_iload_n T.1 T.2.1 dX6_release_5 rfl (lv_at hl 2 rfl) ?_
  refine xv_iconst T dX6_release_6 ?_
  refine cL_V T hK hP hS 12 rfl rfl rfl (c_X0_amountOf_1 l K o N gd un (by omega) (by omega) (by omega) hR) iX0_amountOf mw_2_159 ⟨Nat.le_of_ble_eq_true rfl, Nat.le_of_ble_eq_true rfl⟩ hP (fun _ h => h) rfl hl.1 rfl (Nat.le_of_ble_eq_true rfl) ⟨Nat.zero_le _, Nat.zero_le _⟩ dX6_release_7 (fun am Na H1 locs qa hP1 hg1 hg2 hS => ?_)
  have hP : xP K (shipW K o Na) H1 := hP1
  generalize H1 = H at hP hS ⊢
  clear hg1 hg2 hP1
  obtain ⟨ham, hNa⟩ := qa
  refine lv_lstore (lv' := [(4, .long (lI am)), (0, .ref o), (1, .int (iI gd)), (2, .int (iI un)), (3, .int (iI re))]) T.1 T.2.1 dX6_release_10 hl (by decide) rfl (fun ls hl => ?_)
  refine lv_aload_n T.1 T.2.1 dX6_release_12 rfl (lv_at hl 1 rfl) ?_
  refine g6_releases T hK hP 0 rfl rfl mw_1_157 dX6_release_13 ?_
  refine lv_iload_n T.1 T.2.1 dX6_release_16 rfl (lv_at hl 2 rfl) ?_
  refine lv_iload_n T.1 T.2.1 dX6_release_17 rfl (lv_at hl 4 rfl) ?_
  refine lv_iload_n T.1 T.2.1 dX6_release_18 rfl (lv_at hl 3 rfl) ?_
  refine lv_lload T.1 T.2.1 dX6_release_19 (lv_at hl 0 rfl) ?_
  refine cV_V T hK hP hS 18 rfl rfl rfl (c_X4_add l K o Na gd re un am (by omega) (by omega)) iX4_add mw_2_168 ⟨Nat.le_of_ble_eq_true rfl, Nat.le_of_ble_eq_true rfl⟩ hP (fun _ h => h) rfl hl.1 rfl (Nat.le_of_ble_eq_true rfl) ⟨Nat.zero_le _, Nat.zero_le _⟩ dX6_release_21 (fun Nb H1 locs hNb hP1 hg1 hg2 hS => ?_)
  have hP : xP K (shipW K o Nb) H1 := hP1
  generalize H1 = H at hP hS ⊢
  clear hg1 hg2 hP1
  refine lv_lload T.1 T.2.1 dX6_release_24 (lv_at hl 0 rfl) ?_
  exact rL T (u := Nb) hr hk hK hP hS dX6_release_26 (by have hrr := rel_rad hR r_gd r_re r_un.1 h_un; rw [hNb, hNa, ham, hrr.1, hrr.2]; exact ⟨rfl, rfl⟩)
