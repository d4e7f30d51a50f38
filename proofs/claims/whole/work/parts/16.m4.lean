set_option maxHeartbeats 4000000 in
set_option maxRecDepth 100000 in
theorem c_X8_loses (l : Launch) (K : KT) (o : Nat) (N B SS TT F : Int → Int) (gd un : Int) (r_gd : 0 ≤ gd ∧ gd < 8) (r_un : 0 ≤ un ∧ un ≤ 600000) (hKc : InK N) : CtV l yX8_loses cX8_loses 7 1 21 K [.ref o, .int (iI gd), .int (iI un)] (mW K o N B SS TT F) (Blk o 5) (fun (u : Int → Int) => u = (losF 10 N gd un).1) (fun u => mW K o u B SS TT F) := by
  refine CtV_of (by decide) (Nat.le_of_ble_eq_true rfl) ?_
  intro p e s m args below meth c T hr hk hP hK ls hl
  have T : CF p m c cX8_loses 7 s args RX8 := T
  have hS : va_S (Blk o 5) s.heap s.heap [] := va_S.rf
  have hl : lv_has ls 7 [(0, .ref o), (1, .int (iI gd)), (2, .int (iI un))] := hl
  refine lv_iload_n T.1 T.2.1 dX8_loses_0 rfl (lv_at hl 2 rfl) ?_
  refine lv_istore_n (lv' := [(3, .int (iI un)), (0, .ref o), (1, .int (iI gd)), (2, .int (iI un))]) T.1 T.2.1 dX8_loses_1 rfl hl (by decide) rfl (fun ls hl => ?_)
  refine xv_iconst T dX8_loses_2 ?_
  refine lv_istore (lv' := [(4, .int (iI 0)), (3, .int (iI un)), (0, .ref o), (1, .int (iI gd)), (2, .int (iI un))]) T.1 T.2.1 dX8_loses_3 hl (by decide) rfl (fun ls hl => ?_)
  have lp5 : ∀ (fuel : Nat) (left : Int) (k : Int) (NL : Int → Int) (H : Heap) (locs : List Loc) (ls : Array Slot), (0 ≤ k ∧ k ≤ 10) → (0 ≤ left ∧ left ≤ 600000) → (NL = (losF k.toNat N gd un).1 ∧ left = (losF k.toNat N gd un).2) → (InK NL) → 10 - k < (fuel : Int) → xP K (mW K o NL B SS TT F) H → va_S (Blk o 5) s.heap H locs → lv_has ls 7 [(0, .ref o), (1, .int (iI gd)), (2, .int (iI un)), (3, .int (iI left)), (4, .int (iI k))] → W p l e (rmF 1 21) s m args below meth c H locs 0 0 (MQ below (qV K (fun (u : Int → Int) => u = (losF 10 N gd un).1) (fun u => mW K o u B SS TT F) (Blk o 5)) args s 0 0 (Blk o 5)) (F0 m 5 ls []) := by
    intro fuel
    induction fuel with
    | zero =>
      intro left k NL H locs ls hk10 hl0 hq hKL hm hP hS hl
      exact absurd hm (by omega)
    | succ fuel ih5 =>
      intro left k NL H locs ls hk10 hl0 hq hKL hm hP hS hl
      refine lv_iload T.1 T.2.1 dX8_loses_5 (lv_at hl 4 rfl) ?_
      refine xv_bipush T dX8_loses_7 (by omega) ?_
      refine xv_icmp_ge T (by omega) (tgt := 73) dX8_loses_9 (by decide) (fun c1 => ?_) (fun c1 => ?_)
      · skip
        exact rV T (u := NL) hr hk hK hP hS dX8_loses_73 (by rw [show (10 : Nat) = k.toNat by omega]; exact hq.1)
      · skip
        have jn25 : ∀ (bs : Int) (H : Heap) (locs : List Loc) (ls : Array Slot), ((k < 5 ∧ bs = 64) ∨ (5 ≤ k ∧ bs = 24)) → xP K (mW K o NL B SS TT F) H → va_S (Blk o 5) s.heap H locs → lv_has ls 7 [(0, .ref o), (1, .int (iI gd)), (2, .int (iI un)), (3, .int (iI left)), (4, .int (iI k))] → W p l e (rmF 1 21) s m args below meth c H locs 0 0 (MQ below (qV K (fun (u : Int → Int) => u = (losF 10 N gd un).1) (fun u => mW K o u B SS TT F) (Blk o 5)) args s 0 0 (Blk o 5)) (F0 m 25 ls [.int (iI bs)]) := by
          intro bs H locs ls qj hP hS hl
          have hat : 8 * (k % 5) + bs + gd = atF k gd := by unfold atF; split <;> omega
          have hin := atF_in (k := k) (g := gd) (by omega) (by omega)
          have hv := inK_at hKL (k := k) (g := gd) (by omega) (by omega)
          rw [← hat] at hv
          refine xv_bipush T dX8_loses_25 (by omega) ?_
          refine lv_iload T.1 T.2.1 dX8_loses_27 (lv_at hl 4 rfl) ?_
          refine xv_iconst T dX8_loses_29 ?_
          refine xv_irem T (by omega) (by omega) dX8_loses_30 ?_
          refine xv_imul T dX8_loses_31 ?_
          refine xv_iadd T dX8_loses_32 ?_
          refine lv_iload_n T.1 T.2.1 dX8_loses_33 rfl (lv_at hl 1 rfl) ?_
          refine xv_iadd T dX8_loses_34 ?_
          refine lv_istore (lv' := [(5, .int (iI (bs + (8 * (k % 5)) + gd))), (0, .ref o), (1, .int (iI gd)), (2, .int (iI un)), (3, .int (iI left)), (4, .int (iI k))]) T.1 T.2.1 dX8_loses_35 hl (by decide) rfl (fun ls hl => ?_)
          refine lv_iload_n T.1 T.2.1 dX8_loses_37 rfl (lv_at hl 4 rfl) ?_
          refine lv_aload_n T.1 T.2.1 dX8_loses_38 rfl (lv_at hl 1 rfl) ?_
          refine g8_now T hK hP 0 rfl rfl mw_3_175 dX8_loses_39 ?_
          refine lv_iload T.1 T.2.1 dX8_loses_42 (lv_at hl 0 rfl) ?_
          refine xa_iald T hK hP 1 rfl rfl (8 * (k % 5) + bs + gd) (by omega) (by omega) (by decide) dX8_loses_44 ?_
          refine cI_S T hK hP hS (c_X8_least l K left (NL (8 * (k % 5) + bs + gd)) (by omega) (by omega)) iX8_least mw_4_88 ⟨Nat.le_of_ble_eq_true rfl, Nat.le_of_ble_eq_true rfl⟩ xP_nil noA rfl hl.1 rfl (Nat.le_of_ble_eq_true rfl) ⟨Nat.zero_le _, Nat.zero_le _⟩ dX8_loses_45 (fun mn _ H1 locs hmn hP1 hg1 hg2 hS => ?_)
          have hP := xP_kept hP hg2
          generalize H1 = H at hP hS ⊢
          clear hg1 hg2 hP1
          refine lv_istore (lv' := [(6, .int (iI mn)), (5, .int (iI (bs + (8 * (k % 5)) + gd))), (0, .ref o), (1, .int (iI gd)), (2, .int (iI un)), (3, .int (iI left)), (4, .int (iI k))]) T.1 T.2.1 dX8_loses_48 hl (by decide) rfl (fun ls hl => ?_)
          refine lv_aload_n T.1 T.2.1 dX8_loses_50 rfl (lv_at hl 2 rfl) ?_
          refine g8_now T hK hP 0 rfl rfl mw_3_175 dX8_loses_51 ?_
          refine lv_iload T.1 T.2.1 dX8_loses_54 (lv_at hl 1 rfl) ?_
          refine lv_dup2_11 T.1 T.2.1 dX8_loses_56 rfl rfl ?_
          refine xa_iald T hK hP 1 rfl rfl (8 * (k % 5) + bs + gd) (by omega) (by omega) (by decide) dX8_loses_57 ?_
          refine lv_iload T.1 T.2.1 dX8_loses_58 (lv_at hl 0 rfl) ?_
          refine xv_isub T dX8_loses_60 ?_
          refine xa_iast T hK hP (m_D K o NL B SS TT F) hS 1 rfl rfl (by omega) (by decide) dX8_loses_61 (mu_N K o NL B SS TT F (NL (8 * (k % 5) + bs + gd) - mn) (by omega)) (fun H locs hP hS => ?_)
          obtain ⟨N2, hN2⟩ : ∃ Y0 : Int → Int, Y0 = uZ NL (bs + (8 * (k % 5)) + gd) (NL (8 * (k % 5) + bs + gd) - mn) := ⟨_, rfl⟩
          have hP : xP K (mW K o N2 B SS TT F) H := by rw [hN2]; exact hP
          rw [show bs + (8 * (k % 5)) + gd = 8 * (k % 5) + bs + gd by omega] at hN2
          refine lv_iload_n T.1 T.2.1 dX8_loses_62 rfl (lv_at hl 5 rfl) ?_
          refine lv_iload T.1 T.2.1 dX8_loses_63 (lv_at hl 0 rfl) ?_
          refine xv_isub T dX8_loses_65 ?_
          refine lv_istore_n (lv' := [(3, .int (iI (left - mn))), (6, .int (iI mn)), (5, .int (iI (bs + (8 * (k % 5)) + gd))), (0, .ref o), (1, .int (iI gd)), (2, .int (iI un)), (4, .int (iI k))]) T.1 T.2.1 dX8_loses_66 rfl hl (by decide) rfl (fun ls hl => ?_)
          refine xv_iinc T (y := k + 1) (lv' := [(4, .int (iI (k + 1))), (3, .int (iI (left - mn))), (6, .int (iI mn)), (5, .int (iI (bs + (8 * (k % 5)) + gd))), (0, .ref o), (1, .int (iI gd)), (2, .int (iI un))]) dX8_loses_67 hl (q := 6) rfl (by omega) (by decide) rfl (fun ls hl => ?_)
          refine lv_goto T.1 T.2.1 (tgt := 5) dX8_loses_70 (by decide) ?_
          have hmf := minF_of hmn
          exact ih5 (left - mn) (k + 1) N2 _ _ ls (by omega) (by omega) (by rw [losF_s (by omega), ← hq.1, ← hq.2, ← hat, hN2, ← hmf]; exact ⟨rfl, rfl⟩) (by rw [hN2]; exact inK_up hKL (by omega)) (by omega) hP hS (lv_sub hl [4, 5, 6, 1, 0] rfl)
        refine lv_iload T.1 T.2.1 dX8_loses_12 (lv_at hl 4 rfl) ?_
        refine xv_iconst T dX8_loses_14 ?_
        refine xv_icmp_ge T (by omega) (tgt := 23) dX8_loses_15 (by decide) (fun c3 => ?_) (fun c3 => ?_)
        · skip
          refine xv_bipush T dX8_loses_23 (by omega) ?_
          exact jn25 24 _ _ ls (by omega) hP hS (lv_sub hl [0, 1, 2, 3, 4] rfl)
        · skip
          refine xv_bipush T dX8_loses_18 (by omega) ?_
          refine lv_goto T.1 T.2.1 (tgt := 25) dX8_loses_20 (by decide) ?_
          exact jn25 64 _ _ ls (by omega) hP hS (lv_sub hl [0, 1, 2, 3, 4] rfl)
  exact lp5 11 un 0 N _ _ ls (by omega) (by omega) ⟨rfl, rfl⟩ hKc (by omega) hP hS (lv_sub hl [2, 3, 4, 1, 0] rfl)
set_option maxHeartbeats 4000000 in
set_option maxRecDepth 100000 in
theorem c_X8_inspects (l : Launch) (K : KT) (o : Nat) (N B SS TT F : Int → Int) (lk : Int) (r_lk : -2147483648 ≤ lk ∧ lk ≤ 2147483647) (hI : Inv N) : CtI l yX8_inspects cX8_inspects 5 .int 2 53 K [.ref o, .int (iI lk)] (mW K o N B SS TT F) (Blk o 5) (fun (z : Int) (u : Int → Int) => (z, u) = sInspect N lk) (fun u => mW K o u B SS TT F) := by
  refine CtI_of (by decide) (Nat.le_of_ble_eq_true rfl) ?_
  intro p e s m args below meth c T hr hk hP hK ls hl
  have T : CF p m c cX8_inspects 5 s args RX8 := T
  have hS : va_S (Blk o 5) s.heap s.heap [] := va_S.rf
  have hl : lv_has ls 5 [(0, .ref o), (1, .int (iI lk))] := hl
  obtain ⟨hI0, hIL, hIH, hIB, hID, hIC, hIG, hIZ, hIF⟩ := id hI
  have hR : InR N := ⟨hI0, hIB⟩
  obtain ⟨b0, b1, b2, b3, b4, b5, b6, b7, b8, b9⟩ := id hI0
  refine lv_aload_n T.1 T.2.1 dX8_inspects_0 rfl (lv_at hl 0 rfl) ?_
  refine lv_iload_n T.1 T.2.1 dX8_inspects_1 rfl (lv_at hl 1 rfl) ?_
  refine cI_V T hK hP hS 0 rfl rfl rfl (c_X8_isLocker l K o N B SS TT F lk (by omega) hI) iX8_isLocker mw_4_38 ⟨Nat.le_of_ble_eq_true rfl, Nat.le_of_ble_eq_true rfl⟩ hP noA rfl hl.1 rfl (Nat.le_of_ble_eq_true rfl) ⟨Nat.zero_le _, Nat.zero_le _⟩ dX8_inspects_2 (fun z1 _ H1 locs q2 hP1 hg1 hg2 hS => ?_)
  have hP := xP_kept hP hg2
  generalize H1 = H at hP hS ⊢
  clear hg1 hg2 hP1
  rcases q2 with ⟨rfl, q2⟩ | ⟨rfl, q2⟩
  · skip
    refine xv_if_ne T (by omega) (tgt := 10) dX8_inspects_5 (by decide) (fun _ => ?_) (fun c3 => absurd c3 (by omega))
    refine lv_aload_n T.1 T.2.1 dX8_inspects_10 rfl (lv_at hl 0 rfl) ?_
    refine g8_now T hK hP 0 rfl rfl mw_3_175 dX8_inspects_11 ?_
    have fl := hIL lk (by omega) (by omega)
    refine xv_iconst T dX8_inspects_14 ?_
    refine xa_iald T hK hP 1 rfl rfl 0 (by omega) (by omega) (by decide) dX8_inspects_15 ?_
    refine xv_iconst T dX8_inspects_16 ?_
    refine xv_icmp_eq T (by omega) (tgt := 23) dX8_inspects_17 (by decide) (fun c4 => ?_) (fun c4 => ?_)
    · skip
      have jn47 : ∀ (fv : Int) (H : Heap) (locs : List Loc) (ls : Array Slot), (fv = finF N lk) → xP K (mW K o N B SS TT F) H → va_S (Blk o 5) s.heap H locs → lv_has ls 5 [(0, .ref o), (1, .int (iI lk))] → W p l e (rmF 2 53) s m args below meth c H locs 0 0 (MQ below (qI K (fun (z : Int) (u : Int → Int) => (z, u) = sInspect N lk) (fun u => mW K o u B SS TT F) (Blk o 5)) args s 0 0 (Blk o 5)) (F0 m 47 ls [.long (lI fv)]) := by
        intro fv H locs ls hfv hP hS hl
        refine lv_lstore_n (lv' := [(2, .long (lI fv)), (0, .ref o), (1, .int (iI lk))]) T.1 T.2.1 dX8_inspects_47 rfl hl (by decide) rfl (fun ls hl => ?_)
        refine xv_iconst T dX8_inspects_48 ?_
        refine lv_istore (lv' := [(4, .int (iI 0)), (2, .long (lI fv)), (0, .ref o), (1, .int (iI lk))]) T.1 T.2.1 dX8_inspects_49 hl (by decide) rfl (fun ls hl => ?_)
        have lp51 : ∀ (fuel : Nat) (acc : Int) (i : Int) (H : Heap) (locs : List Loc) (ls : Array Slot), (0 ≤ i ∧ i ≤ N 5) → (acc = fv + sumZ (fun g => worA N g (N (64 + 8 * lk + g))) i.toNat) → N 5 - i < (fuel : Int) → xP K (mW K o N B SS TT F) H → va_S (Blk o 5) s.heap H locs → lv_has ls 5 [(0, .ref o), (1, .int (iI lk)), (2, .long (lI acc)), (4, .int (iI i))] → W p l e (rmF 2 53) s m args below meth c H locs 0 0 (MQ below (qI K (fun (z : Int) (u : Int → Int) => (z, u) = sInspect N lk) (fun u => mW K o u B SS TT F) (Blk o 5)) args s 0 0 (Blk o 5)) (F0 m 51 ls []) := by
          intro fuel
          induction fuel with
          | zero =>
            intro acc i H locs ls hi ha hm hP hS hl
            exact absurd hm (by omega)
          | succ fuel ih51 =>
            intro acc i H locs ls hi ha hm hP hS hl
            refine lv_iload T.1 T.2.1 dX8_inspects_51 (lv_at hl 3 rfl) ?_
            refine lv_aload_n T.1 T.2.1 dX8_inspects_53 rfl (lv_at hl 0 rfl) ?_
            refine g8_now T hK hP 0 rfl rfl mw_3_175 dX8_inspects_54 ?_
            refine xv_iconst T dX8_inspects_57 ?_
            refine xa_iald T hK hP 1 rfl rfl 5 (by omega) (by omega) (by decide) dX8_inspects_58 ?_
            refine xv_icmp_ge T (by omega) (tgt := 92) dX8_inspects_59 (by decide) (fun c5 => ?_) (fun c5 => ?_)
            · skip
              have hdue : acc = dueF N lk := by rw [ha, show i = N 5 by omega, hfv]; rfl
              subst hdue
              refine lv_aload_n T.1 T.2.1 dX8_inspects_92 rfl (lv_at hl 0 rfl) ?_
              refine xv_iconst T dX8_inspects_93 ?_
              refine cI_V T hK hP hS 0 rfl rfl rfl (c_X8_hasSeals l K o N B SS TT F 1 (by omega) (by omega)) iX8_hasSeals mw_3_231 ⟨Nat.le_of_ble_eq_true rfl, Nat.le_of_ble_eq_true rfl⟩ hP noA rfl hl.1 rfl (Nat.le_of_ble_eq_true rfl) ⟨Nat.zero_le _, Nat.zero_le _⟩ dX8_inspects_94 (fun z6 _ H1 locs q7 hP1 hg1 hg2 hS => ?_)
              have hP := xP_kept hP hg2
              generalize H1 = H at hP hS ⊢
              clear hg1 hg2 hP1
              rcases q7 with ⟨rfl, q7⟩ | ⟨rfl, q7⟩
              · skip
                refine xv_if_eq T (by omega) (tgt := 108) dX8_inspects_97 (by decide) (fun c8 => absurd c8 (by omega)) (fun _ => ?_)
                refine lv_lload_n T.1 T.2.1 dX8_inspects_100 rfl (lv_at hl 2 rfl) ?_
                refine xv_ldc2 T mw_4_43 (n := 2147483647) (by decide +kernel) dX8_inspects_101 ?_
                refine xv_lcmp_le T (tgt := 111) dX8_inspects_104 dX8_inspects_105 (by decide) (fun c9 => ?_) (fun c9 => ?_)
                · skip
                  have jn142 : ∀ (fw : Int) (H : Heap) (locs : List Loc) (ls : Array Slot), (fw = finF N lk) → xP K (mW K o N B SS TT F) H → va_S (Blk o 5) s.heap H locs → lv_has ls 5 [(0, .ref o), (1, .int (iI lk)), (2, .long (lI (dueF N lk))), (4, .int (iI i))] → W p l e (rmF 2 53) s m args below meth c H locs 0 0 (MQ below (qI K (fun (z : Int) (u : Int → Int) => (z, u) = sInspect N lk) (fun u => mW K o u B SS TT F) (Blk o 5)) args s 0 0 (Blk o 5)) (F0 m 142 ls [.int (iI fw), .int (iI (N 8)), .int (iI 8), .ref (o + 1)]) := by
                    intro fw H locs ls hfw hP hS hl
                    refine xv_iadd T dX8_inspects_142 ?_
                    refine xa_iast T hK hP (m_D K o N B SS TT F) hS 1 rfl rfl (by omega) (by decide) dX8_inspects_143 (mu_N K o N B SS TT F (N 8 + fw) (by omega)) (fun H locs hP hS => ?_)
                    obtain ⟨Nf, hNf⟩ : ∃ Y0 : Int → Int, Y0 = uZ N 8 (N 8 + fw) := ⟨_, rfl⟩
                    have hP : xP K (mW K o Nf B SS TT F) H := by rw [hNf]; exact hP
                    refine lv_aload_n T.1 T.2.1 dX8_inspects_144 rfl (lv_at hl 0 rfl) ?_
                    refine lv_iload_n T.1 T.2.1 dX8_inspects_145 rfl (lv_at hl 1 rfl) ?_
                    refine xv_iconst T dX8_inspects_146 ?_
                    refine cV_V T hK hP hS 0 rfl rfl rfl (c_X8_takesOff l K o Nf B SS TT F lk 2 (by omega) (by omega) (by rw [hNf, uZ_ne (by omega), uZ_ne (by omega)]; omega)) iX8_takesOff mw_4_44 ⟨Nat.le_of_ble_eq_true rfl, Nat.le_of_ble_eq_true rfl⟩ hP (fun _ h => h) rfl hl.1 rfl (Nat.le_of_ble_eq_true rfl) ⟨Nat.zero_le _, Nat.zero_le _⟩ dX8_inspects_147 (fun Ng H1 locs qg hP1 hg1 hg2 hS => ?_)
                    have hP : xP K (mW K o Ng B SS TT F) H1 := hP1
                    generalize H1 = H at hP hS ⊢
                    clear hg1 hg2 hP1
                    refine xv_iconst T dX8_inspects_150 ?_
                    refine lv_istore (lv' := [(4, .int (iI 0)), (0, .ref o), (1, .int (iI lk)), (2, .long (lI (dueF N lk)))]) T.1 T.2.1 dX8_inspects_151 hl (by decide) rfl (fun ls hl => ?_)
                    have lp153 : ∀ (fuel : Nat) (i : Int) (NL : Int → Int) (H : Heap) (locs : List Loc) (ls : Array Slot), (0 ≤ i ∧ i ≤ N 5) → (NL 5 = N 5 ∧ NL 7 = N 7) → (NL = insF i.toNat Ng lk) → (InR NL) → (∀ g : Int, i ≤ g → g < 8 → NL (64 + 8 * lk + g) = N (64 + 8 * lk + g) ∧ restF NL g = restF N g) → N 5 - i < (fuel : Int) → xP K (mW K o NL B SS TT F) H → va_S (Blk o 5) s.heap H locs → lv_has ls 5 [(0, .ref o), (1, .int (iI lk)), (2, .long (lI (dueF N lk))), (4, .int (iI i))] → W p l e (rmF 2 53) s m args below meth c H locs 0 0 (MQ below (qI K (fun (z : Int) (u : Int → Int) => (z, u) = sInspect N lk) (fun u => mW K o u B SS TT F) (Blk o 5)) args s 0 0 (Blk o 5)) (F0 m 153 ls []) := by
                      intro fuel
                      induction fuel with
                      | zero =>
                        intro i NL H locs ls hi2 h57 hqI hRL hms hm hP hS hl
                        exact absurd hm (by omega)
                      | succ fuel ih153 =>
                        intro i NL H locs ls hi2 h57 hqI hRL hms hm hP hS hl
                        obtain ⟨c0, c1, c2, c3, c4, c5, c6, c7, c8, c9⟩ := id hRL.1
                        refine lv_iload T.1 T.2.1 dX8_inspects_153 (lv_at hl 3 rfl) ?_
                        refine lv_aload_n T.1 T.2.1 dX8_inspects_155 rfl (lv_at hl 0 rfl) ?_
                        refine g8_now T hK hP 0 rfl rfl mw_3_175 dX8_inspects_156 ?_
                        refine xv_iconst T dX8_inspects_159 ?_
                        refine xa_iald T hK hP 1 rfl rfl 5 (by omega) (by omega) (by decide) dX8_inspects_160 ?_
                        refine xv_icmp_ge T (by omega) (tgt := 209) dX8_inspects_161 (by decide) (fun c11 => ?_) (fun c11 => ?_)
                        · skip
                          obtain rfl : i = N 5 := by omega
                          refine lv_aload_n T.1 T.2.1 dX8_inspects_209 rfl (lv_at hl 0 rfl) ?_
                          refine lv_iload_n T.1 T.2.1 dX8_inspects_210 rfl (lv_at hl 1 rfl) ?_
                          refine cV_V T hK hP hS 0 rfl rfl rfl (c_X8_seals l K o NL B SS TT F lk (by omega) (by omega)) iX8_seals mw_3_235 ⟨Nat.le_of_ble_eq_true rfl, Nat.le_of_ble_eq_true rfl⟩ hP (fun _ h => h) rfl hl.1 rfl (Nat.le_of_ble_eq_true rfl) ⟨Nat.zero_le _, Nat.zero_le _⟩ dX8_inspects_211 (fun Ne H1 locs qe hP1 hg1 hg2 hS => ?_)
                          have hP : xP K (mW K o Ne B SS TT F) H1 := hP1
                          generalize H1 = H at hP hS ⊢
                          clear hg1 hg2 hP1
                          refine lv_lload_n T.1 T.2.1 dX8_inspects_214 rfl (lv_at hl 2 rfl) ?_
                          refine xv_l2i T dX8_inspects_215 ?_
                          exact rI T (u := Ne) hr hk hK hP hS dX8_inspects_216 (by rw [qe, hqI, qg, hNf, hfw]; unfold sInspect; rw [if_neg (by omega), if_neg (by omega), if_neg (fun h => h.elim (fun h => h (by omega)) (fun h => h (by assumption)))])
                        · skip
                          have hmi := hms i (by omega) (by omega)
                          have hhi := hIH lk i (by omega) (by omega) (by omega) (by omega)
                          have hrs := has_rest hI (l := lk) (g := i) (by omega) (by omega)
                          refine lv_aload_n T.1 T.2.1 dX8_inspects_164 rfl (lv_at hl 0 rfl) ?_
                          refine lv_iload T.1 T.2.1 dX8_inspects_165 (lv_at hl 3 rfl) ?_
                          refine lv_aload_n T.1 T.2.1 dX8_inspects_167 rfl (lv_at hl 0 rfl) ?_
                          refine g8_now T hK hP 0 rfl rfl mw_3_175 dX8_inspects_168 ?_
                          refine xv_bipush T dX8_inspects_171 (by omega) ?_
                          refine xv_bipush T dX8_inspects_173 (by omega) ?_
                          refine lv_iload_n T.1 T.2.1 dX8_inspects_175 rfl (lv_at hl 1 rfl) ?_
                          refine xv_imul T dX8_inspects_176 ?_
                          refine xv_iadd T dX8_inspects_177 ?_
                          refine lv_iload T.1 T.2.1 dX8_inspects_178 (lv_at hl 3 rfl) ?_
                          refine xv_iadd T dX8_inspects_180 ?_
                          refine xa_iald T hK hP 1 rfl rfl (64 + 8 * lk + i) (by omega) (by omega) (by decide) dX8_inspects_181 ?_
                          refine xv_iconst T dX8_inspects_182 ?_
                          refine cI_V T hK hP hS 0 rfl rfl rfl (c_X8_releases l K o NL B SS TT F i (NL (64 + 8 * lk + i)) 3 (by omega) (by omega) (by omega) (by omega) hRL) iX8_releases mw_4_84 ⟨Nat.le_of_ble_eq_true rfl, Nat.le_of_ble_eq_true rfl⟩ hP (fun _ h => h) rfl hl.1 rfl (Nat.le_of_ble_eq_true rfl) ⟨Nat.zero_le _, Nat.zero_le _⟩ dX8_inspects_183 (fun bvz Nz H1 locs qzz hP1 hg1 hg2 hS => ?_)
                          have hP : xP K (mW K o Nz B SS TT F) H1 := hP1
                          generalize H1 = H at hP hS ⊢
                          clear hg1 hg2 hP1
                          obtain ⟨hvz, hNz⟩ := qzz
                          refine lv_pop T.1 T.2.1 dX8_inspects_186 rfl ?_
                          refine lv_aload_n T.1 T.2.1 dX8_inspects_187 rfl (lv_at hl 0 rfl) ?_
                          refine g8_now T hK hP 0 rfl rfl mw_3_175 dX8_inspects_188 ?_
                          refine xv_bipush T dX8_inspects_191 (by omega) ?_
                          refine xv_bipush T dX8_inspects_193 (by omega) ?_
                          refine lv_iload_n T.1 T.2.1 dX8_inspects_195 rfl (lv_at hl 1 rfl) ?_
                          refine xv_imul T dX8_inspects_196 ?_
                          refine xv_iadd T dX8_inspects_197 ?_
                          refine lv_iload T.1 T.2.1 dX8_inspects_198 (lv_at hl 3 rfl) ?_
                          refine xv_iadd T dX8_inspects_200 ?_
                          refine xv_iconst T dX8_inspects_201 ?_
                          refine xa_iast T hK hP (m_D K o Nz B SS TT F) hS 1 rfl rfl (by omega) (by decide) dX8_inspects_202 (mu_N K o Nz B SS TT F 0 (by omega)) (fun H locs hP hS => ?_)
                          obtain ⟨N13, hN13⟩ : ∃ Y0 : Int → Int, Y0 = uZ Nz (64 + (8 * lk) + i) 0 := ⟨_, rfl⟩
                          have hP : xP K (mW K o N13 B SS TT F) H := by rw [hN13]; exact hP
                          rw [show 64 + (8 * lk) + i = 64 + 8 * lk + i by omega] at hN13
                          refine xv_iinc T (y := i + 1) (lv' := [(4, .int (iI (i + 1))), (0, .ref o), (1, .int (iI lk)), (2, .long (lI (dueF N lk)))]) dX8_inspects_203 hl (q := 3) rfl (by omega) (by decide) rfl (fun ls hl => ?_)
                          refine lv_goto T.1 T.2.1 (tgt := 153) dX8_inspects_206 (by decide) ?_
                          have ra := relF_all (NL (64 + 8 * lk + i)).toNat (N := NL) (g := i) (u := NL (64 + 8 * lk + i)) (r := 3) hRL (by omega) (by omega) (by omega) (by omega) (by omega)
                          rw [← hNz] at ra
                          have kz : ∀ k : Int, 14 ≤ k ∧ k < 120 → Nz k = NL k := fun k hk => ra.2.1 k (Or.inr (Or.inl hk))
                          exact ih153 (i + 1) N13 _ _ ls (by omega) (by rw [hN13, uZ_ne (by omega), uZ_ne (by omega), ra.2.1 5 (Or.inl (by omega)), ra.2.1 7 (Or.inl (by omega))]; exact h57) (by rw [insF_s (by omega), ← hqI, hN13, hNz]) (by rw [hN13]; exact inR_has ra.1 (by omega)) (fun g h1 h2 => ⟨by rw [hN13, uZ_ne (by omega), kz _ (by omega)]; exact (hms g (by omega) h2).1, by rw [hN13, rest_has g (by omega) (by rw [ra.2.1 6 (Or.inl (by omega))]; exact c6.2), ra.2.2.2 g (by omega)]; exact (hms g (by omega) h2).2⟩) (by omega) hP hS (lv_sub hl [1, 2, 3, 0] rfl)
                    have hRf : InR Nf := by rw [hNf]; exact inR_fine hR (by rw [hfw]; unfold finF; split <;> omega) hIF
                    have hRg : InR Ng := by rw [qg]; exact offF_R hRf (by omega) (by rw [hNf, uZ_ne (by omega)]; omega)
                    exact lp153 9 0 Ng _ _ ls (by omega) (by rw [qg, hNf, offF_ne (by rw [uZ_ne (by omega)]; omega), uZ_ne (by omega), offF_ne (by rw [uZ_ne (by omega)]; omega), uZ_ne (by omega)]; exact ⟨rfl, rfl⟩) rfl hRg (fun g h1 h2 => ⟨by rw [qg, hNf, offF_ne (by rw [uZ_ne (by omega)]; omega), uZ_ne (by omega)], by rw [qg, offF_rest hRf (by omega) (by rw [hNf, uZ_ne (by omega)]; omega), hNf, restF_eq (uZ_ne (by omega)) fun b h1 h2 => ⟨uZ_ne (by omega), uZ_ne (by omega)⟩]⟩) (by omega) hP hS (lv_sub hl [1, 2, 3, 0] rfl)
                  refine lv_aload_n T.1 T.2.1 dX8_inspects_111 rfl (lv_at hl 0 rfl) ?_
                  refine g8_now T hK hP 0 rfl rfl mw_3_175 dX8_inspects_112 ?_
                  refine xv_bipush T dX8_inspects_115 (by omega) ?_
                  refine lv_dup2_11 T.1 T.2.1 dX8_inspects_117 rfl rfl ?_
                  refine xa_iald T hK hP 1 rfl rfl 8 (by omega) (by omega) (by decide) dX8_inspects_118 ?_
                  refine lv_aload_n T.1 T.2.1 dX8_inspects_119 rfl (lv_at hl 0 rfl) ?_
                  refine g8_now T hK hP 0 rfl rfl mw_3_175 dX8_inspects_120 ?_
                  refine xv_bipush T dX8_inspects_123 (by omega) ?_
                  refine lv_iload_n T.1 T.2.1 dX8_inspects_125 rfl (lv_at hl 1 rfl) ?_
                  refine xv_iadd T dX8_inspects_126 ?_
                  refine xa_iald T hK hP 1 rfl rfl (14 + lk) (by omega) (by omega) (by decide) dX8_inspects_127 ?_
                  have f14 := hIL lk (by omega) (by omega)
                  refine xv_iconst T dX8_inspects_128 ?_
                  refine xv_icmp_ne T (by omega) (tgt := 141) dX8_inspects_129 (by decide) (fun c15 => ?_) (fun c15 => ?_)
                  · skip
                    refine xv_iconst T dX8_inspects_141 ?_
                    exact jn142 0 _ _ ls (by unfold finF; first | rw [if_pos (by assumption)] | rw [if_neg (by assumption)]) hP hS (lv_sub hl [0, 1, 2, 3] rfl)
                  · skip
                    refine lv_aload_n T.1 T.2.1 dX8_inspects_132 rfl (lv_at hl 0 rfl) ?_
                    refine g8_now T hK hP 0 rfl rfl mw_3_175 dX8_inspects_133 ?_
                    refine xv_iconst T dX8_inspects_136 ?_
                    refine xa_iald T hK hP 1 rfl rfl 2 (by omega) (by omega) (by decide) dX8_inspects_137 ?_
                    refine lv_goto T.1 T.2.1 (tgt := 142) dX8_inspects_138 (by decide) ?_
                    exact jn142 (N 2) _ _ ls (by unfold finF; first | rw [if_pos (by assumption)] | rw [if_neg (by assumption)]) hP hS (lv_sub hl [0, 1, 2, 3] rfl)
                · skip
                  refine xv_bipush T dX8_inspects_108 (by omega) ?_
                  exact rI T (u := N) hr hk hK hP hS dX8_inspects_110 (by skip; unfold sInspect; first | rw [if_pos (by omega)] | (rw [if_neg (by omega)]; first | rw [if_pos (by omega)] | (rw [if_neg (by omega)]; first | rw [if_pos (by first | exact Or.inl (by omega) | exact Or.inr (by assumption))] | rw [if_neg (fun h => h.elim (fun h => h (by omega)) (fun h => h (by assumption)))])))
              · skip
                refine xv_if_eq T (by omega) (tgt := 108) dX8_inspects_97 (by decide) (fun _ => ?_) (fun c16 => absurd c16 (by omega))
                refine xv_bipush T dX8_inspects_108 (by omega) ?_
                exact rI T (u := N) hr hk hK hP hS dX8_inspects_110 (by skip; unfold sInspect; first | rw [if_pos (by omega)] | (rw [if_neg (by omega)]; first | rw [if_pos (by omega)] | (rw [if_neg (by omega)]; first | rw [if_pos (by first | exact Or.inl (by omega) | exact Or.inr (by assumption))] | rw [if_neg (fun h => h.elim (fun h => h (by omega)) (fun h => h (by assumption)))])))
            · skip
              refine lv_lload_n T.1 T.2.1 dX8_inspects_62 rfl (lv_at hl 2 rfl) ?_
              refine lv_aload_n T.1 T.2.1 dX8_inspects_63 rfl (lv_at hl 0 rfl) ?_
              refine lv_iload T.1 T.2.1 dX8_inspects_64 (lv_at hl 3 rfl) ?_
              refine lv_aload_n T.1 T.2.1 dX8_inspects_66 rfl (lv_at hl 0 rfl) ?_
              refine g8_now T hK hP 0 rfl rfl mw_3_175 dX8_inspects_67 ?_
              refine xv_bipush T dX8_inspects_70 (by omega) ?_
              refine xv_bipush T dX8_inspects_72 (by omega) ?_
              refine lv_iload_n T.1 T.2.1 dX8_inspects_74 rfl (lv_at hl 1 rfl) ?_
              refine xv_imul T dX8_inspects_75 ?_
              refine xv_iadd T dX8_inspects_76 ?_
              refine lv_iload T.1 T.2.1 dX8_inspects_77 (lv_at hl 3 rfl) ?_
              refine xv_iadd T dX8_inspects_79 ?_
              refine xa_iald T hK hP 1 rfl rfl (64 + 8 * lk + i) (by omega) (by omega) (by decide) dX8_inspects_80 ?_
              have f17 := hIH lk i (by omega) (by omega) (by omega) (by omega)
              refine cL_V T hK hP hS 0 rfl rfl rfl (c_X8_worthOf l K o N B SS TT F i (N (64 + 8 * lk + i)) (by omega) (by omega) hR) iX8_worthOf mw_4_127 ⟨Nat.le_of_ble_eq_true rfl, Nat.le_of_ble_eq_true rfl⟩ hP noA rfl hl.1 rfl (Nat.le_of_ble_eq_true rfl) ⟨Nat.zero_le _, Nat.zero_le _⟩ dX8_inspects_81 (fun z18 _ H1 locs q19 hP1 hg1 hg2 hS => ?_)
              have hP := xP_kept hP hg2
              generalize H1 = H at hP hS ⊢
              clear hg1 hg2 hP1
              obtain rfl : z18 = worA N i (N (64 + 8 * lk + i)) := q19
              refine xv_ladd T dX8_inspects_84 ?_
              refine lv_lstore_n (lv' := [(2, .long (lI (acc + (worA N i (N (64 + 8 * lk + i)))))), (0, .ref o), (1, .int (iI lk)), (4, .int (iI i))]) T.1 T.2.1 dX8_inspects_85 rfl hl (by decide) rfl (fun ls hl => ?_)
              refine xv_iinc T (y := i + 1) (lv' := [(4, .int (iI (i + 1))), (2, .long (lI (acc + (worA N i (N (64 + 8 * lk + i)))))), (0, .ref o), (1, .int (iI lk))]) dX8_inspects_86 hl (q := 3) rfl (by omega) (by decide) rfl (fun ls hl => ?_)
              refine lv_goto T.1 T.2.1 (tgt := 51) dX8_inspects_89 (by decide) ?_
              exact ih51 (acc + (worA N i (N (64 + 8 * lk + i)))) (i + 1) _ _ ls (by omega) (by rw [sumZ_step (by omega), ha, Int.add_assoc]) (by omega) hP hS (lv_sub hl [2, 3, 1, 0] rfl)
        exact lp51 9 fv 0 _ _ ls (by omega) (Int.add_zero _).symm (by omega) hP hS (lv_sub hl [2, 3, 1, 0] rfl)
      refine lv_aload_n T.1 T.2.1 dX8_inspects_23 rfl (lv_at hl 0 rfl) ?_
      refine g8_now T hK hP 0 rfl rfl mw_3_175 dX8_inspects_24 ?_
      refine xv_bipush T dX8_inspects_27 (by omega) ?_
      refine lv_iload_n T.1 T.2.1 dX8_inspects_29 rfl (lv_at hl 1 rfl) ?_
      refine xv_iadd T dX8_inspects_30 ?_
      refine xa_iald T hK hP 1 rfl rfl (14 + lk) (by omega) (by omega) (by decide) dX8_inspects_31 ?_
      have f20 := hIL lk (by omega) (by omega)
      refine xv_iconst T dX8_inspects_32 ?_
      refine xv_icmp_ne T (by omega) (tgt := 46) dX8_inspects_33 (by decide) (fun c21 => ?_) (fun c21 => ?_)
      · skip
        refine xv_lconst T (z := 0) dX8_inspects_46 rfl ?_
        exact jn47 0 _ _ ls (by unfold finF; first | rw [if_pos (by assumption)] | rw [if_neg (by assumption)]) hP hS (lv_sub hl [0, 1] rfl)
      · skip
        refine lv_aload_n T.1 T.2.1 dX8_inspects_36 rfl (lv_at hl 0 rfl) ?_
        refine g8_now T hK hP 0 rfl rfl mw_3_175 dX8_inspects_37 ?_
        refine xv_iconst T dX8_inspects_40 ?_
        refine xa_iald T hK hP 1 rfl rfl 2 (by omega) (by omega) (by decide) dX8_inspects_41 ?_
        refine xv_i2l T (by omega) dX8_inspects_42 ?_
        refine lv_goto T.1 T.2.1 (tgt := 47) dX8_inspects_43 (by decide) ?_
        exact jn47 (N 2) _ _ ls (by unfold finF; first | rw [if_pos (by assumption)] | rw [if_neg (by assumption)]) hP hS (lv_sub hl [0, 1] rfl)
    · skip
      refine xv_bipush T dX8_inspects_20 (by omega) ?_
      exact rI T (u := N) hr hk hK hP hS dX8_inspects_22 (by skip; unfold sInspect; first | rw [if_pos (by omega)] | (rw [if_neg (by omega)]; first | rw [if_pos (by omega)] | (rw [if_neg (by omega)]; first | rw [if_pos (by first | exact Or.inl (by omega) | exact Or.inr (by assumption))] | rw [if_neg (fun h => h.elim (fun h => h (by omega)) (fun h => h (by assumption)))])))
  · skip
    refine xv_if_ne T (by omega) (tgt := 10) dX8_inspects_5 (by decide) (fun c22 => absurd c22 (by omega)) (fun _ => ?_)
    refine xv_iconst T dX8_inspects_8 ?_
    exact rI T (u := N) hr hk hK hP hS dX8_inspects_9 (by skip; unfold sInspect; first | rw [if_pos (by omega)] | (rw [if_neg (by omega)]; first | rw [if_pos (by omega)] | (rw [if_neg (by omega)]; first | rw [if_pos (by first | exact Or.inl (by omega) | exact Or.inr (by assumption))] | rw [if_neg (fun h => h.elim (fun h => h (by omega)) (fun h => h (by assumption)))])))
set_option maxHeartbeats 4000000 in
set_option maxRecDepth 100000 in
theorem c_X8_crosses (l : Launch) (K : KT) (o : Nat) (N B SS TT F : Int → Int) (zn : Int) (r_zn : -2147483648 ≤ zn ∧ zn ≤ 2147483647) (hI : Inv N) : CtI l yX8_crosses cX8_crosses 5 .int 1 23 K [.ref o, .int (iI zn)] (mW K o N B SS TT F) (Blk o 5) (fun (z : Int) (u : Int → Int) => (z, u) = sCross N zn) (fun u => mW K o u B SS TT F) := by
  refine CtI_of (by decide) (Nat.le_of_ble_eq_true rfl) ?_
  intro p e s m args below meth c T hr hk hP hK ls hl
  have T : CF p m c cX8_crosses 5 s args RX8 := T
  have hS : va_S (Blk o 5) s.heap s.heap [] := va_S.rf
  have hl : lv_has ls 5 [(0, .ref o), (1, .int (iI zn))] := hl
  obtain ⟨hI0, hIL, hIH, hIB, hID, hIC, hIG, hIZ, hIF⟩ := id hI
  have hR : InR N := ⟨hI0, hIB⟩
  obtain ⟨b0, b1, b2, b3, b4, b5, b6, b7, b8, b9⟩ := id hI0
  refine lv_iload_n T.1 T.2.1 dX8_crosses_0 rfl (lv_at hl 1 rfl) ?_
  refine xv_iconst T dX8_crosses_1 ?_
  refine xv_iconst T dX8_crosses_2 ?_
  refine cI_S T hK hP hS (c_X8_in l K zn 0 2 (by omega) (by omega) (by omega)) iX8_in mw_4_15 ⟨Nat.le_of_ble_eq_true rfl, Nat.le_of_ble_eq_true rfl⟩ xP_nil noA rfl hl.1 rfl (Nat.le_of_ble_eq_true rfl) ⟨Nat.zero_le _, Nat.zero_le _⟩ dX8_crosses_3 (fun z1 _ H1 locs q2 hP1 hg1 hg2 hS => ?_)
  have hP := xP_kept hP hg2
  generalize H1 = H at hP hS ⊢
  clear hg1 hg2 hP1
  rcases q2 with ⟨rfl, q2⟩ | ⟨rfl, q2⟩
  · skip
    refine xv_if_ne T (by omega) (tgt := 11) dX8_crosses_6 (by decide) (fun _ => ?_) (fun c3 => absurd c3 (by omega))
    refine lv_aload_n T.1 T.2.1 dX8_crosses_11 rfl (lv_at hl 0 rfl) ?_
    refine g8_now T hK hP 0 rfl rfl mw_3_175 dX8_crosses_12 ?_
    refine xv_iconst T dX8_crosses_15 ?_
    refine xa_iald T hK hP 1 rfl rfl 0 (by omega) (by omega) (by decide) dX8_crosses_16 ?_
    refine lv_istore_n (lv' := [(2, .int (iI (N 0))), (0, .ref o), (1, .int (iI zn))]) T.1 T.2.1 dX8_crosses_17 rfl hl (by decide) rfl (fun ls hl => ?_)
    refine lv_iload_n T.1 T.2.1 dX8_crosses_18 rfl (lv_at hl 0 rfl) ?_
    refine lv_iload_n T.1 T.2.1 dX8_crosses_19 rfl (lv_at hl 2 rfl) ?_
    refine xv_icmp_eq T (by omega) (tgt := 30) dX8_crosses_20 (by decide) (fun c4 => ?_) (fun c4 => ?_)
    · skip
      refine xv_bipush T dX8_crosses_30 (by omega) ?_
      exact rI T (u := N) hr hk hK hP hS dX8_crosses_32 (by skip; unfold sCross; (repeat' split) <;> first | (exfalso; omega) | rfl)
    · skip
      refine lv_iload_n T.1 T.2.1 dX8_crosses_23 rfl (lv_at hl 0 rfl) ?_
      refine lv_iload_n T.1 T.2.1 dX8_crosses_24 rfl (lv_at hl 2 rfl) ?_
      refine xv_iadd T dX8_crosses_25 ?_
      refine xv_iconst T dX8_crosses_26 ?_
      refine xv_icmp_ne T (by omega) (tgt := 33) dX8_crosses_27 (by decide) (fun c5 => ?_) (fun c5 => ?_)
      · skip
        have jn58 : ∀ (nv : Int) (H : Heap) (locs : List Loc) (ls : Array Slot), (nv = howmF N zn) → xP K (mW K o N B SS TT F) H → va_S (Blk o 5) s.heap H locs → lv_has ls 5 [(2, .int (iI (N 0))), (0, .ref o), (1, .int (iI zn))] → W p l e (rmF 1 23) s m args below meth c H locs 0 0 (MQ below (qI K (fun (z : Int) (u : Int → Int) => (z, u) = sCross N zn) (fun u => mW K o u B SS TT F) (Blk o 5)) args s 0 0 (Blk o 5)) (F0 m 58 ls [.int (iI nv)]) := by
          intro nv H locs ls hnv hP hS hl
          have hcn : N 0 = 0 → nv = N 4 := fun h => by rw [hnv]; unfold howmF; rw [if_pos h]; exact cntF_all (by omega) (fun l a b => hIZ h l a b)
          have hnr : 0 ≤ nv ∧ nv ≤ 5 := by rw [hnv]; unfold howmF; have h0 := cntF_in (N := N) 0 (by omega); have h1 := cntF_in (N := N) 1 (by omega); split <;> (try split) <;> omega
          refine lv_istore_n (lv' := [(3, .int (iI nv)), (2, .int (iI (N 0))), (0, .ref o), (1, .int (iI zn))]) T.1 T.2.1 dX8_crosses_58 rfl hl (by decide) rfl (fun ls hl => ?_)
          refine lv_iload_n T.1 T.2.1 dX8_crosses_59 rfl (lv_at hl 1 rfl) ?_
          refine xv_if_ne T (by omega) (tgt := 74) dX8_crosses_60 (by decide) (fun c6 => ?_) (fun c6 => ?_)
          · skip
            refine lv_aload_n T.1 T.2.1 dX8_crosses_74 rfl (lv_at hl 2 rfl) ?_
            refine g8_now T hK hP 0 rfl rfl mw_3_175 dX8_crosses_75 ?_
            refine xv_iconst T dX8_crosses_78 ?_
            refine lv_iload_n T.1 T.2.1 dX8_crosses_79 rfl (lv_at hl 3 rfl) ?_
            refine xa_iast T hK hP (m_D K o N B SS TT F) hS 1 rfl rfl (by omega) (by decide) dX8_crosses_80 (mu_N K o N B SS TT F zn (by omega)) (fun H locs hP hS => ?_)
            obtain ⟨Nw, hNw⟩ : ∃ Y0 : Int → Int, Y0 = uZ N 0 zn := ⟨_, rfl⟩
            have hP : xP K (mW K o Nw B SS TT F) H := by rw [hNw]; exact hP
            refine xv_iconst T dX8_crosses_81 ?_
            refine lv_istore (lv' := [(4, .int (iI 0)), (3, .int (iI nv)), (2, .int (iI (N 0))), (0, .ref o), (1, .int (iI zn))]) T.1 T.2.1 dX8_crosses_82 hl (by decide) rfl (fun ls hl => ?_)
            have lp84 : ∀ (fuel : Nat) (i : Int) (NL : Int → Int) (H : Heap) (locs : List Loc) (ls : Array Slot), (0 ≤ i ∧ i ≤ N 4) → (NL = crF i.toNat Nw zn (N 0)) → (NL 4 = N 4) → (∀ l : Int, i ≤ l → l < 5 → NL (14 + l) = N (14 + l) ∧ NL (19 + l) = N (19 + l)) → ((0 ≤ NL 7 ∧ NL 7 ≤ 200) ∧ (N 0 = 0 → zn ≠ 0 → NL 7 = N 7 + i)) → N 4 - i < (fuel : Int) → xP K (mW K o NL B SS TT F) H → va_S (Blk o 5) s.heap H locs → lv_has ls 5 [(0, .ref o), (1, .int (iI zn)), (2, .int (iI (N 0))), (3, .int (iI nv)), (4, .int (iI i))] → W p l e (rmF 1 23) s m args below meth c H locs 0 0 (MQ below (qI K (fun (z : Int) (u : Int → Int) => (z, u) = sCross N zn) (fun u => mW K o u B SS TT F) (Blk o 5)) args s 0 0 (Blk o 5)) (F0 m 84 ls []) := by
              intro fuel
              induction fuel with
              | zero =>
                intro i NL H locs ls hi hq h4 hkl h7 hm hP hS hl
                exact absurd hm (by omega)
              | succ fuel ih84 =>
                intro i NL H locs ls hi hq h4 hkl h7 hm hP hS hl
                refine lv_iload T.1 T.2.1 dX8_crosses_84 (lv_at hl 4 rfl) ?_
                refine lv_aload_n T.1 T.2.1 dX8_crosses_86 rfl (lv_at hl 0 rfl) ?_
                refine g8_now T hK hP 0 rfl rfl mw_3_175 dX8_crosses_87 ?_
                refine xv_iconst T dX8_crosses_90 ?_
                refine xa_iald T hK hP 1 rfl rfl 4 (by omega) (by omega) (by decide) dX8_crosses_91 ?_
                refine xv_icmp_ge T (by omega) (tgt := 136) dX8_crosses_92 (by decide) (fun c7 => ?_) (fun c7 => ?_)
                · skip
                  refine lv_iload_n T.1 T.2.1 dX8_crosses_136 rfl (lv_at hl 3 rfl) ?_
                  exact rI T (u := NL) hr hk hK hP hS dX8_crosses_137 (by rw [hq, show i = N 4 by omega, hNw, hnv]; unfold sCross; rw [if_neg (by omega), if_neg (by omega), if_neg (by rw [← hnv]; omega)])
                · skip
                  have hli := hkl i (by omega) (by omega)
                  have hlo := hIL i (by omega) (by omega)
                  refine lv_iload_n T.1 T.2.1 dX8_crosses_95 rfl (lv_at hl 1 rfl) ?_
                  refine xv_if_ne T (by omega) (tgt := 120) dX8_crosses_96 (by decide) (fun c8 => ?_) (fun c8 => ?_)
                  · skip
                    refine lv_iload_n T.1 T.2.1 dX8_crosses_120 rfl (lv_at hl 2 rfl) ?_
                    refine xv_if_ne T (by omega) (tgt := 130) dX8_crosses_121 (by decide) (fun c9 => ?_) (fun c9 => ?_)
                    · skip
                      refine xv_iinc T (y := i + 1) (lv' := [(4, .int (iI (i + 1))), (0, .ref o), (1, .int (iI zn)), (2, .int (iI (N 0))), (3, .int (iI nv))]) dX8_crosses_130 hl (q := 4) rfl (by omega) (by decide) rfl (fun ls hl => ?_)
                      refine lv_goto T.1 T.2.1 (tgt := 84) dX8_crosses_133 (by decide) ?_
                      exact ih84 (i + 1) NL _ _ ls (by omega) (by rw [crF_s (by omega), ← hq]; rw [if_neg (by omega), if_neg (by omega)]) (by exact h4) (fun l a b => by have hh := hkl l (by omega) b; exact hh) (by omega) (by omega) hP hS (lv_sub hl [1, 2, 3, 4, 0] rfl)
                    · skip
                      refine lv_aload_n T.1 T.2.1 dX8_crosses_124 rfl (lv_at hl 0 rfl) ?_
                      refine lv_iload T.1 T.2.1 dX8_crosses_125 (lv_at hl 4 rfl) ?_
                      refine cV_V T hK hP hS 0 rfl rfl rfl (c_X8_seals l K o NL B SS TT F i (by omega) (by omega)) iX8_seals mw_3_235 ⟨Nat.le_of_ble_eq_true rfl, Nat.le_of_ble_eq_true rfl⟩ hP (fun _ h => h) rfl hl.1 rfl (Nat.le_of_ble_eq_true rfl) ⟨Nat.zero_le _, Nat.zero_le _⟩ dX8_crosses_127 (fun Nb H1 locs qb hP1 hg1 hg2 hS => ?_)
                      have hP : xP K (mW K o Nb B SS TT F) H1 := hP1
                      generalize H1 = H at hP hS ⊢
                      clear hg1 hg2 hP1
                      refine xv_iinc T (y := i + 1) (lv' := [(4, .int (iI (i + 1))), (0, .ref o), (1, .int (iI zn)), (2, .int (iI (N 0))), (3, .int (iI nv))]) dX8_crosses_130 hl (q := 4) rfl (by omega) (by decide) rfl (fun ls hl => ?_)
                      refine lv_goto T.1 T.2.1 (tgt := 84) dX8_crosses_133 (by decide) ?_
                      exact ih84 (i + 1) Nb _ _ ls (by omega) (by rw [crF_s (by omega), ← hq]; rw [if_neg (by omega), if_pos (by omega), qb]) (by rw [qb, sealsF_ne (by omega)]; exact h4) (fun l a b => by have hh := hkl l (by omega) b; rw [qb, sealsF_ne (by omega), sealsF_ne (by omega)]; exact hh) (by rw [qb, sealsF_7 (by omega) (by omega)]; omega) (by omega) hP hS (lv_sub hl [1, 2, 3, 4, 0] rfl)
                  · skip
                    refine lv_aload_n T.1 T.2.1 dX8_crosses_99 rfl (lv_at hl 0 rfl) ?_
                    refine lv_iload T.1 T.2.1 dX8_crosses_100 (lv_at hl 4 rfl) ?_
                    refine xv_iconst T dX8_crosses_102 ?_
                    refine cV_V T hK hP hS 0 rfl rfl rfl (c_X8_takesOff l K o NL B SS TT F i 1 (by omega) (by omega) (by omega)) iX8_takesOff mw_4_44 ⟨Nat.le_of_ble_eq_true rfl, Nat.le_of_ble_eq_true rfl⟩ hP (fun _ h => h) rfl hl.1 rfl (Nat.le_of_ble_eq_true rfl) ⟨Nat.zero_le _, Nat.zero_le _⟩ dX8_crosses_103 (fun Na H1 locs qa hP1 hg1 hg2 hS => ?_)
                    have hP : xP K (mW K o Na B SS TT F) H1 := hP1
                    generalize H1 = H at hP hS ⊢
                    clear hg1 hg2 hP1
                    refine lv_aload_n T.1 T.2.1 dX8_crosses_106 rfl (lv_at hl 0 rfl) ?_
                    refine g8_now T hK hP 0 rfl rfl mw_3_175 dX8_crosses_107 ?_
                    refine xv_bipush T dX8_crosses_110 (by omega) ?_
                    refine lv_iload T.1 T.2.1 dX8_crosses_112 (lv_at hl 4 rfl) ?_
                    refine xv_iadd T dX8_crosses_114 ?_
                    refine xv_iconst T dX8_crosses_115 ?_
                    refine xa_iast T hK hP (m_D K o Na B SS TT F) hS 1 rfl rfl (by omega) (by decide) dX8_crosses_116 (mu_N K o Na B SS TT F 0 (by omega)) (fun H locs hP hS => ?_)
                    obtain ⟨N12, hN12⟩ : ∃ Y0 : Int → Int, Y0 = uZ Na (14 + i) 0 := ⟨_, rfl⟩
                    have hP : xP K (mW K o N12 B SS TT F) H := by rw [hN12]; exact hP
                    refine lv_goto T.1 T.2.1 (tgt := 130) dX8_crosses_117 (by decide) ?_
                    refine xv_iinc T (y := i + 1) (lv' := [(4, .int (iI (i + 1))), (0, .ref o), (1, .int (iI zn)), (2, .int (iI (N 0))), (3, .int (iI nv))]) dX8_crosses_130 hl (q := 4) rfl (by omega) (by decide) rfl (fun ls hl => ?_)
                    refine lv_goto T.1 T.2.1 (tgt := 84) dX8_crosses_133 (by decide) ?_
                    exact ih84 (i + 1) N12 _ _ ls (by omega) (by rw [crF_s (by omega), ← hq]; rw [if_pos (by omega), hN12, qa]) (by rw [hN12, qa, uZ_ne (by omega), offF_ne (by omega)]; exact h4) (fun l a b => by have hh := hkl l (by omega) b; rw [hN12, qa, uZ_ne (by omega), uZ_ne (by omega), offF_ne (by omega), offF_ne (by omega)]; exact hh) (by rw [hN12, qa, uZ_ne (by omega), offF_ne (by omega)]; omega) (by omega) hP hS (lv_sub hl [1, 2, 3, 4, 0] rfl)
            exact lp84 6 0 Nw _ _ ls (by omega) rfl (by rw [hNw, uZ_ne (by omega)]) (fun l a b => by rw [hNw, uZ_ne (by omega), uZ_ne (by omega)]; exact ⟨rfl, rfl⟩) (by rw [hNw, uZ_ne (by omega)]; omega) (by omega) hP hS (lv_sub hl [3, 4, 2, 1, 0] rfl)
          · skip
            refine lv_aload_n T.1 T.2.1 dX8_crosses_63 rfl (lv_at hl 2 rfl) ?_
            refine lv_iload_n T.1 T.2.1 dX8_crosses_64 rfl (lv_at hl 0 rfl) ?_
            refine cI_V T hK hP hS 0 rfl rfl rfl (c_X8_hasSeals l K o N B SS TT F nv (by omega) (by omega)) iX8_hasSeals mw_3_231 ⟨Nat.le_of_ble_eq_true rfl, Nat.le_of_ble_eq_true rfl⟩ hP noA rfl hl.1 rfl (Nat.le_of_ble_eq_true rfl) ⟨Nat.zero_le _, Nat.zero_le _⟩ dX8_crosses_65 (fun z13 _ H1 locs q14 hP1 hg1 hg2 hS => ?_)
            have hP := xP_kept hP hg2
            generalize H1 = H at hP hS ⊢
            clear hg1 hg2 hP1
            rcases q14 with ⟨rfl, q14⟩ | ⟨rfl, q14⟩
            · skip
              refine xv_if_ne T (by omega) (tgt := 74) dX8_crosses_68 (by decide) (fun _ => ?_) (fun c15 => absurd c15 (by omega))
              refine lv_aload_n T.1 T.2.1 dX8_crosses_74 rfl (lv_at hl 2 rfl) ?_
              refine g8_now T hK hP 0 rfl rfl mw_3_175 dX8_crosses_75 ?_
              refine xv_iconst T dX8_crosses_78 ?_
              refine lv_iload_n T.1 T.2.1 dX8_crosses_79 rfl (lv_at hl 3 rfl) ?_
              refine xa_iast T hK hP (m_D K o N B SS TT F) hS 1 rfl rfl (by omega) (by decide) dX8_crosses_80 (mu_N K o N B SS TT F zn (by omega)) (fun H locs hP hS => ?_)
              obtain ⟨Nw, hNw⟩ : ∃ Y0 : Int → Int, Y0 = uZ N 0 zn := ⟨_, rfl⟩
              have hP : xP K (mW K o Nw B SS TT F) H := by rw [hNw]; exact hP
              refine xv_iconst T dX8_crosses_81 ?_
              refine lv_istore (lv' := [(4, .int (iI 0)), (3, .int (iI nv)), (2, .int (iI (N 0))), (0, .ref o), (1, .int (iI zn))]) T.1 T.2.1 dX8_crosses_82 hl (by decide) rfl (fun ls hl => ?_)
              have lp84 : ∀ (fuel : Nat) (i : Int) (NL : Int → Int) (H : Heap) (locs : List Loc) (ls : Array Slot), (0 ≤ i ∧ i ≤ N 4) → (NL = crF i.toNat Nw zn (N 0)) → (NL 4 = N 4) → (∀ l : Int, i ≤ l → l < 5 → NL (14 + l) = N (14 + l) ∧ NL (19 + l) = N (19 + l)) → ((0 ≤ NL 7 ∧ NL 7 ≤ 200) ∧ (N 0 = 0 → zn ≠ 0 → NL 7 = N 7 + i)) → N 4 - i < (fuel : Int) → xP K (mW K o NL B SS TT F) H → va_S (Blk o 5) s.heap H locs → lv_has ls 5 [(0, .ref o), (1, .int (iI zn)), (2, .int (iI (N 0))), (3, .int (iI nv)), (4, .int (iI i))] → W p l e (rmF 1 23) s m args below meth c H locs 0 0 (MQ below (qI K (fun (z : Int) (u : Int → Int) => (z, u) = sCross N zn) (fun u => mW K o u B SS TT F) (Blk o 5)) args s 0 0 (Blk o 5)) (F0 m 84 ls []) := by
                intro fuel
                induction fuel with
                | zero =>
                  intro i NL H locs ls hi hq h4 hkl h7 hm hP hS hl
                  exact absurd hm (by omega)
                | succ fuel ih84 =>
                  intro i NL H locs ls hi hq h4 hkl h7 hm hP hS hl
                  refine lv_iload T.1 T.2.1 dX8_crosses_84 (lv_at hl 4 rfl) ?_
                  refine lv_aload_n T.1 T.2.1 dX8_crosses_86 rfl (lv_at hl 0 rfl) ?_
                  refine g8_now T hK hP 0 rfl rfl mw_3_175 dX8_crosses_87 ?_
                  refine xv_iconst T dX8_crosses_90 ?_
                  refine xa_iald T hK hP 1 rfl rfl 4 (by omega) (by omega) (by decide) dX8_crosses_91 ?_
                  refine xv_icmp_ge T (by omega) (tgt := 136) dX8_crosses_92 (by decide) (fun c16 => ?_) (fun c16 => ?_)
                  · skip
                    refine lv_iload_n T.1 T.2.1 dX8_crosses_136 rfl (lv_at hl 3 rfl) ?_
                    exact rI T (u := NL) hr hk hK hP hS dX8_crosses_137 (by rw [hq, show i = N 4 by omega, hNw, hnv]; unfold sCross; rw [if_neg (by omega), if_neg (by omega), if_neg (by rw [← hnv]; omega)])
                  · skip
                    have hli := hkl i (by omega) (by omega)
                    have hlo := hIL i (by omega) (by omega)
                    refine lv_iload_n T.1 T.2.1 dX8_crosses_95 rfl (lv_at hl 1 rfl) ?_
                    refine xv_if_ne T (by omega) (tgt := 120) dX8_crosses_96 (by decide) (fun c17 => ?_) (fun c17 => ?_)
                    · skip
                      refine lv_iload_n T.1 T.2.1 dX8_crosses_120 rfl (lv_at hl 2 rfl) ?_
                      refine xv_if_ne T (by omega) (tgt := 130) dX8_crosses_121 (by decide) (fun c18 => ?_) (fun c18 => ?_)
                      · skip
                        refine xv_iinc T (y := i + 1) (lv' := [(4, .int (iI (i + 1))), (0, .ref o), (1, .int (iI zn)), (2, .int (iI (N 0))), (3, .int (iI nv))]) dX8_crosses_130 hl (q := 4) rfl (by omega) (by decide) rfl (fun ls hl => ?_)
                        refine lv_goto T.1 T.2.1 (tgt := 84) dX8_crosses_133 (by decide) ?_
                        exact ih84 (i + 1) NL _ _ ls (by omega) (by rw [crF_s (by omega), ← hq]; rw [if_neg (by omega), if_neg (by omega)]) (by exact h4) (fun l a b => by have hh := hkl l (by omega) b; exact hh) (by omega) (by omega) hP hS (lv_sub hl [1, 2, 3, 4, 0] rfl)
                      · skip
                        refine lv_aload_n T.1 T.2.1 dX8_crosses_124 rfl (lv_at hl 0 rfl) ?_
                        refine lv_iload T.1 T.2.1 dX8_crosses_125 (lv_at hl 4 rfl) ?_
                        refine cV_V T hK hP hS 0 rfl rfl rfl (c_X8_seals l K o NL B SS TT F i (by omega) (by omega)) iX8_seals mw_3_235 ⟨Nat.le_of_ble_eq_true rfl, Nat.le_of_ble_eq_true rfl⟩ hP (fun _ h => h) rfl hl.1 rfl (Nat.le_of_ble_eq_true rfl) ⟨Nat.zero_le _, Nat.zero_le _⟩ dX8_crosses_127 (fun Nb H1 locs qb hP1 hg1 hg2 hS => ?_)
                        have hP : xP K (mW K o Nb B SS TT F) H1 := hP1
                        generalize H1 = H at hP hS ⊢
                        clear hg1 hg2 hP1
                        refine xv_iinc T (y := i + 1) (lv' := [(4, .int (iI (i + 1))), (0, .ref o), (1, .int (iI zn)), (2, .int (iI (N 0))), (3, .int (iI nv))]) dX8_crosses_130 hl (q := 4) rfl (by omega) (by decide) rfl (fun ls hl => ?_)
                        refine lv_goto T.1 T.2.1 (tgt := 84) dX8_crosses_133 (by decide) ?_
                        exact ih84 (i + 1) Nb _ _ ls (by omega) (by rw [crF_s (by omega), ← hq]; rw [if_neg (by omega), if_pos (by omega), qb]) (by rw [qb, sealsF_ne (by omega)]; exact h4) (fun l a b => by have hh := hkl l (by omega) b; rw [qb, sealsF_ne (by omega), sealsF_ne (by omega)]; exact hh) (by rw [qb, sealsF_7 (by omega) (by omega)]; omega) (by omega) hP hS (lv_sub hl [1, 2, 3, 4, 0] rfl)
                    · skip
                      refine lv_aload_n T.1 T.2.1 dX8_crosses_99 rfl (lv_at hl 0 rfl) ?_
                      refine lv_iload T.1 T.2.1 dX8_crosses_100 (lv_at hl 4 rfl) ?_
                      refine xv_iconst T dX8_crosses_102 ?_
                      refine cV_V T hK hP hS 0 rfl rfl rfl (c_X8_takesOff l K o NL B SS TT F i 1 (by omega) (by omega) (by omega)) iX8_takesOff mw_4_44 ⟨Nat.le_of_ble_eq_true rfl, Nat.le_of_ble_eq_true rfl⟩ hP (fun _ h => h) rfl hl.1 rfl (Nat.le_of_ble_eq_true rfl) ⟨Nat.zero_le _, Nat.zero_le _⟩ dX8_crosses_103 (fun Na H1 locs qa hP1 hg1 hg2 hS => ?_)
                      have hP : xP K (mW K o Na B SS TT F) H1 := hP1
                      generalize H1 = H at hP hS ⊢
                      clear hg1 hg2 hP1
                      refine lv_aload_n T.1 T.2.1 dX8_crosses_106 rfl (lv_at hl 0 rfl) ?_
                      refine g8_now T hK hP 0 rfl rfl mw_3_175 dX8_crosses_107 ?_
                      refine xv_bipush T dX8_crosses_110 (by omega) ?_
                      refine lv_iload T.1 T.2.1 dX8_crosses_112 (lv_at hl 4 rfl) ?_
                      refine xv_iadd T dX8_crosses_114 ?_
                      refine xv_iconst T dX8_crosses_115 ?_
                      refine xa_iast T hK hP (m_D K o Na B SS TT F) hS 1 rfl rfl (by omega) (by decide) dX8_crosses_116 (mu_N K o Na B SS TT F 0 (by omega)) (fun H locs hP hS => ?_)
                      obtain ⟨N21, hN21⟩ : ∃ Y0 : Int → Int, Y0 = uZ Na (14 + i) 0 := ⟨_, rfl⟩
                      have hP : xP K (mW K o N21 B SS TT F) H := by rw [hN21]; exact hP
                      refine lv_goto T.1 T.2.1 (tgt := 130) dX8_crosses_117 (by decide) ?_
                      refine xv_iinc T (y := i + 1) (lv' := [(4, .int (iI (i + 1))), (0, .ref o), (1, .int (iI zn)), (2, .int (iI (N 0))), (3, .int (iI nv))]) dX8_crosses_130 hl (q := 4) rfl (by omega) (by decide) rfl (fun ls hl => ?_)
                      refine lv_goto T.1 T.2.1 (tgt := 84) dX8_crosses_133 (by decide) ?_
                      exact ih84 (i + 1) N21 _ _ ls (by omega) (by rw [crF_s (by omega), ← hq]; rw [if_pos (by omega), hN21, qa]) (by rw [hN21, qa, uZ_ne (by omega), offF_ne (by omega)]; exact h4) (fun l a b => by have hh := hkl l (by omega) b; rw [hN21, qa, uZ_ne (by omega), uZ_ne (by omega), offF_ne (by omega), offF_ne (by omega)]; exact hh) (by rw [hN21, qa, uZ_ne (by omega), offF_ne (by omega)]; omega) (by omega) hP hS (lv_sub hl [1, 2, 3, 4, 0] rfl)
              exact lp84 6 0 Nw _ _ ls (by omega) rfl (by rw [hNw, uZ_ne (by omega)]) (fun l a b => by rw [hNw, uZ_ne (by omega), uZ_ne (by omega)]; exact ⟨rfl, rfl⟩) (by rw [hNw, uZ_ne (by omega)]; omega) (by omega) hP hS (lv_sub hl [3, 4, 2, 1, 0] rfl)
            · skip
              refine xv_if_ne T (by omega) (tgt := 74) dX8_crosses_68 (by decide) (fun c22 => absurd c22 (by omega)) (fun _ => ?_)
              refine xv_bipush T dX8_crosses_71 (by omega) ?_
              exact rI T (u := N) hr hk hK hP hS dX8_crosses_73 (by skip; unfold sCross; (repeat' split) <;> first | (exfalso; omega) | rfl)
        refine lv_iload_n T.1 T.2.1 dX8_crosses_33 rfl (lv_at hl 0 rfl) ?_
        refine xv_if_ne T (by omega) (tgt := 45) dX8_crosses_34 (by decide) (fun c23 => ?_) (fun c23 => ?_)
        · skip
          refine lv_iload_n T.1 T.2.1 dX8_crosses_45 rfl (lv_at hl 2 rfl) ?_
          refine xv_if_ne T (by omega) (tgt := 57) dX8_crosses_46 (by decide) (fun c24 => ?_) (fun c24 => ?_)
          · skip
            refine xv_iconst T dX8_crosses_57 ?_
            exact jn58 0 _ _ ls (by unfold howmF; first | rw [if_pos (by omega)] | (rw [if_neg (by omega)]; first | rw [if_pos (by omega)] | rw [if_neg (by omega)])) hP hS (lv_sub hl [0, 1, 2] rfl)
          · skip
            refine lv_aload_n T.1 T.2.1 dX8_crosses_49 rfl (lv_at hl 1 rfl) ?_
            refine xv_iconst T dX8_crosses_50 ?_
            refine cI_V T hK hP hS 0 rfl rfl rfl (c_X8_lockersThat l K o N B SS TT F 1 (by omega) hI) iX8_lockersThat mw_4_140 ⟨Nat.le_of_ble_eq_true rfl, Nat.le_of_ble_eq_true rfl⟩ hP noA rfl hl.1 rfl (Nat.le_of_ble_eq_true rfl) ⟨Nat.zero_le _, Nat.zero_le _⟩ dX8_crosses_51 (fun z25 _ H1 locs q26 hP1 hg1 hg2 hS => ?_)
            have hP := xP_kept hP hg2
            generalize H1 = H at hP hS ⊢
            clear hg1 hg2 hP1
            obtain rfl : z25 = cntF N 1 := q26
            refine lv_goto T.1 T.2.1 (tgt := 58) dX8_crosses_54 (by decide) ?_
            exact jn58 (cntF N 1) _ _ ls (by unfold howmF; first | rw [if_pos (by omega)] | (rw [if_neg (by omega)]; first | rw [if_pos (by omega)] | rw [if_neg (by omega)])) hP hS (lv_sub hl [0, 1, 2] rfl)
        · skip
          refine lv_aload_n T.1 T.2.1 dX8_crosses_37 rfl (lv_at hl 1 rfl) ?_
          refine xv_iconst T dX8_crosses_38 ?_
          refine cI_V T hK hP hS 0 rfl rfl rfl (c_X8_lockersThat l K o N B SS TT F 0 (by omega) hI) iX8_lockersThat mw_4_140 ⟨Nat.le_of_ble_eq_true rfl, Nat.le_of_ble_eq_true rfl⟩ hP noA rfl hl.1 rfl (Nat.le_of_ble_eq_true rfl) ⟨Nat.zero_le _, Nat.zero_le _⟩ dX8_crosses_39 (fun z27 _ H1 locs q28 hP1 hg1 hg2 hS => ?_)
          have hP := xP_kept hP hg2
          generalize H1 = H at hP hS ⊢
          clear hg1 hg2 hP1
          obtain rfl : z27 = cntF N 0 := q28
          refine lv_goto T.1 T.2.1 (tgt := 58) dX8_crosses_42 (by decide) ?_
          exact jn58 (cntF N 0) _ _ ls (by unfold howmF; first | rw [if_pos (by omega)] | (rw [if_neg (by omega)]; first | rw [if_pos (by omega)] | rw [if_neg (by omega)])) hP hS (lv_sub hl [0, 1, 2] rfl)
      · skip
        refine xv_bipush T dX8_crosses_30 (by omega) ?_
        exact rI T (u := N) hr hk hK hP hS dX8_crosses_32 (by skip; unfold sCross; (repeat' split) <;> first | (exfalso; omega) | rfl)
  · skip
    refine xv_if_ne T (by omega) (tgt := 11) dX8_crosses_6 (by decide) (fun c29 => absurd c29 (by omega)) (fun _ => ?_)
    refine xv_iconst T dX8_crosses_9 ?_
    exact rI T (u := N) hr hk hK hP hS dX8_crosses_10 (by skip; unfold sCross; (repeat' split) <;> first | (exfalso; omega) | rfl)
set_option maxHeartbeats 4000000 in
set_option maxRecDepth 100000 in
theorem c_X8_passes (l : Launch) (K : KT) (o : Nat) (N B SS TT F : Int → Int) (dy : Int) (r_dy : -2147483648 ≤ dy ∧ dy ≤ 2147483647) (hI : Inv N) : CtI l yX8_passes cX8_passes 6 .int 2 47 K [.ref o, .int (iI dy)] (mW K o N B SS TT F) (Blk o 5) (fun (z : Int) (u : Int → Int) => (z, u) = sPass N dy) (fun u => mW K o u B SS TT F) := by
  refine CtI_of (by decide) (Nat.le_of_ble_eq_true rfl) ?_
  intro p e s m args below meth c T hr hk hP hK ls hl
  have T : CF p m c cX8_passes 6 s args RX8 := T
  have hS : va_S (Blk o 5) s.heap s.heap [] := va_S.rf
  have hl : lv_has ls 6 [(0, .ref o), (1, .int (iI dy))] := hl
  obtain ⟨hI0, hIL, hIH, hIB, hID, hIC, hIG, hIZ, hIF⟩ := id hI
  have hR : InR N := ⟨hI0, hIB⟩
  obtain ⟨b0, b1, b2, b3, b4, b5, b6, b7, b8, b9⟩ := id hI0
  refine lv_iload_n T.1 T.2.1 dX8_passes_0 rfl (lv_at hl 1 rfl) ?_
  refine xv_iconst T dX8_passes_1 ?_
  refine xv_bipush T dX8_passes_2 (by omega) ?_
  refine cI_S T hK hP hS (c_X8_in l K dy 1 60 (by omega) (by omega) (by omega)) iX8_in mw_4_15 ⟨Nat.le_of_ble_eq_true rfl, Nat.le_of_ble_eq_true rfl⟩ xP_nil noA rfl hl.1 rfl (Nat.le_of_ble_eq_true rfl) ⟨Nat.zero_le _, Nat.zero_le _⟩ dX8_passes_4 (fun z1 _ H1 locs q2 hP1 hg1 hg2 hS => ?_)
  have hP := xP_kept hP hg2
  generalize H1 = H at hP hS ⊢
  clear hg1 hg2 hP1
  rcases q2 with ⟨rfl, q2⟩ | ⟨rfl, q2⟩
  · skip
    refine xv_if_ne T (by omega) (tgt := 12) dX8_passes_7 (by decide) (fun _ => ?_) (fun c3 => absurd c3 (by omega))
    refine lv_aload_n T.1 T.2.1 dX8_passes_12 rfl (lv_at hl 0 rfl) ?_
    refine g8_now T hK hP 0 rfl rfl mw_3_175 dX8_passes_13 ?_
    refine xv_iconst T dX8_passes_16 ?_
    refine xa_iald T hK hP 1 rfl rfl 1 (by omega) (by omega) (by decide) dX8_passes_17 ?_
    refine lv_iload_n T.1 T.2.1 dX8_passes_18 rfl (lv_at hl 1 rfl) ?_
    refine xv_iadd T dX8_passes_19 ?_
    refine xv_sipush T dX8_passes_20 (by omega) ?_
    refine xv_icmp_le T (by omega) (tgt := 29) dX8_passes_23 (by decide) (fun c4 => ?_) (fun c4 => ?_)
    · skip
      refine xv_iconst T dX8_passes_29 ?_
      refine lv_istore_n (lv' := [(2, .int (iI 0)), (0, .ref o), (1, .int (iI dy))]) T.1 T.2.1 dX8_passes_30 rfl hl (by decide) rfl (fun ls hl => ?_)
      refine xv_iconst T dX8_passes_31 ?_
      refine lv_istore_n (lv' := [(3, .int (iI 0)), (2, .int (iI 0)), (0, .ref o), (1, .int (iI dy))]) T.1 T.2.1 dX8_passes_32 rfl hl (by decide) rfl (fun ls hl => ?_)
      have lp33 : ∀ (fuel : Nat) (acc : Int) (d : Int) (NL : Int → Int) (H : Heap) (locs : List Loc) (ls : Array Slot), (0 ≤ d ∧ d ≤ dy) → (NL = (dayF d.toNat N).1 ∧ acc = (dayF d.toNat N).2) → (InR NL) → (InK NL) → (NL 1 = N 1 + d) → dy - d < (fuel : Int) → xP K (mW K o NL B SS TT F) H → va_S (Blk o 5) s.heap H locs → lv_has ls 6 [(0, .ref o), (1, .int (iI dy)), (2, .int (iI acc)), (3, .int (iI d))] → W p l e (rmF 2 47) s m args below meth c H locs 0 0 (MQ below (qI K (fun (z : Int) (u : Int → Int) => (z, u) = sPass N dy) (fun u => mW K o u B SS TT F) (Blk o 5)) args s 0 0 (Blk o 5)) (F0 m 33 ls []) := by
        intro fuel
        induction fuel with
        | zero =>
          intro acc d NL H locs ls hd hq hRL hKL h1 hm hP hS hl
          exact absurd hm (by omega)
        | succ fuel ih33 =>
          intro acc d NL H locs ls hd hq hRL hKL h1 hm hP hS hl
          obtain ⟨c0, c1, c2, c3, c4, c5, c6, c7, c8, c9⟩ := id hRL.1
          refine lv_iload_n T.1 T.2.1 dX8_passes_33 rfl (lv_at hl 3 rfl) ?_
          refine lv_iload_n T.1 T.2.1 dX8_passes_34 rfl (lv_at hl 1 rfl) ?_
          refine xv_icmp_ge T (by omega) (tgt := 140) dX8_passes_35 (by decide) (fun c5 => ?_) (fun c5 => ?_)
          · skip
            refine lv_iload_n T.1 T.2.1 dX8_passes_140 rfl (lv_at hl 2 rfl) ?_
            exact rI T (u := NL) hr hk hK hP hS dX8_passes_141 (by rw [hq.1, hq.2, show d = dy by omega]; unfold sPass; rw [if_neg (by omega), if_neg (by omega)])
          · skip
            refine lv_aload_n T.1 T.2.1 dX8_passes_38 rfl (lv_at hl 0 rfl) ?_
            refine g8_now T hK hP 0 rfl rfl mw_3_175 dX8_passes_39 ?_
            refine xv_iconst T dX8_passes_42 ?_
            refine lv_dup2_11 T.1 T.2.1 dX8_passes_43 rfl rfl ?_
            refine xa_iald T hK hP 1 rfl rfl 1 (by omega) (by omega) (by decide) dX8_passes_44 ?_
            refine xv_iconst T dX8_passes_45 ?_
            refine xv_iadd T dX8_passes_46 ?_
            refine xa_iast T hK hP (m_D K o NL B SS TT F) hS 1 rfl rfl (by omega) (by decide) dX8_passes_47 (mu_N K o NL B SS TT F (NL 1 + 1) (by omega)) (fun H locs hP hS => ?_)
            obtain ⟨Nd, hNd⟩ : ∃ Y0 : Int → Int, Y0 = uZ NL 1 (NL 1 + 1) := ⟨_, rfl⟩
            have hP : xP K (mW K o Nd B SS TT F) H := by rw [hNd]; exact hP
            have hRd : InR Nd := by rw [hNd]; exact inR_day hRL (by omega)
            refine lv_aload_n T.1 T.2.1 dX8_passes_48 rfl (lv_at hl 0 rfl) ?_
            refine xv_iconst T dX8_passes_49 ?_
            refine xv_iconst T dX8_passes_50 ?_
            refine cI_V T hK hP hS 0 rfl rfl rfl (c_X8_nextOf l K o Nd B SS TT F (-1) (-1) (by omega) (by rw [hNd, uZ_ne (by omega)]; omega) hRd) iX8_nextOf mw_4_72 ⟨Nat.le_of_ble_eq_true rfl, Nat.le_of_ble_eq_true rfl⟩ hP noA rfl hl.1 rfl (Nat.le_of_ble_eq_true rfl) ⟨Nat.zero_le _, Nat.zero_le _⟩ dX8_passes_51 (fun bz _ H1 locs qn hP1 hg1 hg2 hS => ?_)
            have hP := xP_kept hP hg2
            generalize H1 = H at hP hS ⊢
            clear hg1 hg2 hP1
            refine lv_istore (lv' := [(4, .int (iI bz)), (0, .ref o), (1, .int (iI dy)), (2, .int (iI acc)), (3, .int (iI d))]) T.1 T.2.1 dX8_passes_54 hl (by decide) rfl (fun ls hl => ?_)
            have lp56 : ∀ (fuel : Nat) (acc2 : Int) (b : Int) (NM : Int → Int) (H : Heap) (locs : List Loc) (ls : Array Slot), (b = nxt NM (-1) (-1)) → (InR NM) → (InK NM) → (NM 1 = Nd 1) → (∃ n : Nat, livF NM < (n : Int) ∧ roF 61 Nd = ((roF n NM).1, acc2 - acc + (roF n NM).2)) → livF NM < (fuel : Int) → xP K (mW K o NM B SS TT F) H → va_S (Blk o 5) s.heap H locs → lv_has ls 6 [(0, .ref o), (1, .int (iI dy)), (2, .int (iI acc2)), (3, .int (iI d)), (4, .int (iI b))] → W p l e (rmF 2 47) s m args below meth c H locs 0 0 (MQ below (qI K (fun (z : Int) (u : Int → Int) => (z, u) = sPass N dy) (fun u => mW K o u B SS TT F) (Blk o 5)) args s 0 0 (Blk o 5)) (F0 m 56 ls []) := by
              intro fuel
              induction fuel with
              | zero =>
                intro acc2 b NM H locs ls hbn hRM hKM h1M hqm hm hP hS hl
                exact absurd hm (by have := (livF_in (N := NM) hRM.1.2.2.2.2.2.2.1.1).1; omega)
              | succ fuel ih56 =>
                intro acc2 b NM H locs ls hbn hRM hKM h1M hqm hm hP hS hl
                obtain ⟨n, hn, hqm⟩ := hqm
                obtain ⟨e0, e1, e2, e3, e4, e5, e6, e7, e8, e9⟩ := id hRM.1
                have hbo := nxt_or NM (-1) (-1)
                rw [← hbn] at hbo
                have hNd1 : Nd 1 = N 1 + d + 1 := by rw [hNd, uZ_eq, h1]
                refine lv_iload T.1 T.2.1 dX8_passes_56 (lv_at hl 4 rfl) ?_
                refine xv_if_lt T (by omega) (tgt := 134) dX8_passes_58 (by decide) (fun c6 => ?_) (fun c6 => ?_)
                · skip
                  refine xv_iinc T (y := d + 1) (lv' := [(3, .int (iI (d + 1))), (0, .ref o), (1, .int (iI dy)), (2, .int (iI acc2)), (4, .int (iI b))]) dX8_passes_134 hl (q := 3) rfl (by omega) (by decide) rfl (fun ls hl => ?_)
                  refine lv_goto T.1 T.2.1 (tgt := 33) dX8_passes_137 (by decide) ?_
                  have hend : roF 61 Nd = (NM, acc2 - acc) := by rw [hqm, roF_0 (by rw [← hbn]; omega)]; simp
                  exact ih33 acc2 (d + 1) NM _ _ ls (by omega) (by rw [dayF_s (by omega), ← hq.1, ← hq.2, ← hNd, hend]; exact ⟨rfl, by omega⟩) hRM hKM (by rw [h1M, hNd, uZ_eq, h1]; omega) (by omega) hP hS (lv_sub hl [1, 2, 3, 0] rfl)
                · skip
                  have hf := hRM.2 b (by omega) (by omega)
                  have hpos : 0 < NM (272 + b) := isNx_pos (by rw [hbn]; exact nxt_is NM (-1) (-1)) (by omega)
                  refine lv_aload_n T.1 T.2.1 dX8_passes_61 rfl (lv_at hl 0 rfl) ?_
                  refine g8_now T hK hP 0 rfl rfl mw_3_175 dX8_passes_62 ?_
                  refine xv_sipush T dX8_passes_65 (by omega) ?_
                  refine lv_iload T.1 T.2.1 dX8_passes_68 (lv_at hl 4 rfl) ?_
                  refine xv_iadd T dX8_passes_70 ?_
                  refine xa_iald T hK hP 1 rfl rfl (392 + b) (by omega) (by omega) (by decide) dX8_passes_71 ?_
                  refine lv_aload_n T.1 T.2.1 dX8_passes_72 rfl (lv_at hl 0 rfl) ?_
                  refine g8_now T hK hP 0 rfl rfl mw_3_175 dX8_passes_73 ?_
                  refine xv_iconst T dX8_passes_76 ?_
                  refine xa_iald T hK hP 1 rfl rfl 1 (by omega) (by omega) (by decide) dX8_passes_77 ?_
                  refine xv_icmp_ge T (by omega) (tgt := 134) dX8_passes_78 (by decide) (fun c7 => ?_) (fun c7 => ?_)
                  · skip
                    refine xv_iinc T (y := d + 1) (lv' := [(3, .int (iI (d + 1))), (0, .ref o), (1, .int (iI dy)), (2, .int (iI acc2)), (4, .int (iI b))]) dX8_passes_134 hl (q := 3) rfl (by omega) (by decide) rfl (fun ls hl => ?_)
                    refine lv_goto T.1 T.2.1 (tgt := 33) dX8_passes_137 (by decide) ?_
                    have hend : roF 61 Nd = (NM, acc2 - acc) := by rw [hqm, roF_0 (by rw [← hbn]; omega)]; simp
                    exact ih33 acc2 (d + 1) NM _ _ ls (by omega) (by rw [dayF_s (by omega), ← hq.1, ← hq.2, ← hNd, hend]; exact ⟨rfl, by omega⟩) hRM hKM (by rw [h1M, hNd, uZ_eq, h1]; omega) (by omega) hP hS (lv_sub hl [1, 2, 3, 0] rfl)
                  · skip
                    refine lv_aload_n T.1 T.2.1 dX8_passes_81 rfl (lv_at hl 0 rfl) ?_
                    refine g8_now T hK hP 0 rfl rfl mw_3_175 dX8_passes_82 ?_
                    refine xv_sipush T dX8_passes_85 (by omega) ?_
                    refine lv_iload T.1 T.2.1 dX8_passes_88 (lv_at hl 4 rfl) ?_
                    refine xv_iadd T dX8_passes_90 ?_
                    refine xa_iald T hK hP 1 rfl rfl (272 + b) (by omega) (by omega) (by decide) dX8_passes_91 ?_
                    refine lv_istore (lv' := [(5, .int (iI (NM (272 + b)))), (0, .ref o), (1, .int (iI dy)), (2, .int (iI acc2)), (3, .int (iI d)), (4, .int (iI b))]) T.1 T.2.1 dX8_passes_92 hl (by decide) rfl (fun ls hl => ?_)
                    refine lv_iload_n T.1 T.2.1 dX8_passes_94 rfl (lv_at hl 3 rfl) ?_
                    refine lv_aload_n T.1 T.2.1 dX8_passes_95 rfl (lv_at hl 1 rfl) ?_
                    refine lv_iload T.1 T.2.1 dX8_passes_96 (lv_at hl 5 rfl) ?_
                    refine lv_iload T.1 T.2.1 dX8_passes_98 (lv_at hl 0 rfl) ?_
                    refine xv_iconst T dX8_passes_100 ?_
                    refine cI_V T hK hP hS 0 rfl rfl rfl (c_X8_takes l K o NM B SS TT F b (NM (272 + b)) 3 (by omega) (by omega) (by omega) hRM) iX8_takes mw_4_91 ⟨Nat.le_of_ble_eq_true rfl, Nat.le_of_ble_eq_true rfl⟩ hP (fun _ h => h) rfl hl.1 rfl (Nat.le_of_ble_eq_true rfl) ⟨Nat.zero_le _, Nat.zero_le _⟩ dX8_passes_101 (fun vz Nt H1 locs qt hP1 hg1 hg2 hS => ?_)
                    have hP : xP K (mW K o Nt B SS TT F) H1 := hP1
                    generalize H1 = H at hP hS ⊢
                    clear hg1 hg2 hP1
                    obtain ⟨hvz, hNt⟩ := qt
                    refine xv_iadd T dX8_passes_104 ?_
                    refine lv_istore_n (lv' := [(2, .int (iI (acc2 + vz))), (5, .int (iI (NM (272 + b)))), (0, .ref o), (1, .int (iI dy)), (3, .int (iI d)), (4, .int (iI b))]) T.1 T.2.1 dX8_passes_105 rfl hl (by decide) rfl (fun ls hl => ?_)
                    have hRt : InR Nt := by rw [hNt]; exact takeF_R hRM (by omega) (by omega) (by omega)
                    have hKt : InK Nt := by rw [hNt]; exact inK_of hKM fun k a b => takeF_ne (by omega) (by omega) (by omega)
                    refine lv_aload_n T.1 T.2.1 dX8_passes_106 rfl (lv_at hl 2 rfl) ?_
                    refine lv_aload_n T.1 T.2.1 dX8_passes_107 rfl (lv_at hl 2 rfl) ?_
                    refine g8_now T hK hP 0 rfl rfl mw_3_175 dX8_passes_108 ?_
                    refine xv_sipush T dX8_passes_111 (by omega) ?_
                    refine lv_iload T.1 T.2.1 dX8_passes_114 (lv_at hl 5 rfl) ?_
                    refine xv_iadd T dX8_passes_116 ?_
                    refine xa_iald T hK hP 1 rfl rfl (152 + b) (by omega) (by omega) (by decide) dX8_passes_117 ?_
                    refine xv_cv (b := NM (152 + b)) (by rw [hNt, takeF_ne (by omega) (by omega) (by omega)]) ?_
                    refine lv_iload T.1 T.2.1 dX8_passes_118 (lv_at hl 1 rfl) ?_
                    refine cV_V T hK hP hS 0 rfl rfl rfl (c_X8_loses l K o Nt B SS TT F (NM (152 + b)) (NM (272 + b)) (by omega) (by omega) hKt) iX8_loses mw_4_152 ⟨Nat.le_of_ble_eq_true rfl, Nat.le_of_ble_eq_true rfl⟩ hP (fun _ h => h) rfl hl.1 rfl (Nat.le_of_ble_eq_true rfl) ⟨Nat.zero_le _, Nat.zero_le _⟩ dX8_passes_120 (fun Nu H1 locs hNu hP1 hg1 hg2 hS => ?_)
                    have hP : xP K (mW K o Nu B SS TT F) H1 := hP1
                    generalize H1 = H at hP hS ⊢
                    clear hg1 hg2 hP1
                    have hRu : InR Nu := by rw [hNu]; exact losF_R hRt (by omega)
                    refine lv_aload_n T.1 T.2.1 dX8_passes_123 rfl (lv_at hl 2 rfl) ?_
                    refine xv_iconst T dX8_passes_124 ?_
                    refine xv_iconst T dX8_passes_125 ?_
                    refine cI_V T hK hP hS 0 rfl rfl rfl (c_X8_nextOf l K o Nu B SS TT F (-1) (-1) (by omega) (by omega) hRu) iX8_nextOf mw_4_72 ⟨Nat.le_of_ble_eq_true rfl, Nat.le_of_ble_eq_true rfl⟩ hP noA rfl hl.1 rfl (Nat.le_of_ble_eq_true rfl) ⟨Nat.zero_le _, Nat.zero_le _⟩ dX8_passes_126 (fun bz2 _ H1 locs qn2 hP1 hg1 hg2 hS => ?_)
                    have hP := xP_kept hP hg2
                    generalize H1 = H at hP hS ⊢
                    clear hg1 hg2 hP1
                    refine lv_istore (lv' := [(4, .int (iI bz2)), (2, .int (iI (acc2 + vz))), (5, .int (iI (NM (272 + b)))), (0, .ref o), (1, .int (iI dy)), (3, .int (iI d))]) T.1 T.2.1 dX8_passes_129 hl (by decide) rfl (fun ls hl => ?_)
                    refine lv_goto T.1 T.2.1 (tgt := 56) dX8_passes_131 (by decide) ?_
                    have hlv := (livF_in (N := NM) (by omega)).1
                    obtain ⟨n, rfl⟩ : ∃ k : Nat, n = k + 1 := ⟨n - 1, by omega⟩
                    have hlt : livF Nu = livF NM - 1 := by rw [hNu, livF_eq (losF_ne 10 (by omega) (by omega) (by omega)) (fun b h1 h2 => losF_ne 10 (by omega) (by omega) (by omega)), hNt, livF_take hRM (by omega) (by omega) (by omega)]
                    exact ih56 (acc2 + vz) bz2 Nu _ _ ls qn2.1 hRu (by rw [hNu]; exact (losF_K 10 (by omega) (by omega) (by omega) hKt).1) (by rw [hNu, losF_ne 10 (by omega) (by omega) (by omega), hNt, takeF_ne (by omega) (by omega) (by omega)]; exact h1M) ⟨n, by omega, by rw [hqm, roF_s (by rw [← hbn]; omega), ← hbn, hNu, hNt, hvz]; congr 1; omega⟩ (by omega) hP hS (lv_sub hl [3, 4, 1, 5, 0] rfl)
            exact lp56 62 acc bz Nd _ _ ls qn.1 hRd (by rw [hNd]; exact inK_of hKL fun k a b => uZ_ne (by omega)) rfl ⟨61, by have := (livF_in (N := Nd) hRd.1.2.2.2.2.2.2.1.1).2; have := hRd.1.2.2.2.2.2.2.1.2; omega, by simp⟩ (by have h5 := (livF_in (N := Nd) hRd.1.2.2.2.2.2.2.1.1).2; have h6 := hRd.1.2.2.2.2.2.2.1.2; omega) hP hS (lv_sub hl [1, 2, 3, 4, 0] rfl)
      exact lp33 61 0 0 N _ _ ls (by omega) ⟨rfl, rfl⟩ hR (inK_inv hI) (by omega) (by omega) hP hS (lv_sub hl [2, 3, 1, 0] rfl)
    · skip
      refine xv_bipush T dX8_passes_26 (by omega) ?_
      exact rI T (u := N) hr hk hK hP hS dX8_passes_28 (by skip; unfold sPass; (repeat' split) <;> first | (exfalso; omega) | rfl)
  · skip
    refine xv_if_ne T (by omega) (tgt := 12) dX8_passes_7 (by decide) (fun c9 => absurd c9 (by omega)) (fun _ => ?_)
    refine xv_iconst T dX8_passes_10 ?_
    exact rI T (u := N) hr hk hK hP hS dX8_passes_11 (by skip; unfold sPass; (repeat' split) <;> first | (exfalso; omega) | rfl)
