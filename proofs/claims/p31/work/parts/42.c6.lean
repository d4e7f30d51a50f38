set_option maxHeartbeats 4000000 in
set_option maxRecDepth 100000 in
theorem c_X6_countLocker (l : Launch) (K : KT) (o : Nat) (N : Int → Int) (lk : Int) (r_lk : -2147483648 ≤ lk ∧ lk ≤ 2147483647) (hI : Inv N) : CtI l yX6_countLocker cX6_countLocker 7 .int 3 83 K [.ref o, .int (iI lk)] (shipW K o N) (Blk o 21) (fun (z : Int) (u : Int → Int) => (z, u) = sInspect N lk) (fun u => shipW K o u) := by
  refine CtI_of (by decide) (Nat.le_of_ble_eq_true rfl) ?_
  intro p e s m args below meth c T hr hk hP hK ls hl
  have T : CF p m c cX6_countLocker 7 s args RX6 := T
  have hS : va_S (Blk o 21) s.heap s.heap [] := va_S.rf
  have hl : lv_has ls 7 [(0, .ref o), (1, .int (iI lk))] := hl
  obtain ⟨hI0, hIL, hIH, hIB, hID, hIC, hIG, hIZ, hIF⟩ := id hI
  have hR : InR N := ⟨hI0, hIB⟩
  obtain ⟨b0, b1, b2, b3, b4, b5, b6, b7, b8, b9⟩ := id hI0
  refine lv_aload_n T.1 T.2.1 dX6_countLocker_0 rfl (lv_at hl 0 rfl) ?_
  refine lv_iload_n T.1 T.2.1 dX6_countLocker_1 rfl (lv_at hl 1 rfl) ?_
  refine cI_V T hK hP hS 0 rfl rfl rfl (c_X6_hasLocker l K o N lk (by omega) (by omega)) iX6_hasLocker mw_2_97 ⟨Nat.le_of_ble_eq_true rfl, Nat.le_of_ble_eq_true rfl⟩ hP noA rfl hl.1 rfl (Nat.le_of_ble_eq_true rfl) ⟨Nat.zero_le _, Nat.zero_le _⟩ dX6_countLocker_2 (fun z1 _ H1 locs q2 hP1 hg1 hg2 hS => ?_)
  have hP := xP_kept hP hg2
  generalize H1 = H at hP hS ⊢
  clear hg1 hg2 hP1
  rcases q2 with ⟨rfl, q2⟩ | ⟨rfl, q2⟩
  · skip
    refine xv_if_ne T (by omega) (tgt := 10) dX6_countLocker_5 (by decide) (fun _ => ?_) (fun c3 => absurd c3 (by omega))
    refine lv_aload_n T.1 T.2.1 dX6_countLocker_10 rfl (lv_at hl 0 rfl) ?_
    have fl := hIL lk (by omega) (by omega)
    refine g6_zone T hK hP 0 rfl (v := .int (iI (N 0))) rfl mw_1_142 dX6_countLocker_11 ?_
    refine xv_iconst T dX6_countLocker_14 ?_
    refine xv_icmp_eq T (by omega) (tgt := 21) dX6_countLocker_15 (by decide) (fun c4 => ?_) (fun c4 => ?_)
    · skip
      have jn44 : ∀ (fv : Int) (H : Heap) (locs : List Loc) (ls : Array Slot), (fv = finF N lk) → xP K (shipW K o N) H → va_S (Blk o 21) s.heap H locs → lv_has ls 7 [(0, .ref o), (1, .int (iI lk))] → W p l e (rmF 3 83) s m args below meth c H locs 0 0 (MQ below (qI K (fun (z : Int) (u : Int → Int) => (z, u) = sInspect N lk) (fun u => shipW K o u) (Blk o 21)) args s 0 0 (Blk o 21)) (F0 m 44 ls [.int (iI fv)]) := by
        intro fv H locs ls hfv hP hS hl
        have hfr : 0 ≤ fv ∧ fv ≤ 100000 := by rw [hfv]; unfold finF; split <;> omega
        refine lv_istore_n (lv' := [(2, .int (iI fv)), (0, .ref o), (1, .int (iI lk))]) T.1 T.2.1 dX6_countLocker_44 rfl hl (by decide) rfl (fun ls hl => ?_)
        refine lv_aload_n T.1 T.2.1 dX6_countLocker_45 rfl (lv_at hl 1 rfl) ?_
        refine lv_iload_n T.1 T.2.1 dX6_countLocker_46 rfl (lv_at hl 2 rfl) ?_
        refine cL_V T hK hP hS 0 rfl rfl rfl (c_X6_taxesOf l K o N lk (by omega) hI) iX6_taxesOf mw_2_208 ⟨Nat.le_of_ble_eq_true rfl, Nat.le_of_ble_eq_true rfl⟩ hP noA rfl hl.1 rfl (Nat.le_of_ble_eq_true rfl) ⟨Nat.zero_le _, Nat.zero_le _⟩ dX6_countLocker_47 (fun z5 _ H1 locs q6 hP1 hg1 hg2 hS => ?_)
        have hP := xP_kept hP hg2
        generalize H1 = H at hP hS ⊢
        clear hg1 hg2 hP1
        obtain rfl : z5 = sumZ (fun g => worA N g (N (64 + 8 * lk + g))) (N 5).toNat := q6
        refine lv_iload_n T.1 T.2.1 dX6_countLocker_50 rfl (lv_at hl 0 rfl) ?_
        refine xv_i2l T (by omega) dX6_countLocker_51 ?_
        refine xv_ladd T dX6_countLocker_52 ?_
        refine lv_lstore_n (lv' := [(3, .long (lI (sumZ (fun g => worA N g (N (64 + 8 * lk + g))) (N 5).toNat + fv))), (2, .int (iI fv)), (0, .ref o), (1, .int (iI lk))]) T.1 T.2.1 dX6_countLocker_53 rfl hl (by decide) rfl (fun ls hl => ?_)
        have hdue : sumZ (fun g => worA N g (N (64 + 8 * lk + g))) (N 5).toNat + fv = dueF N lk := by unfold dueF; rw [hfv]; omega
        rw [hdue] at hl
        refine lv_aload_n T.1 T.2.1 dX6_countLocker_54 rfl (lv_at hl 2 rfl) ?_
        refine g6_seals T hK hP 0 rfl rfl mw_1_153 dX6_countLocker_55 ?_
        refine cI_V T hK hP hS 8 rfl rfl rfl (c_X5_left l K o N (by omega)) iX5_left mw_2_53 ⟨Nat.le_of_ble_eq_true rfl, Nat.le_of_ble_eq_true rfl⟩ hP noA rfl hl.1 rfl (Nat.le_of_ble_eq_true rfl) ⟨Nat.zero_le _, Nat.zero_le _⟩ dX6_countLocker_58 (fun z7 _ H1 locs q8 hP1 hg1 hg2 hS => ?_)
        have hP := xP_kept hP hg2
        generalize H1 = H at hP hS ⊢
        clear hg1 hg2 hP1
        obtain rfl : z7 = 200 - N 7 := q8
        refine xv_iconst T dX6_countLocker_61 ?_
        refine xv_icmp_lt T (by omega) (tgt := 73) dX6_countLocker_62 (by decide) (fun c9 => ?_) (fun c9 => ?_)
        · skip
          refine xv_bipush T dX6_countLocker_73 (by omega) ?_
          exact rI T (u := N) hr hk hK hP hS dX6_countLocker_75 (by skip; unfold sInspect; first | rw [if_pos (by omega)] | (rw [if_neg (by omega)]; first | rw [if_pos (by omega)] | (rw [if_neg (by omega)]; first | rw [if_pos (by first | exact Or.inl (by omega) | exact Or.inr (by assumption))] | rw [if_neg (fun h => h.elim (fun h => h (by omega)) (fun h => h (by assumption)))])))
        · skip
          refine lv_lload_n T.1 T.2.1 dX6_countLocker_65 rfl (lv_at hl 0 rfl) ?_
          refine xv_ldc2 T mw_2_110 (n := 2147483647) (by decide +kernel) dX6_countLocker_66 ?_
          refine xv_lcmp_le T (tgt := 76) dX6_countLocker_69 dX6_countLocker_70 (by decide) (fun c10 => ?_) (fun c10 => ?_)
          · skip
            refine lv_aload_n T.1 T.2.1 dX6_countLocker_76 rfl (lv_at hl 2 rfl) ?_
            refine g6_releases T hK hP 0 rfl rfl mw_1_157 dX6_countLocker_77 ?_
            refine lv_dup T.1 T.2.1 dX6_countLocker_80 rfl ?_
            refine g4_fines T hK hP 18 rfl (v := .long (lI (N 8))) rfl mw_1_128 dX6_countLocker_81 ?_
            refine lv_iload_n T.1 T.2.1 dX6_countLocker_84 rfl (lv_at hl 1 rfl) ?_
            refine xv_i2l T (by omega) dX6_countLocker_85 ?_
            refine xv_ladd T dX6_countLocker_86 ?_
            refine p4_fines T hK hP (ship_D K o N) hS 18 rfl (Nat.le_of_ble_eq_true rfl) mw_1_128 dX6_countLocker_87 (su_f8 K o N (N 8 + fv)) (fun H locs hP hS => ?_)
            obtain ⟨Nf, hNf⟩ : ∃ Y0 : Int → Int, Y0 = uZ N 8 (N 8 + fv) := ⟨_, rfl⟩
            have hP : xP K (shipW K o Nf) H := by rw [hNf]; exact hP
            refine xv_iconst T dX6_countLocker_90 ?_
            refine lv_istore (lv' := [(5, .int (iI 0)), (3, .long (lI (dueF N lk))), (2, .int (iI fv)), (0, .ref o), (1, .int (iI lk))]) T.1 T.2.1 dX6_countLocker_91 hl (by decide) rfl (fun ls hl => ?_)
            have lp93 : ∀ (fuel : Nat) (i : Int) (NL : Int → Int) (H : Heap) (locs : List Loc) (ls : Array Slot), (0 ≤ i ∧ i ≤ N 5) → ((NL 5 = N 5 ∧ NL 7 = N 7) ∧ NL (14 + lk) = N (14 + lk) ∧ NL (19 + lk) = N (19 + lk)) → (NL = insF i.toNat Nf lk) → (InR NL) → (∀ g : Int, i ≤ g → g < 8 → NL (64 + 8 * lk + g) = N (64 + 8 * lk + g) ∧ restF NL g = restF N g) → N 5 - i < (fuel : Int) → xP K (shipW K o NL) H → va_S (Blk o 21) s.heap H locs → lv_has ls 7 [(0, .ref o), (1, .int (iI lk)), (3, .long (lI (dueF N lk))), (5, .int (iI i))] → W p l e (rmF 3 83) s m args below meth c H locs 0 0 (MQ below (qI K (fun (z : Int) (u : Int → Int) => (z, u) = sInspect N lk) (fun u => shipW K o u) (Blk o 21)) args s 0 0 (Blk o 21)) (F0 m 93 ls []) := by
              intro fuel
              induction fuel with
              | zero =>
                intro i NL H locs ls hi2 h57 hqI hRL hms hm hP hS hl
                exact absurd hm (by omega)
              | succ fuel ih93 =>
                intro i NL H locs ls hi2 h57 hqI hRL hms hm hP hS hl
                obtain ⟨c0, c1, c2, c3, c4, c5, c6, c7, c8, c9⟩ := id hRL.1
                refine lv_iload T.1 T.2.1 dX6_countLocker_93 (lv_at hl 3 rfl) ?_
                refine lv_aload_n T.1 T.2.1 dX6_countLocker_95 rfl (lv_at hl 0 rfl) ?_
                refine g6_goods T hK hP 0 rfl (v := .int (iI (NL 5))) rfl mw_1_146 dX6_countLocker_96 ?_
                refine xv_icmp_ge T (by omega) (tgt := 149) dX6_countLocker_99 (by decide) (fun c11 => ?_) (fun c11 => ?_)
                · skip
                  obtain rfl : i = N 5 := by omega
                  refine lv_aload_n T.1 T.2.1 dX6_countLocker_149 rfl (lv_at hl 0 rfl) ?_
                  refine lv_iload_n T.1 T.2.1 dX6_countLocker_150 rfl (lv_at hl 1 rfl) ?_
                  refine cV_V T hK hP hS 0 rfl rfl rfl (c_X6_sealByOfficer l K o NL lk (by omega) (by omega) (by omega)) iX6_sealByOfficer mw_2_111 ⟨Nat.le_of_ble_eq_true rfl, Nat.le_of_ble_eq_true rfl⟩ hP (fun _ h => h) rfl hl.1 rfl (Nat.le_of_ble_eq_true rfl) ⟨Nat.zero_le _, Nat.zero_le _⟩ dX6_countLocker_151 (fun Ne H1 locs qe hP1 hg1 hg2 hS => ?_)
                  have hP : xP K (shipW K o Ne) H1 := hP1
                  generalize H1 = H at hP hS ⊢
                  clear hg1 hg2 hP1
                  refine lv_lload_n T.1 T.2.1 dX6_countLocker_154 rfl (lv_at hl 2 rfl) ?_
                  refine xv_l2i T dX6_countLocker_155 ?_
                  exact rI T (u := Ne) hr hk hK hP hS dX6_countLocker_156 (by rw [qe, hqI, ins_off (by omega) (by rw [hNf]; exact inR_fine hR hfr hIF) (by omega) (fun g a b => by rw [hNf, uZ_ne (by omega), restF_eq (N := N) (uZ_ne (by omega)) fun k c d => ⟨uZ_ne (by omega), uZ_ne (by omega)⟩]; have h1 := hIH lk g (by omega) (by omega) a b; have h2 := has_rest hI (l := lk) (g := g) (by omega) (by omega); omega) (by rw [hNf, uZ_ne (by omega)]; omega), hNf, hfv]; unfold sInspect; rw [if_neg (by omega), if_neg (by omega), if_neg (fun h => h.elim (fun h => h (by omega)) (fun h => h (by assumption)))])
                · skip
                  have hmi := hms i (by omega) (by omega)
                  have hhi := hIH lk i (by omega) (by omega) (by omega) (by omega)
                  have hrs := has_rest hI (l := lk) (g := i) (by omega) (by omega)
                  refine lv_aload_n T.1 T.2.1 dX6_countLocker_102 rfl (lv_at hl 0 rfl) ?_
                  refine g6_lockers T hK hP 0 rfl rfl mw_1_151 dX6_countLocker_103 ?_
                  refine lv_iload_n T.1 T.2.1 dX6_countLocker_106 rfl (lv_at hl 1 rfl) ?_
                  refine lv_iload T.1 T.2.1 dX6_countLocker_107 (lv_at hl 3 rfl) ?_
                  refine cI_V T hK hP hS 3 rfl rfl rfl (c_X2_place l K o NL lk i ) iX2_place mw_2_105 ⟨Nat.le_of_ble_eq_true rfl, Nat.le_of_ble_eq_true rfl⟩ hP noA rfl hl.1 rfl (Nat.le_of_ble_eq_true rfl) ⟨Nat.zero_le _, Nat.zero_le _⟩ dX6_countLocker_109 (fun z13 _ H1 locs q14 hP1 hg1 hg2 hS => ?_)
                  have hP := xP_kept hP hg2
                  generalize H1 = H at hP hS ⊢
                  clear hg1 hg2 hP1
                  obtain rfl : z13 = lk * 8 + i := q14
                  refine lv_istore (lv' := [(6, .int (iI (lk * 8 + i))), (0, .ref o), (1, .int (iI lk)), (3, .long (lI (dueF N lk))), (5, .int (iI i))]) T.1 T.2.1 dX6_countLocker_112 hl (by decide) rfl (fun ls hl => ?_)
                  refine lv_aload_n T.1 T.2.1 dX6_countLocker_114 rfl (lv_at hl 1 rfl) ?_
                  refine lv_iload T.1 T.2.1 dX6_countLocker_115 (lv_at hl 4 rfl) ?_
                  refine lv_aload_n T.1 T.2.1 dX6_countLocker_117 rfl (lv_at hl 1 rfl) ?_
                  refine g6_lockers T hK hP 0 rfl rfl mw_1_151 dX6_countLocker_118 ?_
                  refine g2_missing T hK hP 3 rfl rfl mw_1_45 dX6_countLocker_121 ?_
                  refine lv_iload T.1 T.2.1 dX6_countLocker_124 (lv_at hl 0 rfl) ?_
                  refine xa_iald T hK hP 7 rfl rfl (64 + 8 * lk + i) (by omega) (by omega) (by decide) dX6_countLocker_126 ?_
                  refine xv_iconst T dX6_countLocker_127 ?_
                  refine cL_V T hK hP hS 0 rfl rfl rfl (c_X6_release l K o NL i (NL (64 + 8 * lk + i)) 3 (by omega) (by omega) (by omega) (by omega) hRL) iX6_release mw_2_155 ⟨Nat.le_of_ble_eq_true rfl, Nat.le_of_ble_eq_true rfl⟩ hP (fun _ h => h) rfl hl.1 rfl (Nat.le_of_ble_eq_true rfl) ⟨Nat.zero_le _, Nat.zero_le _⟩ dX6_countLocker_128 (fun bvz Nz H1 locs qzz hP1 hg1 hg2 hS => ?_)
                  have hP : xP K (shipW K o Nz) H1 := hP1
                  generalize H1 = H at hP hS ⊢
                  clear hg1 hg2 hP1
                  obtain ⟨hvz, hNz⟩ := qzz
                  refine lv_pop2_2 T.1 T.2.1 dX6_countLocker_131 rfl ?_
                  refine lv_aload_n T.1 T.2.1 dX6_countLocker_132 rfl (lv_at hl 1 rfl) ?_
                  refine g6_lockers T hK hP 0 rfl rfl mw_1_151 dX6_countLocker_133 ?_
                  refine g2_missing T hK hP 3 rfl rfl mw_1_45 dX6_countLocker_136 ?_
                  refine lv_iload T.1 T.2.1 dX6_countLocker_139 (lv_at hl 0 rfl) ?_
                  refine xv_iconst T dX6_countLocker_141 ?_
                  refine xa_iast T hK hP (ship_D K o Nz) hS 7 rfl rfl (by omega) (by decide) dX6_countLocker_142 (su_a64 K o Nz (i := 64 + 8 * lk + i) 0 (by omega) (by omega)) (fun H locs hP hS => ?_)
                  obtain ⟨Ny, hNy⟩ : ∃ Y0 : Int → Int, Y0 = uZ Nz (64 + 8 * lk + i) 0 := ⟨_, rfl⟩
                  have hP : xP K (shipW K o Ny) H := by rw [hNy]; exact hP
                  refine xv_iinc T (y := i + 1) (lv' := [(5, .int (iI (i + 1))), (6, .int (iI (lk * 8 + i))), (0, .ref o), (1, .int (iI lk)), (3, .long (lI (dueF N lk)))]) dX6_countLocker_143 hl (q := 4) rfl (by omega) (by decide) rfl (fun ls hl => ?_)
                  refine lv_goto T.1 T.2.1 (tgt := 93) dX6_countLocker_146 (by decide) ?_
                  have ra := relF_all (NL (64 + 8 * lk + i)).toNat (N := NL) (g := i) (u := NL (64 + 8 * lk + i)) (r := 3) hRL (by omega) (by omega) (by omega) (by omega) (by omega)
                  rw [← hNz] at ra
                  have kz : ∀ k : Int, 14 ≤ k ∧ k < 120 → Nz k = NL k := fun k hk => ra.2.1 k (Or.inr (Or.inl hk))
                  exact ih93 (i + 1) Ny _ _ ls (by omega) (by rw [hNy, uZ_ne (by omega), uZ_ne (by omega), uZ_ne (by omega), uZ_ne (by omega), ra.2.1 5 (Or.inl (by omega)), ra.2.1 7 (Or.inl (by omega)), kz _ (by omega), kz _ (by omega)]; exact h57) (by rw [insF_s (by omega), ← hqI, hNy, hNz]) (by rw [hNy]; exact inR_has ra.1 (by omega)) (fun g h1 h2 => ⟨by rw [hNy, uZ_ne (by omega), kz _ (by omega)]; exact (hms g (by omega) h2).1, by rw [hNy, rest_has g (by omega) (by rw [ra.2.1 6 (Or.inl (by omega))]; exact c6.2), ra.2.2.2 g (by omega)]; exact (hms g (by omega) h2).2⟩) (by omega) hP hS (lv_sub hl [2, 3, 4, 0] rfl)
            have hRf : InR Nf := by rw [hNf]; exact inR_fine hR hfr hIF
            exact lp93 9 0 Nf _ _ ls (by omega) (by rw [hNf, uZ_ne (by omega), uZ_ne (by omega), uZ_ne (by omega), uZ_ne (by omega)]; exact ⟨⟨rfl, rfl⟩, rfl, rfl⟩) rfl hRf (fun g h1 h2 => ⟨by rw [hNf, uZ_ne (by omega)], by rw [hNf]; exact restF_eq (uZ_ne (by omega)) fun b h1 h2 => ⟨uZ_ne (by omega), uZ_ne (by omega)⟩⟩) (by omega) hP hS (lv_sub hl [3, 4, 1, 0] rfl)
          · skip
            refine xv_bipush T dX6_countLocker_73 (by omega) ?_
            exact rI T (u := N) hr hk hK hP hS dX6_countLocker_75 (by skip; unfold sInspect; first | rw [if_pos (by omega)] | (rw [if_neg (by omega)]; first | rw [if_pos (by omega)] | (rw [if_neg (by omega)]; first | rw [if_pos (by first | exact Or.inl (by omega) | exact Or.inr (by assumption))] | rw [if_neg (fun h => h.elim (fun h => h (by omega)) (fun h => h (by assumption)))])))
      refine lv_aload_n T.1 T.2.1 dX6_countLocker_21 rfl (lv_at hl 0 rfl) ?_
      refine g6_lockers T hK hP 0 rfl rfl mw_1_151 dX6_countLocker_22 ?_
      refine g2_state T hK hP 3 rfl rfl mw_1_36 dX6_countLocker_25 ?_
      refine lv_iload_n T.1 T.2.1 dX6_countLocker_28 rfl (lv_at hl 1 rfl) ?_
      refine xa_iald T hK hP 4 rfl rfl (14 + lk) (by omega) (by omega) (by decide) dX6_countLocker_29 ?_
      have f15 := hIL lk (by omega) (by omega)
      refine xv_iconst T dX6_countLocker_30 ?_
      refine xv_icmp_ne T (by omega) (tgt := 43) dX6_countLocker_31 (by decide) (fun c16 => ?_) (fun c16 => ?_)
      · skip
        refine xv_iconst T dX6_countLocker_43 ?_
        exact jn44 0 _ _ ls (by unfold finF; first | rw [if_pos (by assumption)] | rw [if_neg (by assumption)]) hP hS (lv_sub hl [0, 1] rfl)
      · skip
        refine lv_aload_n T.1 T.2.1 dX6_countLocker_34 rfl (lv_at hl 0 rfl) ?_
        refine g6_settings T hK hP 0 rfl rfl mw_1_149 dX6_countLocker_35 ?_
        refine xv_iconst T dX6_countLocker_38 ?_
        refine xa_iald T hK hP 2 rfl rfl 2 (by omega) (by omega) (by decide) dX6_countLocker_39 ?_
        refine lv_goto T.1 T.2.1 (tgt := 44) dX6_countLocker_40 (by decide) ?_
        exact jn44 (N 2) _ _ ls (by unfold finF; first | rw [if_pos (by assumption)] | rw [if_neg (by assumption)]) hP hS (lv_sub hl [0, 1] rfl)
    · skip
      refine xv_bipush T dX6_countLocker_18 (by omega) ?_
      exact rI T (u := N) hr hk hK hP hS dX6_countLocker_20 (by skip; unfold sInspect; first | rw [if_pos (by omega)] | (rw [if_neg (by omega)]; first | rw [if_pos (by omega)] | (rw [if_neg (by omega)]; first | rw [if_pos (by first | exact Or.inl (by omega) | exact Or.inr (by assumption))] | rw [if_neg (fun h => h.elim (fun h => h (by omega)) (fun h => h (by assumption)))])))
  · skip
    refine xv_if_ne T (by omega) (tgt := 10) dX6_countLocker_5 (by decide) (fun c17 => absurd c17 (by omega)) (fun _ => ?_)
    refine xv_iconst T dX6_countLocker_8 ?_
    exact rI T (u := N) hr hk hK hP hS dX6_countLocker_9 (by skip; unfold sInspect; first | rw [if_pos (by omega)] | (rw [if_neg (by omega)]; first | rw [if_pos (by omega)] | (rw [if_neg (by omega)]; first | rw [if_pos (by first | exact Or.inl (by omega) | exact Or.inr (by assumption))] | rw [if_neg (fun h => h.elim (fun h => h (by omega)) (fun h => h (by assumption)))])))
