set_option maxHeartbeats 4000000 in
set_option maxRecDepth 100000 in
theorem c_X3_readOrder (l : Launch) (K : KT) (g : Nat) (L NU TT : Int → Int) (F : Int → Int) (hL0 : 0 ≤ L 0 ∧ L 0 ≤ 80) (hL5 : 0 ≤ L 5 ∧ L 5 ≤ 1000) (hT : TxT TT (L 0)) (hF : F 2 = L 0 ∧ F 3 = L 5) (h50 : L 5 < L 0) : CtI l yX3_readOrder cX3_readOrder 3 .boolean 1 23 K [.ref g] (logW K g L NU TT) (Blk g 3) (fun (z : Int) (u : (Int → Int) × (Int → Int)) => (z = 1 ∧ ordZ TT F 4 = 1 ∧ okL (letF TT F) ∧ u.1 5 = ordZ TT F 3 ∧ u.1 6 = letF TT F ∧ nuOk TT F u.2 ∧ (∀ k : Int, k < 5 → u.1 k = L k) ∧ (nuIn NU → nuIn u.2)) ∨ (z = 0 ∧ (ordZ TT F 4 = 0 ∨ ¬ okL (letF TT F)) ∧ (∀ k : Int, k < 5 → u.1 k = L k) ∧ (nuIn NU → nuIn u.2))) (fun u => logW K g u.1 u.2 TT) := by
  refine CtI_of (by decide) (Nat.le_of_ble_eq_true rfl) ?_
  intro p e s m args below meth c T hr hk hP hK ls hl
  have T : CF p m c cX3_readOrder 3 s args RX3 := T
  have hS : va_S (Blk g 3) s.heap s.heap [] := va_S.rf
  have hl : lv_has ls 3 [(0, .ref g)] := hl
  have ht := hT (L 5) (by omega) (by omega)
  refine lv_aload_n T.1 T.2.1 dX3_readOrder_0 rfl (lv_at hl 0 rfl) ?_
  refine lv_aload_n T.1 T.2.1 dX3_readOrder_1 rfl (lv_at hl 0 rfl) ?_
  refine g3_signs T hK hP 0 rfl rfl mw_1_216 dX3_readOrder_2 ?_
  refine lv_aload_n T.1 T.2.1 dX3_readOrder_5 rfl (lv_at hl 0 rfl) ?_
  refine g3_position T hK hP 0 rfl (v := .int (iI (L 5))) rfl mw_1_213 dX3_readOrder_6 ?_
  refine xa_cald T hK hP 2 rfl rfl (L 5) (by omega) (by omega) (by decide) dX3_readOrder_9 ?_
  refine p3_kind T hK hP (log_D K g L NU TT) hS 0 rfl (Nat.le_of_ble_eq_true rfl) (by omega) mw_1_214 dX3_readOrder_10 (lu_L6 K g L NU TT (TT (L 5))) (fun H locs hP hS => ?_)
  obtain ⟨La, hLa⟩ : ∃ Y0 : Int → Int, Y0 = uZ L 6 (TT (L 5)) := ⟨_, rfl⟩
  have hP : xP K (logW K g La NU TT) H := by rw [hLa]; exact hP
  refine lv_aload_n T.1 T.2.1 dX3_readOrder_13 rfl (lv_at hl 0 rfl) ?_
  refine lv_dup T.1 T.2.1 dX3_readOrder_14 rfl ?_
  refine g3_position T hK hP 0 rfl (v := .int (iI (La 5))) rfl mw_1_213 dX3_readOrder_15 ?_
  refine xv_cv (b := L 5) (by rw [hLa, uZ_ne (by omega)]) ?_
  refine xv_iconst T dX3_readOrder_18 ?_
  refine xv_iadd T dX3_readOrder_19 ?_
  refine p3_position T hK hP (log_D K g La NU TT) hS 0 rfl (Nat.le_of_ble_eq_true rfl) mw_1_213 dX3_readOrder_20 (lu_L5 K g La NU TT (L 5 + 1)) (fun H locs hP hS => ?_)
  obtain ⟨Lb, hLb⟩ : ∃ Y0 : Int → Int, Y0 = uZ La 5 (L 5 + 1) := ⟨_, rfl⟩
  have hP : xP K (logW K g Lb NU TT) H := by rw [hLb]; exact hP
  refine lv_aload_n T.1 T.2.1 dX3_readOrder_23 rfl (lv_at hl 0 rfl) ?_
  refine g3_kind T hK hP 0 rfl (v := .int (iI (Lb 6))) rfl mw_1_214 dX3_readOrder_24 ?_
  refine xv_cv (b := TT (L 5)) (by rw [hLb, uZ_ne (by omega), hLa, uZ_eq]) ?_
  refine cI_S T hK hP hS (c_X3_numbersOf l K (TT (L 5)) (by omega)) iX3_numbersOf mw_3_104 ⟨Nat.le_of_ble_eq_true rfl, Nat.le_of_ble_eq_true rfl⟩ xP_nil noA rfl hl.1 rfl (Nat.le_of_ble_eq_true rfl) ⟨Nat.zero_le _, Nat.zero_le _⟩ dX3_readOrder_27 (fun nw _ H1 locs hnw hP1 hg1 hg2 hS => ?_)
  have hP := xP_kept hP hg2
  generalize H1 = H at hP hS ⊢
  clear hg1 hg2 hP1
  have hlet : letF TT F = TT (L 5) := by unfold letF; rw [hF.1, hF.2, hereF_in h50]
  obtain ⟨F0, hF0⟩ : ∃ Y : Int → Int, Y = uZ (uZ F 4 1) 3 (F 3 + 1) := ⟨_, rfl⟩
  have f2_0 : F0 2 = L 0 := by rw [hF0, uZ_ne (by omega), uZ_ne (by omega)]; exact hF.1
  have f3_e : F0 3 = L 5 + 1 := by rw [hF0, uZ_eq, hF.2]
  have f3_0 : 0 ≤ F0 3 ∧ F0 3 ≤ L 5 + 1 := by omega
  have f4_0 : F0 4 = 1 := by rw [hF0, uZ_ne (by omega), uZ_eq]
  have eA_0 : ∀ k : Int, k ≠ 5 → k ≠ 6 → Lb k = L k := fun k a b => by rw [hLb, uZ_ne a, hLa, uZ_ne b]
  have e0_0 : Lb 0 = L 0 := eA_0 0 (by omega) (by omega)
  have e5_0 : Lb 5 = F0 3 := by rw [hLb, uZ_eq, f3_e]
  have e6_0 : Lb 6 = TT (L 5) := by rw [hLb, uZ_ne (by omega), hLa, uZ_eq]
  clear hLa hLb f3_e
  rcases nbF_or (TT (L 5)) with ⟨hc, hw⟩ | ⟨hc, hw⟩ | ⟨hc, hw⟩ | ⟨hc, hw⟩
  · obtain rfl : nw = 4 := by omega
    refine lv_istore_n (lv' := [(1, .int (iI 4)), (0, .ref g)]) T.1 T.2.1 dX3_readOrder_30 rfl hl (by decide) rfl (fun ls hl => ?_)
    refine xv_iconst T dX3_readOrder_31 ?_
    refine lv_istore_n (lv' := [(2, .int (iI 0)), (1, .int (iI 4)), (0, .ref g)]) T.1 T.2.1 dX3_readOrder_32 rfl hl (by decide) rfl (fun ls hl => ?_)
    refine lv_iload_n T.1 T.2.1 dX3_readOrder_33 rfl (lv_at hl 0 rfl) ?_
    refine lv_iload_n T.1 T.2.1 dX3_readOrder_34 rfl (lv_at hl 1 rfl) ?_
    refine xv_icmp_ge T (by omega) (tgt := 69) dX3_readOrder_35 (by decide) (fun c1 => absurd c1 (by omega)) (fun _ => ?_)
    refine lv_iload_n T.1 T.2.1 dX3_readOrder_38 rfl (lv_at hl 0 rfl) ?_
    refine xv_if_le T (by omega) (tgt := 53) dX3_readOrder_39 (by decide) (fun _ => ?_) (fun c2 => absurd c2 (by omega))
    refine lv_aload_n T.1 T.2.1 dX3_readOrder_53 rfl (lv_at hl 2 rfl) ?_
    refine lv_iload_n T.1 T.2.1 dX3_readOrder_54 rfl (lv_at hl 0 rfl) ?_
    refine cI_V T hK hP hS 0 rfl rfl rfl (c_X3_readNumber l K g Lb NU TT F0 0 (by omega) (by omega) (by omega) (by rw [e0_0]; exact hT) (by omega)) iX3_readNumber mw_3_111 ⟨Nat.le_of_ble_eq_true rfl, Nat.le_of_ble_eq_true rfl⟩ hP (fun _ h => h) rfl hl.1 rfl (Nat.le_of_ble_eq_true rfl) ⟨Nat.zero_le _, Nat.zero_le _⟩ dX3_readOrder_55 (fun z3 u1 H1 locs q1 hP1 hg1 hg2 hS => ?_)
    have hP : xP K (logW K g u1.1 u1.2 TT) H1 := hP1
    generalize H1 = H at hP hS ⊢
    clear hg1 hg2 hP1
    rcases q1 with ⟨rfl, q1⟩ | ⟨rfl, q1⟩
    · skip
      obtain ⟨h4, hu⟩ := q1
      obtain ⟨G1, hG1⟩ : ∃ Y : Int → Int, Y = (ord0 TT F).2 := ⟨_, rfl⟩
      have f4_1 : G1 4 = 1 := by rw [hG1]; first | exact h4 | (unfold ord0; rw [← hF0]; exact h4)
      obtain ⟨hu1, hu2⟩ : u1.1 = uZ Lb 5 ((numP TT F0).2 3) ∧ u1.2 = uZ NU 0 (numP TT F0).1 := by rw [hu]; exact ⟨rfl, rfl⟩
      clear hu
      have hGn : G1 = (numP TT F0).2 := by rw [hG1, hF0]; rfl
      have f2_1 : G1 2 = L 0 := by rw [hGn, numP2]; exact f2_0
      have f3_1 : 0 ≤ G1 3 ∧ G1 3 ≤ L 5 + 5 := by have f3x := (numP_f TT F0).2.1; rw [← hGn] at f3x; omega
      have e5_1 : u1.1 5 = G1 3 := by rw [hu1, hGn]; exact uZ_eq
      have eB_1 : ∀ k : Int, k ≠ 5 → u1.1 k = Lb k := fun k a => by rw [hu1]; exact uZ_ne a
      have eA_1 : ∀ k : Int, k ≠ 5 → k ≠ 6 → u1.1 k = L k := fun k a b => (eB_1 k a).trans (eA_0 k a b)
      have e0_1 : u1.1 0 = L 0 := eA_1 0 (by omega) (by omega)
      have e6_1 : u1.1 6 = TT (L 5) := (eB_1 6 (by omega)).trans e6_0
      have hn0_1 : u1.2 0 = (ord0 TT F).1 := by rw [hu2, hF0]; exact uZ_eq
      have hI_1 : nuIn NU → nuIn (u1.2) := fun a => by rw [hu2]; exact nuIn_up (a)
      clear f2_0 f3_0 f4_0 eA_0 e0_0 e5_0 e6_0 eB_1 hu1 h4 hu2 hGn
      refine xv_if_ne T (by omega) (tgt := 63) dX3_readOrder_58 (by decide) (fun _ => ?_) (fun c4 => absurd c4 (by omega))
      refine xv_iinc T (y := 1) (lv' := [(2, .int (iI 1)), (1, .int (iI 4)), (0, .ref g)]) dX3_readOrder_63 hl (q := 0) rfl (by omega) (by decide) rfl (fun ls hl => ?_)
      refine lv_goto T.1 T.2.1 (tgt := 33) dX3_readOrder_66 (by decide) ?_
      refine lv_iload_n T.1 T.2.1 dX3_readOrder_33 rfl (lv_at hl 0 rfl) ?_
      refine lv_iload_n T.1 T.2.1 dX3_readOrder_34 rfl (lv_at hl 1 rfl) ?_
      refine xv_icmp_ge T (by omega) (tgt := 69) dX3_readOrder_35 (by decide) (fun c5 => absurd c5 (by omega)) (fun _ => ?_)
      refine lv_iload_n T.1 T.2.1 dX3_readOrder_38 rfl (lv_at hl 0 rfl) ?_
      refine xv_if_le T (by omega) (tgt := 53) dX3_readOrder_39 (by decide) (fun c6 => absurd c6 (by omega)) (fun _ => ?_)
      refine lv_aload_n T.1 T.2.1 dX3_readOrder_42 rfl (lv_at hl 2 rfl) ?_
      refine xv_bipush T dX3_readOrder_43 (by omega) ?_
      refine cI_V T hK hP hS 0 rfl rfl rfl (c_X3_readSign l K g u1.1 u1.2 TT G1 44 (by omega) (by omega) (by omega) (by rw [e0_1]; exact hT) (by omega)) iX3_readSign mw_3_107 ⟨Nat.le_of_ble_eq_true rfl, Nat.le_of_ble_eq_true rfl⟩ hP (fun _ h => h) rfl hl.1 rfl (Nat.le_of_ble_eq_true rfl) ⟨Nat.zero_le _, Nat.zero_le _⟩ dX3_readOrder_45 (fun z7 u2 H1 locs q2 hP1 hg1 hg2 hS => ?_)
      have hP : xP K (logW K g u2 u1.2 TT) H1 := hP1
      generalize H1 = H at hP hS ⊢
      clear hg1 hg2 hP1
      rcases q2 with ⟨rfl, q2⟩ | ⟨rfl, q2⟩
      · skip
        obtain ⟨h4, hu⟩ := q2
        obtain ⟨G2, hG2⟩ : ∃ Y : Int → Int, Y = psF TT G1 44 := ⟨_, rfl⟩
        have f4_2 : G2 4 = 1 := by rw [hG2]; first | exact h4 | (unfold ord0; rw [← hF0]; exact h4)
        have hu1 := hu
        clear hu
        have f2_2 : G2 2 = L 0 := by rw [hG2, psF2]; exact f2_1
        have f3_2 : 0 ≤ G2 3 ∧ G2 3 ≤ L 5 + 6 := by have f3x := (psF_f TT G1 44).2.1; rw [← hG2] at f3x; omega
        have e5_2 : u2 5 = G2 3 := by rw [hu1, hG2]; exact uZ_eq
        have eB_2 : ∀ k : Int, k ≠ 5 → u2 k = u1.1 k := fun k a => by rw [hu1]; exact uZ_ne a
        have eA_2 : ∀ k : Int, k ≠ 5 → k ≠ 6 → u2 k = L k := fun k a b => (eB_2 k a).trans (eA_1 k a b)
        have e0_2 : u2 0 = L 0 := eA_2 0 (by omega) (by omega)
        have e6_2 : u2 6 = TT (L 5) := (eB_2 6 (by omega)).trans e6_1
        clear f2_1 f3_1 f4_1 eA_1 e0_1 e5_1 e6_1 eB_2 hu1 h4
        refine xv_if_ne T (by omega) (tgt := 53) dX3_readOrder_48 (by decide) (fun _ => ?_) (fun c8 => absurd c8 (by omega))
        refine lv_aload_n T.1 T.2.1 dX3_readOrder_53 rfl (lv_at hl 2 rfl) ?_
        refine lv_iload_n T.1 T.2.1 dX3_readOrder_54 rfl (lv_at hl 0 rfl) ?_
        refine cI_V T hK hP hS 0 rfl rfl rfl (c_X3_readNumber l K g u2 u1.2 TT G2 1 (by omega) (by omega) (by omega) (by rw [e0_2]; exact hT) (by omega)) iX3_readNumber mw_3_111 ⟨Nat.le_of_ble_eq_true rfl, Nat.le_of_ble_eq_true rfl⟩ hP (fun _ h => h) rfl hl.1 rfl (Nat.le_of_ble_eq_true rfl) ⟨Nat.zero_le _, Nat.zero_le _⟩ dX3_readOrder_55 (fun z9 u3 H1 locs q3 hP1 hg1 hg2 hS => ?_)
        have hP : xP K (logW K g u3.1 u3.2 TT) H1 := hP1
        generalize H1 = H at hP hS ⊢
        clear hg1 hg2 hP1
        rcases q3 with ⟨rfl, q3⟩ | ⟨rfl, q3⟩
        · skip
          obtain ⟨h4, hu⟩ := q3
          obtain ⟨G3, hG3⟩ : ∃ Y : Int → Int, Y = (numP TT G2).2 := ⟨_, rfl⟩
          have f4_3 : G3 4 = 1 := by rw [hG3]; first | exact h4 | (unfold ord0; rw [← hF0]; exact h4)
          obtain ⟨hu1, hu2⟩ : u3.1 = uZ u2 5 ((numP TT G2).2 3) ∧ u3.2 = uZ u1.2 1 (numP TT G2).1 := by rw [hu]; exact ⟨rfl, rfl⟩
          clear hu
          have f2_3 : G3 2 = L 0 := by rw [hG3, numP2]; exact f2_2
          have f3_3 : 0 ≤ G3 3 ∧ G3 3 ≤ L 5 + 10 := by have f3x := (numP_f TT G2).2.1; rw [← hG3] at f3x; omega
          have e5_3 : u3.1 5 = G3 3 := by rw [hu1, hG3]; exact uZ_eq
          have eB_3 : ∀ k : Int, k ≠ 5 → u3.1 k = u2 k := fun k a => by rw [hu1]; exact uZ_ne a
          have eA_3 : ∀ k : Int, k ≠ 5 → k ≠ 6 → u3.1 k = L k := fun k a b => (eB_3 k a).trans (eA_2 k a b)
          have e0_3 : u3.1 0 = L 0 := eA_3 0 (by omega) (by omega)
          have e6_3 : u3.1 6 = TT (L 5) := (eB_3 6 (by omega)).trans e6_2
          have hn1_3 : u3.2 1 = (numP TT G2).1 := by rw [hu2]; exact uZ_eq
          have hn0_3 : u3.2 0 = (ord0 TT F).1 := by rw [hu2]; exact (uZ_ne (by decide)).trans hn0_1
          have hI_3 : nuIn NU → nuIn (u3.2) := fun a => by rw [hu2]; exact nuIn_up (hI_1 a)
          clear f2_2 f3_2 f4_2 eA_2 e0_2 e5_2 e6_2 eB_3 hu1 h4 hu2 hI_1 hn0_1
          refine xv_if_ne T (by omega) (tgt := 63) dX3_readOrder_58 (by decide) (fun _ => ?_) (fun c10 => absurd c10 (by omega))
          refine xv_iinc T (y := 2) (lv' := [(2, .int (iI 2)), (1, .int (iI 4)), (0, .ref g)]) dX3_readOrder_63 hl (q := 0) rfl (by omega) (by decide) rfl (fun ls hl => ?_)
          refine lv_goto T.1 T.2.1 (tgt := 33) dX3_readOrder_66 (by decide) ?_
          refine lv_iload_n T.1 T.2.1 dX3_readOrder_33 rfl (lv_at hl 0 rfl) ?_
          refine lv_iload_n T.1 T.2.1 dX3_readOrder_34 rfl (lv_at hl 1 rfl) ?_
          refine xv_icmp_ge T (by omega) (tgt := 69) dX3_readOrder_35 (by decide) (fun c11 => absurd c11 (by omega)) (fun _ => ?_)
          refine lv_iload_n T.1 T.2.1 dX3_readOrder_38 rfl (lv_at hl 0 rfl) ?_
          refine xv_if_le T (by omega) (tgt := 53) dX3_readOrder_39 (by decide) (fun c12 => absurd c12 (by omega)) (fun _ => ?_)
          refine lv_aload_n T.1 T.2.1 dX3_readOrder_42 rfl (lv_at hl 2 rfl) ?_
          refine xv_bipush T dX3_readOrder_43 (by omega) ?_
          refine cI_V T hK hP hS 0 rfl rfl rfl (c_X3_readSign l K g u3.1 u3.2 TT G3 44 (by omega) (by omega) (by omega) (by rw [e0_3]; exact hT) (by omega)) iX3_readSign mw_3_107 ⟨Nat.le_of_ble_eq_true rfl, Nat.le_of_ble_eq_true rfl⟩ hP (fun _ h => h) rfl hl.1 rfl (Nat.le_of_ble_eq_true rfl) ⟨Nat.zero_le _, Nat.zero_le _⟩ dX3_readOrder_45 (fun z13 u4 H1 locs q4 hP1 hg1 hg2 hS => ?_)
          have hP : xP K (logW K g u4 u3.2 TT) H1 := hP1
          generalize H1 = H at hP hS ⊢
          clear hg1 hg2 hP1
          rcases q4 with ⟨rfl, q4⟩ | ⟨rfl, q4⟩
          · skip
            obtain ⟨h4, hu⟩ := q4
            obtain ⟨G4, hG4⟩ : ∃ Y : Int → Int, Y = psF TT G3 44 := ⟨_, rfl⟩
            have f4_4 : G4 4 = 1 := by rw [hG4]; first | exact h4 | (unfold ord0; rw [← hF0]; exact h4)
            have hu1 := hu
            clear hu
            have f2_4 : G4 2 = L 0 := by rw [hG4, psF2]; exact f2_3
            have f3_4 : 0 ≤ G4 3 ∧ G4 3 ≤ L 5 + 11 := by have f3x := (psF_f TT G3 44).2.1; rw [← hG4] at f3x; omega
            have e5_4 : u4 5 = G4 3 := by rw [hu1, hG4]; exact uZ_eq
            have eB_4 : ∀ k : Int, k ≠ 5 → u4 k = u3.1 k := fun k a => by rw [hu1]; exact uZ_ne a
            have eA_4 : ∀ k : Int, k ≠ 5 → k ≠ 6 → u4 k = L k := fun k a b => (eB_4 k a).trans (eA_3 k a b)
            have e0_4 : u4 0 = L 0 := eA_4 0 (by omega) (by omega)
            have e6_4 : u4 6 = TT (L 5) := (eB_4 6 (by omega)).trans e6_3
            clear f2_3 f3_3 f4_3 eA_3 e0_3 e5_3 e6_3 eB_4 hu1 h4
            refine xv_if_ne T (by omega) (tgt := 53) dX3_readOrder_48 (by decide) (fun _ => ?_) (fun c14 => absurd c14 (by omega))
            refine lv_aload_n T.1 T.2.1 dX3_readOrder_53 rfl (lv_at hl 2 rfl) ?_
            refine lv_iload_n T.1 T.2.1 dX3_readOrder_54 rfl (lv_at hl 0 rfl) ?_
            refine cI_V T hK hP hS 0 rfl rfl rfl (c_X3_readNumber l K g u4 u3.2 TT G4 2 (by omega) (by omega) (by omega) (by rw [e0_4]; exact hT) (by omega)) iX3_readNumber mw_3_111 ⟨Nat.le_of_ble_eq_true rfl, Nat.le_of_ble_eq_true rfl⟩ hP (fun _ h => h) rfl hl.1 rfl (Nat.le_of_ble_eq_true rfl) ⟨Nat.zero_le _, Nat.zero_le _⟩ dX3_readOrder_55 (fun z15 u5 H1 locs q5 hP1 hg1 hg2 hS => ?_)
            have hP : xP K (logW K g u5.1 u5.2 TT) H1 := hP1
            generalize H1 = H at hP hS ⊢
            clear hg1 hg2 hP1
            rcases q5 with ⟨rfl, q5⟩ | ⟨rfl, q5⟩
            · skip
              obtain ⟨h4, hu⟩ := q5
              obtain ⟨G5, hG5⟩ : ∃ Y : Int → Int, Y = (numP TT G4).2 := ⟨_, rfl⟩
              have f4_5 : G5 4 = 1 := by rw [hG5]; first | exact h4 | (unfold ord0; rw [← hF0]; exact h4)
              obtain ⟨hu1, hu2⟩ : u5.1 = uZ u4 5 ((numP TT G4).2 3) ∧ u5.2 = uZ u3.2 2 (numP TT G4).1 := by rw [hu]; exact ⟨rfl, rfl⟩
              clear hu
              have f2_5 : G5 2 = L 0 := by rw [hG5, numP2]; exact f2_4
              have f3_5 : 0 ≤ G5 3 ∧ G5 3 ≤ L 5 + 15 := by have f3x := (numP_f TT G4).2.1; rw [← hG5] at f3x; omega
              have e5_5 : u5.1 5 = G5 3 := by rw [hu1, hG5]; exact uZ_eq
              have eB_5 : ∀ k : Int, k ≠ 5 → u5.1 k = u4 k := fun k a => by rw [hu1]; exact uZ_ne a
              have eA_5 : ∀ k : Int, k ≠ 5 → k ≠ 6 → u5.1 k = L k := fun k a b => (eB_5 k a).trans (eA_4 k a b)
              have e0_5 : u5.1 0 = L 0 := eA_5 0 (by omega) (by omega)
              have e6_5 : u5.1 6 = TT (L 5) := (eB_5 6 (by omega)).trans e6_4
              have hn2_5 : u5.2 2 = (numP TT G4).1 := by rw [hu2]; exact uZ_eq
              have hn0_5 : u5.2 0 = (ord0 TT F).1 := by rw [hu2]; exact (uZ_ne (by decide)).trans hn0_3
              have hn1_5 : u5.2 1 = (numP TT G2).1 := by rw [hu2]; exact (uZ_ne (by decide)).trans hn1_3
              have hI_5 : nuIn NU → nuIn (u5.2) := fun a => by rw [hu2]; exact nuIn_up (hI_3 a)
              clear f2_4 f3_4 f4_4 eA_4 e0_4 e5_4 e6_4 eB_5 hu1 h4 hu2 hI_3 hn0_3 hn1_3
              refine xv_if_ne T (by omega) (tgt := 63) dX3_readOrder_58 (by decide) (fun _ => ?_) (fun c16 => absurd c16 (by omega))
              refine xv_iinc T (y := 3) (lv' := [(2, .int (iI 3)), (1, .int (iI 4)), (0, .ref g)]) dX3_readOrder_63 hl (q := 0) rfl (by omega) (by decide) rfl (fun ls hl => ?_)
              refine lv_goto T.1 T.2.1 (tgt := 33) dX3_readOrder_66 (by decide) ?_
              refine lv_iload_n T.1 T.2.1 dX3_readOrder_33 rfl (lv_at hl 0 rfl) ?_
              refine lv_iload_n T.1 T.2.1 dX3_readOrder_34 rfl (lv_at hl 1 rfl) ?_
              refine xv_icmp_ge T (by omega) (tgt := 69) dX3_readOrder_35 (by decide) (fun c17 => absurd c17 (by omega)) (fun _ => ?_)
              refine lv_iload_n T.1 T.2.1 dX3_readOrder_38 rfl (lv_at hl 0 rfl) ?_
              refine xv_if_le T (by omega) (tgt := 53) dX3_readOrder_39 (by decide) (fun c18 => absurd c18 (by omega)) (fun _ => ?_)
              refine lv_aload_n T.1 T.2.1 dX3_readOrder_42 rfl (lv_at hl 2 rfl) ?_
              refine xv_bipush T dX3_readOrder_43 (by omega) ?_
              refine cI_V T hK hP hS 0 rfl rfl rfl (c_X3_readSign l K g u5.1 u5.2 TT G5 44 (by omega) (by omega) (by omega) (by rw [e0_5]; exact hT) (by omega)) iX3_readSign mw_3_107 ⟨Nat.le_of_ble_eq_true rfl, Nat.le_of_ble_eq_true rfl⟩ hP (fun _ h => h) rfl hl.1 rfl (Nat.le_of_ble_eq_true rfl) ⟨Nat.zero_le _, Nat.zero_le _⟩ dX3_readOrder_45 (fun z19 u6 H1 locs q6 hP1 hg1 hg2 hS => ?_)
              have hP : xP K (logW K g u6 u5.2 TT) H1 := hP1
              generalize H1 = H at hP hS ⊢
              clear hg1 hg2 hP1
              rcases q6 with ⟨rfl, q6⟩ | ⟨rfl, q6⟩
              · skip
                obtain ⟨h4, hu⟩ := q6
                obtain ⟨G6, hG6⟩ : ∃ Y : Int → Int, Y = psF TT G5 44 := ⟨_, rfl⟩
                have f4_6 : G6 4 = 1 := by rw [hG6]; first | exact h4 | (unfold ord0; rw [← hF0]; exact h4)
                have hu1 := hu
                clear hu
                have f2_6 : G6 2 = L 0 := by rw [hG6, psF2]; exact f2_5
                have f3_6 : 0 ≤ G6 3 ∧ G6 3 ≤ L 5 + 16 := by have f3x := (psF_f TT G5 44).2.1; rw [← hG6] at f3x; omega
                have e5_6 : u6 5 = G6 3 := by rw [hu1, hG6]; exact uZ_eq
                have eB_6 : ∀ k : Int, k ≠ 5 → u6 k = u5.1 k := fun k a => by rw [hu1]; exact uZ_ne a
                have eA_6 : ∀ k : Int, k ≠ 5 → k ≠ 6 → u6 k = L k := fun k a b => (eB_6 k a).trans (eA_5 k a b)
                have e0_6 : u6 0 = L 0 := eA_6 0 (by omega) (by omega)
                have e6_6 : u6 6 = TT (L 5) := (eB_6 6 (by omega)).trans e6_5
                clear f2_5 f3_5 f4_5 eA_5 e0_5 e5_5 e6_5 eB_6 hu1 h4
                refine xv_if_ne T (by omega) (tgt := 53) dX3_readOrder_48 (by decide) (fun _ => ?_) (fun c20 => absurd c20 (by omega))
                refine lv_aload_n T.1 T.2.1 dX3_readOrder_53 rfl (lv_at hl 2 rfl) ?_
                refine lv_iload_n T.1 T.2.1 dX3_readOrder_54 rfl (lv_at hl 0 rfl) ?_
                refine cI_V T hK hP hS 0 rfl rfl rfl (c_X3_readNumber l K g u6 u5.2 TT G6 3 (by omega) (by omega) (by omega) (by rw [e0_6]; exact hT) (by omega)) iX3_readNumber mw_3_111 ⟨Nat.le_of_ble_eq_true rfl, Nat.le_of_ble_eq_true rfl⟩ hP (fun _ h => h) rfl hl.1 rfl (Nat.le_of_ble_eq_true rfl) ⟨Nat.zero_le _, Nat.zero_le _⟩ dX3_readOrder_55 (fun z21 u7 H1 locs q7 hP1 hg1 hg2 hS => ?_)
                have hP : xP K (logW K g u7.1 u7.2 TT) H1 := hP1
                generalize H1 = H at hP hS ⊢
                clear hg1 hg2 hP1
                rcases q7 with ⟨rfl, q7⟩ | ⟨rfl, q7⟩
                · skip
                  obtain ⟨h4, hu⟩ := q7
                  obtain ⟨G7, hG7⟩ : ∃ Y : Int → Int, Y = (numP TT G6).2 := ⟨_, rfl⟩
                  have f4_7 : G7 4 = 1 := by rw [hG7]; first | exact h4 | (unfold ord0; rw [← hF0]; exact h4)
                  obtain ⟨hu1, hu2⟩ : u7.1 = uZ u6 5 ((numP TT G6).2 3) ∧ u7.2 = uZ u5.2 3 (numP TT G6).1 := by rw [hu]; exact ⟨rfl, rfl⟩
                  clear hu
                  have f2_7 : G7 2 = L 0 := by rw [hG7, numP2]; exact f2_6
                  have f3_7 : 0 ≤ G7 3 ∧ G7 3 ≤ L 5 + 20 := by have f3x := (numP_f TT G6).2.1; rw [← hG7] at f3x; omega
                  have e5_7 : u7.1 5 = G7 3 := by rw [hu1, hG7]; exact uZ_eq
                  have eB_7 : ∀ k : Int, k ≠ 5 → u7.1 k = u6 k := fun k a => by rw [hu1]; exact uZ_ne a
                  have eA_7 : ∀ k : Int, k ≠ 5 → k ≠ 6 → u7.1 k = L k := fun k a b => (eB_7 k a).trans (eA_6 k a b)
                  have e0_7 : u7.1 0 = L 0 := eA_7 0 (by omega) (by omega)
                  have e6_7 : u7.1 6 = TT (L 5) := (eB_7 6 (by omega)).trans e6_6
                  have hn3_7 : u7.2 3 = (numP TT G6).1 := by rw [hu2]; exact uZ_eq
                  have hn0_7 : u7.2 0 = (ord0 TT F).1 := by rw [hu2]; exact (uZ_ne (by decide)).trans hn0_5
                  have hn1_7 : u7.2 1 = (numP TT G2).1 := by rw [hu2]; exact (uZ_ne (by decide)).trans hn1_5
                  have hn2_7 : u7.2 2 = (numP TT G4).1 := by rw [hu2]; exact (uZ_ne (by decide)).trans hn2_5
                  have hI_7 : nuIn NU → nuIn (u7.2) := fun a => by rw [hu2]; exact nuIn_up (hI_5 a)
                  clear f2_6 f3_6 f4_6 eA_6 e0_6 e5_6 e6_6 eB_7 hu1 h4 hu2 hI_5 hn0_5 hn1_5 hn2_5
                  refine xv_if_ne T (by omega) (tgt := 63) dX3_readOrder_58 (by decide) (fun _ => ?_) (fun c22 => absurd c22 (by omega))
                  refine xv_iinc T (y := 4) (lv' := [(2, .int (iI 4)), (1, .int (iI 4)), (0, .ref g)]) dX3_readOrder_63 hl (q := 0) rfl (by omega) (by decide) rfl (fun ls hl => ?_)
                  refine lv_goto T.1 T.2.1 (tgt := 33) dX3_readOrder_66 (by decide) ?_
                  refine lv_iload_n T.1 T.2.1 dX3_readOrder_33 rfl (lv_at hl 0 rfl) ?_
                  refine lv_iload_n T.1 T.2.1 dX3_readOrder_34 rfl (lv_at hl 1 rfl) ?_
                  refine xv_icmp_ge T (by omega) (tgt := 69) dX3_readOrder_35 (by decide) (fun _ => ?_) (fun c23 => absurd c23 (by omega))
                  refine lv_iload_n T.1 T.2.1 dX3_readOrder_69 rfl (lv_at hl 1 rfl) ?_
                  refine xv_if_le T (by omega) (tgt := 86) dX3_readOrder_70 (by decide) (fun c24 => absurd c24 (by omega)) (fun _ => ?_)
                  refine lv_aload_n T.1 T.2.1 dX3_readOrder_73 rfl (lv_at hl 2 rfl) ?_
                  refine xv_bipush T dX3_readOrder_74 (by omega) ?_
                  refine cI_V T hK hP hS 0 rfl rfl rfl (c_X3_readSign l K g u7.1 u7.2 TT G7 59 (by omega) (by omega) (by omega) (by rw [e0_7]; exact hT) (by omega)) iX3_readSign mw_3_107 ⟨Nat.le_of_ble_eq_true rfl, Nat.le_of_ble_eq_true rfl⟩ hP (fun _ h => h) rfl hl.1 rfl (Nat.le_of_ble_eq_true rfl) ⟨Nat.zero_le _, Nat.zero_le _⟩ dX3_readOrder_76 (fun z25 u8 H1 locs q8 hP1 hg1 hg2 hS => ?_)
                  have hP : xP K (logW K g u8 u7.2 TT) H1 := hP1
                  generalize H1 = H at hP hS ⊢
                  clear hg1 hg2 hP1
                  rcases q8 with ⟨rfl, q8⟩ | ⟨rfl, q8⟩
                  · skip
                    obtain ⟨h4, hu⟩ := q8
                    obtain ⟨G8, hG8⟩ : ∃ Y : Int → Int, Y = psF TT G7 59 := ⟨_, rfl⟩
                    have f4_8 : G8 4 = 1 := by rw [hG8]; first | exact h4 | (unfold ord0; rw [← hF0]; exact h4)
                    have hu1 := hu
                    clear hu
                    have f2_8 : G8 2 = L 0 := by rw [hG8, psF2]; exact f2_7
                    have f3_8 : 0 ≤ G8 3 ∧ G8 3 ≤ L 5 + 21 := by have f3x := (psF_f TT G7 59).2.1; rw [← hG8] at f3x; omega
                    have e5_8 : u8 5 = G8 3 := by rw [hu1, hG8]; exact uZ_eq
                    have eB_8 : ∀ k : Int, k ≠ 5 → u8 k = u7.1 k := fun k a => by rw [hu1]; exact uZ_ne a
                    have eA_8 : ∀ k : Int, k ≠ 5 → k ≠ 6 → u8 k = L k := fun k a b => (eB_8 k a).trans (eA_7 k a b)
                    have e0_8 : u8 0 = L 0 := eA_8 0 (by omega) (by omega)
                    have e6_8 : u8 6 = TT (L 5) := (eB_8 6 (by omega)).trans e6_7
                    clear f2_7 f3_7 f4_7 eA_7 e0_7 e5_7 e6_7 eB_8 hu1 h4
                    refine xv_if_eq T (by omega) (tgt := 86) dX3_readOrder_79 (by decide) (fun c26 => absurd c26 (by omega)) (fun _ => ?_)
                    refine xv_iconst T dX3_readOrder_82 ?_
                    refine lv_goto T.1 T.2.1 (tgt := 87) dX3_readOrder_83 (by decide) ?_
                    exact rB T (u := (u8, u7.2)) hr hk hK hP hS (by omega) dX3_readOrder_87 (Or.inl ⟨rfl, by rw [ordZ_4 (by omega), ← hG1, ← hG2, ← hG3, ← hG4, ← hG5, ← hG6, ← hG7, ← hG8]; exact f4_8, by unfold okL; omega, by rw [ordZ_4 (by omega), ← hG1, ← hG2, ← hG3, ← hG4, ← hG5, ← hG6, ← hG7, ← hG8]; exact e5_8, by rw [hlet]; exact e6_8, ⟨hn0_7, fun a => ⟨by rw [ordX_3 (by omega)]; dsimp only; rw [← hG1, ← hG2]; exact hn1_7, by rw [ordX_3 (by omega)]; dsimp only; rw [← hG1, ← hG2, ← hG3, ← hG4]; exact hn2_7⟩, fun a => by rw [ordY_4 (by omega), ordX_3 (by omega)]; dsimp only; rw [← hG1, ← hG2, ← hG3, ← hG4, ← hG5, ← hG6]; exact hn3_7⟩, fun k a => eA_8 k (by omega) (by omega), hI_7⟩)
                  · skip
                    refine xv_if_eq T (by omega) (tgt := 86) dX3_readOrder_79 (by decide) (fun _ => ?_) (fun c27 => absurd c27 (by omega))
                    refine xv_iconst T dX3_readOrder_86 ?_
                    exact rB T (u := (u8, u7.2)) hr hk hK hP hS (by omega) dX3_readOrder_87 (Or.inr ⟨rfl, Or.inl (by rw [ordZ_4 (by omega)]; rw [← hG1, ← hG2, ← hG3, ← hG4, ← hG5, ← hG6, ← hG7]; exact q8.1), fun k a => by rw [q8.2]; exact eA_7 k (by omega) (by omega), hI_7⟩)
                · skip
                  refine xv_if_ne T (by omega) (tgt := 63) dX3_readOrder_58 (by decide) (fun c28 => absurd c28 (by omega)) (fun _ => ?_)
                  refine xv_iconst T dX3_readOrder_61 ?_
                  exact rB T (u := (u7.1, u7.2)) hr hk hK hP hS (by omega) dX3_readOrder_62 (Or.inr ⟨rfl, Or.inl (by rw [ordZ_4 (by omega)]; rw [← hG1, ← hG2, ← hG3, ← hG4, ← hG5, ← hG6]; exact psF4 (q7.1)), fun k a => by rw [q7.2]; exact (uZ_ne (show k ≠ 5 by omega)).trans (eA_6 k (by omega) (by omega)), fun a => by rw [q7.2]; exact nuIn_up (hI_5 a)⟩)
              · skip
                refine xv_if_ne T (by omega) (tgt := 53) dX3_readOrder_48 (by decide) (fun c29 => absurd c29 (by omega)) (fun _ => ?_)
                refine xv_iconst T dX3_readOrder_51 ?_
                exact rB T (u := (u6, u5.2)) hr hk hK hP hS (by omega) dX3_readOrder_52 (Or.inr ⟨rfl, Or.inl (by rw [ordZ_4 (by omega)]; rw [← hG1, ← hG2, ← hG3, ← hG4, ← hG5]; exact psF4 (numP4 (q6.1))), fun k a => by rw [q6.2]; exact eA_5 k (by omega) (by omega), hI_5⟩)
            · skip
              refine xv_if_ne T (by omega) (tgt := 63) dX3_readOrder_58 (by decide) (fun c30 => absurd c30 (by omega)) (fun _ => ?_)
              refine xv_iconst T dX3_readOrder_61 ?_
              exact rB T (u := (u5.1, u5.2)) hr hk hK hP hS (by omega) dX3_readOrder_62 (Or.inr ⟨rfl, Or.inl (by rw [ordZ_4 (by omega)]; rw [← hG1, ← hG2, ← hG3, ← hG4]; exact psF4 (numP4 (psF4 (q5.1)))), fun k a => by rw [q5.2]; exact (uZ_ne (show k ≠ 5 by omega)).trans (eA_4 k (by omega) (by omega)), fun a => by rw [q5.2]; exact nuIn_up (hI_3 a)⟩)
          · skip
            refine xv_if_ne T (by omega) (tgt := 53) dX3_readOrder_48 (by decide) (fun c31 => absurd c31 (by omega)) (fun _ => ?_)
            refine xv_iconst T dX3_readOrder_51 ?_
            exact rB T (u := (u4, u3.2)) hr hk hK hP hS (by omega) dX3_readOrder_52 (Or.inr ⟨rfl, Or.inl (by rw [ordZ_4 (by omega)]; rw [← hG1, ← hG2, ← hG3]; exact psF4 (numP4 (psF4 (numP4 (q4.1))))), fun k a => by rw [q4.2]; exact eA_3 k (by omega) (by omega), hI_3⟩)
        · skip
          refine xv_if_ne T (by omega) (tgt := 63) dX3_readOrder_58 (by decide) (fun c32 => absurd c32 (by omega)) (fun _ => ?_)
          refine xv_iconst T dX3_readOrder_61 ?_
          exact rB T (u := (u3.1, u3.2)) hr hk hK hP hS (by omega) dX3_readOrder_62 (Or.inr ⟨rfl, Or.inl (by rw [ordZ_4 (by omega)]; rw [← hG1, ← hG2]; exact psF4 (numP4 (psF4 (numP4 (psF4 (q3.1)))))), fun k a => by rw [q3.2]; exact (uZ_ne (show k ≠ 5 by omega)).trans (eA_2 k (by omega) (by omega)), fun a => by rw [q3.2]; exact nuIn_up (hI_1 a)⟩)
      · skip
        refine xv_if_ne T (by omega) (tgt := 53) dX3_readOrder_48 (by decide) (fun c33 => absurd c33 (by omega)) (fun _ => ?_)
        refine xv_iconst T dX3_readOrder_51 ?_
        exact rB T (u := (u2, u1.2)) hr hk hK hP hS (by omega) dX3_readOrder_52 (Or.inr ⟨rfl, Or.inl (by rw [ordZ_4 (by omega)]; rw [← hG1]; exact psF4 (numP4 (psF4 (numP4 (psF4 (numP4 (q2.1))))))), fun k a => by rw [q2.2]; exact eA_1 k (by omega) (by omega), hI_1⟩)
    · skip
      refine xv_if_ne T (by omega) (tgt := 63) dX3_readOrder_58 (by decide) (fun c34 => absurd c34 (by omega)) (fun _ => ?_)
      refine xv_iconst T dX3_readOrder_61 ?_
      exact rB T (u := (u1.1, u1.2)) hr hk hK hP hS (by omega) dX3_readOrder_62 (Or.inr ⟨rfl, Or.inl (by rw [ordZ_4 (by omega)]; show _ = (0 : Int); unfold ord0; rw [← hF0]; exact psF4 (numP4 (psF4 (numP4 (psF4 (numP4 (psF4 (q1.1)))))))), fun k a => by rw [q1.2]; exact (uZ_ne (show k ≠ 5 by omega)).trans (eA_0 k (by omega) (by omega)), fun a => by rw [q1.2]; exact nuIn_up (a)⟩)
  · obtain rfl : nw = 3 := by omega
    refine lv_istore_n (lv' := [(1, .int (iI 3)), (0, .ref g)]) T.1 T.2.1 dX3_readOrder_30 rfl hl (by decide) rfl (fun ls hl => ?_)
    refine xv_iconst T dX3_readOrder_31 ?_
    refine lv_istore_n (lv' := [(2, .int (iI 0)), (1, .int (iI 3)), (0, .ref g)]) T.1 T.2.1 dX3_readOrder_32 rfl hl (by decide) rfl (fun ls hl => ?_)
    refine lv_iload_n T.1 T.2.1 dX3_readOrder_33 rfl (lv_at hl 0 rfl) ?_
    refine lv_iload_n T.1 T.2.1 dX3_readOrder_34 rfl (lv_at hl 1 rfl) ?_
    refine xv_icmp_ge T (by omega) (tgt := 69) dX3_readOrder_35 (by decide) (fun c35 => absurd c35 (by omega)) (fun _ => ?_)
    refine lv_iload_n T.1 T.2.1 dX3_readOrder_38 rfl (lv_at hl 0 rfl) ?_
    refine xv_if_le T (by omega) (tgt := 53) dX3_readOrder_39 (by decide) (fun _ => ?_) (fun c36 => absurd c36 (by omega))
    refine lv_aload_n T.1 T.2.1 dX3_readOrder_53 rfl (lv_at hl 2 rfl) ?_
    refine lv_iload_n T.1 T.2.1 dX3_readOrder_54 rfl (lv_at hl 0 rfl) ?_
    refine cI_V T hK hP hS 0 rfl rfl rfl (c_X3_readNumber l K g Lb NU TT F0 0 (by omega) (by omega) (by omega) (by rw [e0_0]; exact hT) (by omega)) iX3_readNumber mw_3_111 ⟨Nat.le_of_ble_eq_true rfl, Nat.le_of_ble_eq_true rfl⟩ hP (fun _ h => h) rfl hl.1 rfl (Nat.le_of_ble_eq_true rfl) ⟨Nat.zero_le _, Nat.zero_le _⟩ dX3_readOrder_55 (fun z37 u1 H1 locs q1 hP1 hg1 hg2 hS => ?_)
    have hP : xP K (logW K g u1.1 u1.2 TT) H1 := hP1
    generalize H1 = H at hP hS ⊢
    clear hg1 hg2 hP1
    rcases q1 with ⟨rfl, q1⟩ | ⟨rfl, q1⟩
    · skip
      obtain ⟨h4, hu⟩ := q1
      obtain ⟨G1, hG1⟩ : ∃ Y : Int → Int, Y = (ord0 TT F).2 := ⟨_, rfl⟩
      have f4_1 : G1 4 = 1 := by rw [hG1]; first | exact h4 | (unfold ord0; rw [← hF0]; exact h4)
      obtain ⟨hu1, hu2⟩ : u1.1 = uZ Lb 5 ((numP TT F0).2 3) ∧ u1.2 = uZ NU 0 (numP TT F0).1 := by rw [hu]; exact ⟨rfl, rfl⟩
      clear hu
      have hGn : G1 = (numP TT F0).2 := by rw [hG1, hF0]; rfl
      have f2_1 : G1 2 = L 0 := by rw [hGn, numP2]; exact f2_0
      have f3_1 : 0 ≤ G1 3 ∧ G1 3 ≤ L 5 + 5 := by have f3x := (numP_f TT F0).2.1; rw [← hGn] at f3x; omega
      have e5_1 : u1.1 5 = G1 3 := by rw [hu1, hGn]; exact uZ_eq
      have eB_1 : ∀ k : Int, k ≠ 5 → u1.1 k = Lb k := fun k a => by rw [hu1]; exact uZ_ne a
      have eA_1 : ∀ k : Int, k ≠ 5 → k ≠ 6 → u1.1 k = L k := fun k a b => (eB_1 k a).trans (eA_0 k a b)
      have e0_1 : u1.1 0 = L 0 := eA_1 0 (by omega) (by omega)
      have e6_1 : u1.1 6 = TT (L 5) := (eB_1 6 (by omega)).trans e6_0
      have hn0_1 : u1.2 0 = (ord0 TT F).1 := by rw [hu2, hF0]; exact uZ_eq
      have hI_1 : nuIn NU → nuIn (u1.2) := fun a => by rw [hu2]; exact nuIn_up (a)
      clear f2_0 f3_0 f4_0 eA_0 e0_0 e5_0 e6_0 eB_1 hu1 h4 hu2 hGn
      refine xv_if_ne T (by omega) (tgt := 63) dX3_readOrder_58 (by decide) (fun _ => ?_) (fun c38 => absurd c38 (by omega))
      refine xv_iinc T (y := 1) (lv' := [(2, .int (iI 1)), (1, .int (iI 3)), (0, .ref g)]) dX3_readOrder_63 hl (q := 0) rfl (by omega) (by decide) rfl (fun ls hl => ?_)
      refine lv_goto T.1 T.2.1 (tgt := 33) dX3_readOrder_66 (by decide) ?_
      refine lv_iload_n T.1 T.2.1 dX3_readOrder_33 rfl (lv_at hl 0 rfl) ?_
      refine lv_iload_n T.1 T.2.1 dX3_readOrder_34 rfl (lv_at hl 1 rfl) ?_
      refine xv_icmp_ge T (by omega) (tgt := 69) dX3_readOrder_35 (by decide) (fun c39 => absurd c39 (by omega)) (fun _ => ?_)
      refine lv_iload_n T.1 T.2.1 dX3_readOrder_38 rfl (lv_at hl 0 rfl) ?_
      refine xv_if_le T (by omega) (tgt := 53) dX3_readOrder_39 (by decide) (fun c40 => absurd c40 (by omega)) (fun _ => ?_)
      refine lv_aload_n T.1 T.2.1 dX3_readOrder_42 rfl (lv_at hl 2 rfl) ?_
      refine xv_bipush T dX3_readOrder_43 (by omega) ?_
      refine cI_V T hK hP hS 0 rfl rfl rfl (c_X3_readSign l K g u1.1 u1.2 TT G1 44 (by omega) (by omega) (by omega) (by rw [e0_1]; exact hT) (by omega)) iX3_readSign mw_3_107 ⟨Nat.le_of_ble_eq_true rfl, Nat.le_of_ble_eq_true rfl⟩ hP (fun _ h => h) rfl hl.1 rfl (Nat.le_of_ble_eq_true rfl) ⟨Nat.zero_le _, Nat.zero_le _⟩ dX3_readOrder_45 (fun z41 u2 H1 locs q2 hP1 hg1 hg2 hS => ?_)
      have hP : xP K (logW K g u2 u1.2 TT) H1 := hP1
      generalize H1 = H at hP hS ⊢
      clear hg1 hg2 hP1
      rcases q2 with ⟨rfl, q2⟩ | ⟨rfl, q2⟩
      · skip
        obtain ⟨h4, hu⟩ := q2
        obtain ⟨G2, hG2⟩ : ∃ Y : Int → Int, Y = psF TT G1 44 := ⟨_, rfl⟩
        have f4_2 : G2 4 = 1 := by rw [hG2]; first | exact h4 | (unfold ord0; rw [← hF0]; exact h4)
        have hu1 := hu
        clear hu
        have f2_2 : G2 2 = L 0 := by rw [hG2, psF2]; exact f2_1
        have f3_2 : 0 ≤ G2 3 ∧ G2 3 ≤ L 5 + 6 := by have f3x := (psF_f TT G1 44).2.1; rw [← hG2] at f3x; omega
        have e5_2 : u2 5 = G2 3 := by rw [hu1, hG2]; exact uZ_eq
        have eB_2 : ∀ k : Int, k ≠ 5 → u2 k = u1.1 k := fun k a => by rw [hu1]; exact uZ_ne a
        have eA_2 : ∀ k : Int, k ≠ 5 → k ≠ 6 → u2 k = L k := fun k a b => (eB_2 k a).trans (eA_1 k a b)
        have e0_2 : u2 0 = L 0 := eA_2 0 (by omega) (by omega)
        have e6_2 : u2 6 = TT (L 5) := (eB_2 6 (by omega)).trans e6_1
        clear f2_1 f3_1 f4_1 eA_1 e0_1 e5_1 e6_1 eB_2 hu1 h4
        refine xv_if_ne T (by omega) (tgt := 53) dX3_readOrder_48 (by decide) (fun _ => ?_) (fun c42 => absurd c42 (by omega))
        refine lv_aload_n T.1 T.2.1 dX3_readOrder_53 rfl (lv_at hl 2 rfl) ?_
        refine lv_iload_n T.1 T.2.1 dX3_readOrder_54 rfl (lv_at hl 0 rfl) ?_
        refine cI_V T hK hP hS 0 rfl rfl rfl (c_X3_readNumber l K g u2 u1.2 TT G2 1 (by omega) (by omega) (by omega) (by rw [e0_2]; exact hT) (by omega)) iX3_readNumber mw_3_111 ⟨Nat.le_of_ble_eq_true rfl, Nat.le_of_ble_eq_true rfl⟩ hP (fun _ h => h) rfl hl.1 rfl (Nat.le_of_ble_eq_true rfl) ⟨Nat.zero_le _, Nat.zero_le _⟩ dX3_readOrder_55 (fun z43 u3 H1 locs q3 hP1 hg1 hg2 hS => ?_)
        have hP : xP K (logW K g u3.1 u3.2 TT) H1 := hP1
        generalize H1 = H at hP hS ⊢
        clear hg1 hg2 hP1
        rcases q3 with ⟨rfl, q3⟩ | ⟨rfl, q3⟩
        · skip
          obtain ⟨h4, hu⟩ := q3
          obtain ⟨G3, hG3⟩ : ∃ Y : Int → Int, Y = (numP TT G2).2 := ⟨_, rfl⟩
          have f4_3 : G3 4 = 1 := by rw [hG3]; first | exact h4 | (unfold ord0; rw [← hF0]; exact h4)
          obtain ⟨hu1, hu2⟩ : u3.1 = uZ u2 5 ((numP TT G2).2 3) ∧ u3.2 = uZ u1.2 1 (numP TT G2).1 := by rw [hu]; exact ⟨rfl, rfl⟩
          clear hu
          have f2_3 : G3 2 = L 0 := by rw [hG3, numP2]; exact f2_2
          have f3_3 : 0 ≤ G3 3 ∧ G3 3 ≤ L 5 + 10 := by have f3x := (numP_f TT G2).2.1; rw [← hG3] at f3x; omega
          have e5_3 : u3.1 5 = G3 3 := by rw [hu1, hG3]; exact uZ_eq
          have eB_3 : ∀ k : Int, k ≠ 5 → u3.1 k = u2 k := fun k a => by rw [hu1]; exact uZ_ne a
          have eA_3 : ∀ k : Int, k ≠ 5 → k ≠ 6 → u3.1 k = L k := fun k a b => (eB_3 k a).trans (eA_2 k a b)
          have e0_3 : u3.1 0 = L 0 := eA_3 0 (by omega) (by omega)
          have e6_3 : u3.1 6 = TT (L 5) := (eB_3 6 (by omega)).trans e6_2
          have hn1_3 : u3.2 1 = (numP TT G2).1 := by rw [hu2]; exact uZ_eq
          have hn0_3 : u3.2 0 = (ord0 TT F).1 := by rw [hu2]; exact (uZ_ne (by decide)).trans hn0_1
          have hI_3 : nuIn NU → nuIn (u3.2) := fun a => by rw [hu2]; exact nuIn_up (hI_1 a)
          clear f2_2 f3_2 f4_2 eA_2 e0_2 e5_2 e6_2 eB_3 hu1 h4 hu2 hI_1 hn0_1
          refine xv_if_ne T (by omega) (tgt := 63) dX3_readOrder_58 (by decide) (fun _ => ?_) (fun c44 => absurd c44 (by omega))
          refine xv_iinc T (y := 2) (lv' := [(2, .int (iI 2)), (1, .int (iI 3)), (0, .ref g)]) dX3_readOrder_63 hl (q := 0) rfl (by omega) (by decide) rfl (fun ls hl => ?_)
          refine lv_goto T.1 T.2.1 (tgt := 33) dX3_readOrder_66 (by decide) ?_
          refine lv_iload_n T.1 T.2.1 dX3_readOrder_33 rfl (lv_at hl 0 rfl) ?_
          refine lv_iload_n T.1 T.2.1 dX3_readOrder_34 rfl (lv_at hl 1 rfl) ?_
          refine xv_icmp_ge T (by omega) (tgt := 69) dX3_readOrder_35 (by decide) (fun c45 => absurd c45 (by omega)) (fun _ => ?_)
          refine lv_iload_n T.1 T.2.1 dX3_readOrder_38 rfl (lv_at hl 0 rfl) ?_
          refine xv_if_le T (by omega) (tgt := 53) dX3_readOrder_39 (by decide) (fun c46 => absurd c46 (by omega)) (fun _ => ?_)
          refine lv_aload_n T.1 T.2.1 dX3_readOrder_42 rfl (lv_at hl 2 rfl) ?_
          refine xv_bipush T dX3_readOrder_43 (by omega) ?_
          refine cI_V T hK hP hS 0 rfl rfl rfl (c_X3_readSign l K g u3.1 u3.2 TT G3 44 (by omega) (by omega) (by omega) (by rw [e0_3]; exact hT) (by omega)) iX3_readSign mw_3_107 ⟨Nat.le_of_ble_eq_true rfl, Nat.le_of_ble_eq_true rfl⟩ hP (fun _ h => h) rfl hl.1 rfl (Nat.le_of_ble_eq_true rfl) ⟨Nat.zero_le _, Nat.zero_le _⟩ dX3_readOrder_45 (fun z47 u4 H1 locs q4 hP1 hg1 hg2 hS => ?_)
          have hP : xP K (logW K g u4 u3.2 TT) H1 := hP1
          generalize H1 = H at hP hS ⊢
          clear hg1 hg2 hP1
          rcases q4 with ⟨rfl, q4⟩ | ⟨rfl, q4⟩
          · skip
            obtain ⟨h4, hu⟩ := q4
            obtain ⟨G4, hG4⟩ : ∃ Y : Int → Int, Y = psF TT G3 44 := ⟨_, rfl⟩
            have f4_4 : G4 4 = 1 := by rw [hG4]; first | exact h4 | (unfold ord0; rw [← hF0]; exact h4)
            have hu1 := hu
            clear hu
            have f2_4 : G4 2 = L 0 := by rw [hG4, psF2]; exact f2_3
            have f3_4 : 0 ≤ G4 3 ∧ G4 3 ≤ L 5 + 11 := by have f3x := (psF_f TT G3 44).2.1; rw [← hG4] at f3x; omega
            have e5_4 : u4 5 = G4 3 := by rw [hu1, hG4]; exact uZ_eq
            have eB_4 : ∀ k : Int, k ≠ 5 → u4 k = u3.1 k := fun k a => by rw [hu1]; exact uZ_ne a
            have eA_4 : ∀ k : Int, k ≠ 5 → k ≠ 6 → u4 k = L k := fun k a b => (eB_4 k a).trans (eA_3 k a b)
            have e0_4 : u4 0 = L 0 := eA_4 0 (by omega) (by omega)
            have e6_4 : u4 6 = TT (L 5) := (eB_4 6 (by omega)).trans e6_3
            clear f2_3 f3_3 f4_3 eA_3 e0_3 e5_3 e6_3 eB_4 hu1 h4
            refine xv_if_ne T (by omega) (tgt := 53) dX3_readOrder_48 (by decide) (fun _ => ?_) (fun c48 => absurd c48 (by omega))
            refine lv_aload_n T.1 T.2.1 dX3_readOrder_53 rfl (lv_at hl 2 rfl) ?_
            refine lv_iload_n T.1 T.2.1 dX3_readOrder_54 rfl (lv_at hl 0 rfl) ?_
            refine cI_V T hK hP hS 0 rfl rfl rfl (c_X3_readNumber l K g u4 u3.2 TT G4 2 (by omega) (by omega) (by omega) (by rw [e0_4]; exact hT) (by omega)) iX3_readNumber mw_3_111 ⟨Nat.le_of_ble_eq_true rfl, Nat.le_of_ble_eq_true rfl⟩ hP (fun _ h => h) rfl hl.1 rfl (Nat.le_of_ble_eq_true rfl) ⟨Nat.zero_le _, Nat.zero_le _⟩ dX3_readOrder_55 (fun z49 u5 H1 locs q5 hP1 hg1 hg2 hS => ?_)
            have hP : xP K (logW K g u5.1 u5.2 TT) H1 := hP1
            generalize H1 = H at hP hS ⊢
            clear hg1 hg2 hP1
            rcases q5 with ⟨rfl, q5⟩ | ⟨rfl, q5⟩
            · skip
              obtain ⟨h4, hu⟩ := q5
              obtain ⟨G5, hG5⟩ : ∃ Y : Int → Int, Y = (numP TT G4).2 := ⟨_, rfl⟩
              have f4_5 : G5 4 = 1 := by rw [hG5]; first | exact h4 | (unfold ord0; rw [← hF0]; exact h4)
              obtain ⟨hu1, hu2⟩ : u5.1 = uZ u4 5 ((numP TT G4).2 3) ∧ u5.2 = uZ u3.2 2 (numP TT G4).1 := by rw [hu]; exact ⟨rfl, rfl⟩
              clear hu
              have f2_5 : G5 2 = L 0 := by rw [hG5, numP2]; exact f2_4
              have f3_5 : 0 ≤ G5 3 ∧ G5 3 ≤ L 5 + 15 := by have f3x := (numP_f TT G4).2.1; rw [← hG5] at f3x; omega
              have e5_5 : u5.1 5 = G5 3 := by rw [hu1, hG5]; exact uZ_eq
              have eB_5 : ∀ k : Int, k ≠ 5 → u5.1 k = u4 k := fun k a => by rw [hu1]; exact uZ_ne a
              have eA_5 : ∀ k : Int, k ≠ 5 → k ≠ 6 → u5.1 k = L k := fun k a b => (eB_5 k a).trans (eA_4 k a b)
              have e0_5 : u5.1 0 = L 0 := eA_5 0 (by omega) (by omega)
              have e6_5 : u5.1 6 = TT (L 5) := (eB_5 6 (by omega)).trans e6_4
              have hn2_5 : u5.2 2 = (numP TT G4).1 := by rw [hu2]; exact uZ_eq
              have hn0_5 : u5.2 0 = (ord0 TT F).1 := by rw [hu2]; exact (uZ_ne (by decide)).trans hn0_3
              have hn1_5 : u5.2 1 = (numP TT G2).1 := by rw [hu2]; exact (uZ_ne (by decide)).trans hn1_3
              have hI_5 : nuIn NU → nuIn (u5.2) := fun a => by rw [hu2]; exact nuIn_up (hI_3 a)
              clear f2_4 f3_4 f4_4 eA_4 e0_4 e5_4 e6_4 eB_5 hu1 h4 hu2 hI_3 hn0_3 hn1_3
              refine xv_if_ne T (by omega) (tgt := 63) dX3_readOrder_58 (by decide) (fun _ => ?_) (fun c50 => absurd c50 (by omega))
              refine xv_iinc T (y := 3) (lv' := [(2, .int (iI 3)), (1, .int (iI 3)), (0, .ref g)]) dX3_readOrder_63 hl (q := 0) rfl (by omega) (by decide) rfl (fun ls hl => ?_)
              refine lv_goto T.1 T.2.1 (tgt := 33) dX3_readOrder_66 (by decide) ?_
              refine lv_iload_n T.1 T.2.1 dX3_readOrder_33 rfl (lv_at hl 0 rfl) ?_
              refine lv_iload_n T.1 T.2.1 dX3_readOrder_34 rfl (lv_at hl 1 rfl) ?_
              refine xv_icmp_ge T (by omega) (tgt := 69) dX3_readOrder_35 (by decide) (fun _ => ?_) (fun c51 => absurd c51 (by omega))
              refine lv_iload_n T.1 T.2.1 dX3_readOrder_69 rfl (lv_at hl 1 rfl) ?_
              refine xv_if_le T (by omega) (tgt := 86) dX3_readOrder_70 (by decide) (fun c52 => absurd c52 (by omega)) (fun _ => ?_)
              refine lv_aload_n T.1 T.2.1 dX3_readOrder_73 rfl (lv_at hl 2 rfl) ?_
              refine xv_bipush T dX3_readOrder_74 (by omega) ?_
              refine cI_V T hK hP hS 0 rfl rfl rfl (c_X3_readSign l K g u5.1 u5.2 TT G5 59 (by omega) (by omega) (by omega) (by rw [e0_5]; exact hT) (by omega)) iX3_readSign mw_3_107 ⟨Nat.le_of_ble_eq_true rfl, Nat.le_of_ble_eq_true rfl⟩ hP (fun _ h => h) rfl hl.1 rfl (Nat.le_of_ble_eq_true rfl) ⟨Nat.zero_le _, Nat.zero_le _⟩ dX3_readOrder_76 (fun z53 u6 H1 locs q6 hP1 hg1 hg2 hS => ?_)
              have hP : xP K (logW K g u6 u5.2 TT) H1 := hP1
              generalize H1 = H at hP hS ⊢
              clear hg1 hg2 hP1
              rcases q6 with ⟨rfl, q6⟩ | ⟨rfl, q6⟩
              · skip
                obtain ⟨h4, hu⟩ := q6
                obtain ⟨G6, hG6⟩ : ∃ Y : Int → Int, Y = psF TT G5 59 := ⟨_, rfl⟩
                have f4_6 : G6 4 = 1 := by rw [hG6]; first | exact h4 | (unfold ord0; rw [← hF0]; exact h4)
                have hu1 := hu
                clear hu
                have f2_6 : G6 2 = L 0 := by rw [hG6, psF2]; exact f2_5
                have f3_6 : 0 ≤ G6 3 ∧ G6 3 ≤ L 5 + 16 := by have f3x := (psF_f TT G5 59).2.1; rw [← hG6] at f3x; omega
                have e5_6 : u6 5 = G6 3 := by rw [hu1, hG6]; exact uZ_eq
                have eB_6 : ∀ k : Int, k ≠ 5 → u6 k = u5.1 k := fun k a => by rw [hu1]; exact uZ_ne a
                have eA_6 : ∀ k : Int, k ≠ 5 → k ≠ 6 → u6 k = L k := fun k a b => (eB_6 k a).trans (eA_5 k a b)
                have e0_6 : u6 0 = L 0 := eA_6 0 (by omega) (by omega)
                have e6_6 : u6 6 = TT (L 5) := (eB_6 6 (by omega)).trans e6_5
                clear f2_5 f3_5 f4_5 eA_5 e0_5 e5_5 e6_5 eB_6 hu1 h4
                refine xv_if_eq T (by omega) (tgt := 86) dX3_readOrder_79 (by decide) (fun c54 => absurd c54 (by omega)) (fun _ => ?_)
                refine xv_iconst T dX3_readOrder_82 ?_
                refine lv_goto T.1 T.2.1 (tgt := 87) dX3_readOrder_83 (by decide) ?_
                exact rB T (u := (u6, u5.2)) hr hk hK hP hS (by omega) dX3_readOrder_87 (Or.inl ⟨rfl, by rw [ordZ_3 (by omega), ← hG1, ← hG2, ← hG3, ← hG4, ← hG5, ← hG6]; exact f4_6, by unfold okL; omega, by rw [ordZ_3 (by omega), ← hG1, ← hG2, ← hG3, ← hG4, ← hG5, ← hG6]; exact e5_6, by rw [hlet]; exact e6_6, ⟨hn0_5, fun a => ⟨by rw [ordX_3 (by omega)]; dsimp only; rw [← hG1, ← hG2]; exact hn1_5, by rw [ordX_3 (by omega)]; dsimp only; rw [← hG1, ← hG2, ← hG3, ← hG4]; exact hn2_5⟩, fun a => absurd a (by omega)⟩, fun k a => eA_6 k (by omega) (by omega), hI_5⟩)
              · skip
                refine xv_if_eq T (by omega) (tgt := 86) dX3_readOrder_79 (by decide) (fun _ => ?_) (fun c55 => absurd c55 (by omega))
                refine xv_iconst T dX3_readOrder_86 ?_
                exact rB T (u := (u6, u5.2)) hr hk hK hP hS (by omega) dX3_readOrder_87 (Or.inr ⟨rfl, Or.inl (by rw [ordZ_3 (by omega)]; rw [← hG1, ← hG2, ← hG3, ← hG4, ← hG5]; exact q6.1), fun k a => by rw [q6.2]; exact eA_5 k (by omega) (by omega), hI_5⟩)
            · skip
              refine xv_if_ne T (by omega) (tgt := 63) dX3_readOrder_58 (by decide) (fun c56 => absurd c56 (by omega)) (fun _ => ?_)
              refine xv_iconst T dX3_readOrder_61 ?_
              exact rB T (u := (u5.1, u5.2)) hr hk hK hP hS (by omega) dX3_readOrder_62 (Or.inr ⟨rfl, Or.inl (by rw [ordZ_3 (by omega)]; rw [← hG1, ← hG2, ← hG3, ← hG4]; exact psF4 (q5.1)), fun k a => by rw [q5.2]; exact (uZ_ne (show k ≠ 5 by omega)).trans (eA_4 k (by omega) (by omega)), fun a => by rw [q5.2]; exact nuIn_up (hI_3 a)⟩)
          · skip
            refine xv_if_ne T (by omega) (tgt := 53) dX3_readOrder_48 (by decide) (fun c57 => absurd c57 (by omega)) (fun _ => ?_)
            refine xv_iconst T dX3_readOrder_51 ?_
            exact rB T (u := (u4, u3.2)) hr hk hK hP hS (by omega) dX3_readOrder_52 (Or.inr ⟨rfl, Or.inl (by rw [ordZ_3 (by omega)]; rw [← hG1, ← hG2, ← hG3]; exact psF4 (numP4 (q4.1))), fun k a => by rw [q4.2]; exact eA_3 k (by omega) (by omega), hI_3⟩)
        · skip
          refine xv_if_ne T (by omega) (tgt := 63) dX3_readOrder_58 (by decide) (fun c58 => absurd c58 (by omega)) (fun _ => ?_)
          refine xv_iconst T dX3_readOrder_61 ?_
          exact rB T (u := (u3.1, u3.2)) hr hk hK hP hS (by omega) dX3_readOrder_62 (Or.inr ⟨rfl, Or.inl (by rw [ordZ_3 (by omega)]; rw [← hG1, ← hG2]; exact psF4 (numP4 (psF4 (q3.1)))), fun k a => by rw [q3.2]; exact (uZ_ne (show k ≠ 5 by omega)).trans (eA_2 k (by omega) (by omega)), fun a => by rw [q3.2]; exact nuIn_up (hI_1 a)⟩)
      · skip
        refine xv_if_ne T (by omega) (tgt := 53) dX3_readOrder_48 (by decide) (fun c59 => absurd c59 (by omega)) (fun _ => ?_)
        refine xv_iconst T dX3_readOrder_51 ?_
        exact rB T (u := (u2, u1.2)) hr hk hK hP hS (by omega) dX3_readOrder_52 (Or.inr ⟨rfl, Or.inl (by rw [ordZ_3 (by omega)]; rw [← hG1]; exact psF4 (numP4 (psF4 (numP4 (q2.1))))), fun k a => by rw [q2.2]; exact eA_1 k (by omega) (by omega), hI_1⟩)
    · skip
      refine xv_if_ne T (by omega) (tgt := 63) dX3_readOrder_58 (by decide) (fun c60 => absurd c60 (by omega)) (fun _ => ?_)
      refine xv_iconst T dX3_readOrder_61 ?_
      exact rB T (u := (u1.1, u1.2)) hr hk hK hP hS (by omega) dX3_readOrder_62 (Or.inr ⟨rfl, Or.inl (by rw [ordZ_3 (by omega)]; show _ = (0 : Int); unfold ord0; rw [← hF0]; exact psF4 (numP4 (psF4 (numP4 (psF4 (q1.1)))))), fun k a => by rw [q1.2]; exact (uZ_ne (show k ≠ 5 by omega)).trans (eA_0 k (by omega) (by omega)), fun a => by rw [q1.2]; exact nuIn_up (a)⟩)
  · obtain rfl : nw = 1 := by omega
    refine lv_istore_n (lv' := [(1, .int (iI 1)), (0, .ref g)]) T.1 T.2.1 dX3_readOrder_30 rfl hl (by decide) rfl (fun ls hl => ?_)
    refine xv_iconst T dX3_readOrder_31 ?_
    refine lv_istore_n (lv' := [(2, .int (iI 0)), (1, .int (iI 1)), (0, .ref g)]) T.1 T.2.1 dX3_readOrder_32 rfl hl (by decide) rfl (fun ls hl => ?_)
    refine lv_iload_n T.1 T.2.1 dX3_readOrder_33 rfl (lv_at hl 0 rfl) ?_
    refine lv_iload_n T.1 T.2.1 dX3_readOrder_34 rfl (lv_at hl 1 rfl) ?_
    refine xv_icmp_ge T (by omega) (tgt := 69) dX3_readOrder_35 (by decide) (fun c61 => absurd c61 (by omega)) (fun _ => ?_)
    refine lv_iload_n T.1 T.2.1 dX3_readOrder_38 rfl (lv_at hl 0 rfl) ?_
    refine xv_if_le T (by omega) (tgt := 53) dX3_readOrder_39 (by decide) (fun _ => ?_) (fun c62 => absurd c62 (by omega))
    refine lv_aload_n T.1 T.2.1 dX3_readOrder_53 rfl (lv_at hl 2 rfl) ?_
    refine lv_iload_n T.1 T.2.1 dX3_readOrder_54 rfl (lv_at hl 0 rfl) ?_
    refine cI_V T hK hP hS 0 rfl rfl rfl (c_X3_readNumber l K g Lb NU TT F0 0 (by omega) (by omega) (by omega) (by rw [e0_0]; exact hT) (by omega)) iX3_readNumber mw_3_111 ⟨Nat.le_of_ble_eq_true rfl, Nat.le_of_ble_eq_true rfl⟩ hP (fun _ h => h) rfl hl.1 rfl (Nat.le_of_ble_eq_true rfl) ⟨Nat.zero_le _, Nat.zero_le _⟩ dX3_readOrder_55 (fun z63 u1 H1 locs q1 hP1 hg1 hg2 hS => ?_)
    have hP : xP K (logW K g u1.1 u1.2 TT) H1 := hP1
    generalize H1 = H at hP hS ⊢
    clear hg1 hg2 hP1
    rcases q1 with ⟨rfl, q1⟩ | ⟨rfl, q1⟩
    · skip
      obtain ⟨h4, hu⟩ := q1
      obtain ⟨G1, hG1⟩ : ∃ Y : Int → Int, Y = (ord0 TT F).2 := ⟨_, rfl⟩
      have f4_1 : G1 4 = 1 := by rw [hG1]; first | exact h4 | (unfold ord0; rw [← hF0]; exact h4)
      obtain ⟨hu1, hu2⟩ : u1.1 = uZ Lb 5 ((numP TT F0).2 3) ∧ u1.2 = uZ NU 0 (numP TT F0).1 := by rw [hu]; exact ⟨rfl, rfl⟩
      clear hu
      have hGn : G1 = (numP TT F0).2 := by rw [hG1, hF0]; rfl
      have f2_1 : G1 2 = L 0 := by rw [hGn, numP2]; exact f2_0
      have f3_1 : 0 ≤ G1 3 ∧ G1 3 ≤ L 5 + 5 := by have f3x := (numP_f TT F0).2.1; rw [← hGn] at f3x; omega
      have e5_1 : u1.1 5 = G1 3 := by rw [hu1, hGn]; exact uZ_eq
      have eB_1 : ∀ k : Int, k ≠ 5 → u1.1 k = Lb k := fun k a => by rw [hu1]; exact uZ_ne a
      have eA_1 : ∀ k : Int, k ≠ 5 → k ≠ 6 → u1.1 k = L k := fun k a b => (eB_1 k a).trans (eA_0 k a b)
      have e0_1 : u1.1 0 = L 0 := eA_1 0 (by omega) (by omega)
      have e6_1 : u1.1 6 = TT (L 5) := (eB_1 6 (by omega)).trans e6_0
      have hn0_1 : u1.2 0 = (ord0 TT F).1 := by rw [hu2, hF0]; exact uZ_eq
      have hI_1 : nuIn NU → nuIn (u1.2) := fun a => by rw [hu2]; exact nuIn_up (a)
      clear f2_0 f3_0 f4_0 eA_0 e0_0 e5_0 e6_0 eB_1 hu1 h4 hu2 hGn
      refine xv_if_ne T (by omega) (tgt := 63) dX3_readOrder_58 (by decide) (fun _ => ?_) (fun c64 => absurd c64 (by omega))
      refine xv_iinc T (y := 1) (lv' := [(2, .int (iI 1)), (1, .int (iI 1)), (0, .ref g)]) dX3_readOrder_63 hl (q := 0) rfl (by omega) (by decide) rfl (fun ls hl => ?_)
      refine lv_goto T.1 T.2.1 (tgt := 33) dX3_readOrder_66 (by decide) ?_
      refine lv_iload_n T.1 T.2.1 dX3_readOrder_33 rfl (lv_at hl 0 rfl) ?_
      refine lv_iload_n T.1 T.2.1 dX3_readOrder_34 rfl (lv_at hl 1 rfl) ?_
      refine xv_icmp_ge T (by omega) (tgt := 69) dX3_readOrder_35 (by decide) (fun _ => ?_) (fun c65 => absurd c65 (by omega))
      refine lv_iload_n T.1 T.2.1 dX3_readOrder_69 rfl (lv_at hl 1 rfl) ?_
      refine xv_if_le T (by omega) (tgt := 86) dX3_readOrder_70 (by decide) (fun c66 => absurd c66 (by omega)) (fun _ => ?_)
      refine lv_aload_n T.1 T.2.1 dX3_readOrder_73 rfl (lv_at hl 2 rfl) ?_
      refine xv_bipush T dX3_readOrder_74 (by omega) ?_
      refine cI_V T hK hP hS 0 rfl rfl rfl (c_X3_readSign l K g u1.1 u1.2 TT G1 59 (by omega) (by omega) (by omega) (by rw [e0_1]; exact hT) (by omega)) iX3_readSign mw_3_107 ⟨Nat.le_of_ble_eq_true rfl, Nat.le_of_ble_eq_true rfl⟩ hP (fun _ h => h) rfl hl.1 rfl (Nat.le_of_ble_eq_true rfl) ⟨Nat.zero_le _, Nat.zero_le _⟩ dX3_readOrder_76 (fun z67 u2 H1 locs q2 hP1 hg1 hg2 hS => ?_)
      have hP : xP K (logW K g u2 u1.2 TT) H1 := hP1
      generalize H1 = H at hP hS ⊢
      clear hg1 hg2 hP1
      rcases q2 with ⟨rfl, q2⟩ | ⟨rfl, q2⟩
      · skip
        obtain ⟨h4, hu⟩ := q2
        obtain ⟨G2, hG2⟩ : ∃ Y : Int → Int, Y = psF TT G1 59 := ⟨_, rfl⟩
        have f4_2 : G2 4 = 1 := by rw [hG2]; first | exact h4 | (unfold ord0; rw [← hF0]; exact h4)
        have hu1 := hu
        clear hu
        have f2_2 : G2 2 = L 0 := by rw [hG2, psF2]; exact f2_1
        have f3_2 : 0 ≤ G2 3 ∧ G2 3 ≤ L 5 + 6 := by have f3x := (psF_f TT G1 59).2.1; rw [← hG2] at f3x; omega
        have e5_2 : u2 5 = G2 3 := by rw [hu1, hG2]; exact uZ_eq
        have eB_2 : ∀ k : Int, k ≠ 5 → u2 k = u1.1 k := fun k a => by rw [hu1]; exact uZ_ne a
        have eA_2 : ∀ k : Int, k ≠ 5 → k ≠ 6 → u2 k = L k := fun k a b => (eB_2 k a).trans (eA_1 k a b)
        have e0_2 : u2 0 = L 0 := eA_2 0 (by omega) (by omega)
        have e6_2 : u2 6 = TT (L 5) := (eB_2 6 (by omega)).trans e6_1
        clear f2_1 f3_1 f4_1 eA_1 e0_1 e5_1 e6_1 eB_2 hu1 h4
        refine xv_if_eq T (by omega) (tgt := 86) dX3_readOrder_79 (by decide) (fun c68 => absurd c68 (by omega)) (fun _ => ?_)
        refine xv_iconst T dX3_readOrder_82 ?_
        refine lv_goto T.1 T.2.1 (tgt := 87) dX3_readOrder_83 (by decide) ?_
        exact rB T (u := (u2, u1.2)) hr hk hK hP hS (by omega) dX3_readOrder_87 (Or.inl ⟨rfl, by rw [ordZ_1 (by omega), ← hG1, ← hG2]; exact f4_2, by unfold okL; omega, by rw [ordZ_1 (by omega), ← hG1, ← hG2]; exact e5_2, by rw [hlet]; exact e6_2, ⟨hn0_1, fun a => absurd a (by omega), fun a => absurd a (by omega)⟩, fun k a => eA_2 k (by omega) (by omega), hI_1⟩)
      · skip
        refine xv_if_eq T (by omega) (tgt := 86) dX3_readOrder_79 (by decide) (fun _ => ?_) (fun c69 => absurd c69 (by omega))
        refine xv_iconst T dX3_readOrder_86 ?_
        exact rB T (u := (u2, u1.2)) hr hk hK hP hS (by omega) dX3_readOrder_87 (Or.inr ⟨rfl, Or.inl (by rw [ordZ_1 (by omega)]; rw [← hG1]; exact q2.1), fun k a => by rw [q2.2]; exact eA_1 k (by omega) (by omega), hI_1⟩)
    · skip
      refine xv_if_ne T (by omega) (tgt := 63) dX3_readOrder_58 (by decide) (fun c70 => absurd c70 (by omega)) (fun _ => ?_)
      refine xv_iconst T dX3_readOrder_61 ?_
      exact rB T (u := (u1.1, u1.2)) hr hk hK hP hS (by omega) dX3_readOrder_62 (Or.inr ⟨rfl, Or.inl (by rw [ordZ_1 (by omega)]; show _ = (0 : Int); unfold ord0; rw [← hF0]; exact psF4 (q1.1)), fun k a => by rw [q1.2]; exact (uZ_ne (show k ≠ 5 by omega)).trans (eA_0 k (by omega) (by omega)), fun a => by rw [q1.2]; exact nuIn_up (a)⟩)
  · obtain rfl : nw = 0 := by omega
    refine lv_istore_n (lv' := [(1, .int (iI 0)), (0, .ref g)]) T.1 T.2.1 dX3_readOrder_30 rfl hl (by decide) rfl (fun ls hl => ?_)
    refine xv_iconst T dX3_readOrder_31 ?_
    refine lv_istore_n (lv' := [(2, .int (iI 0)), (1, .int (iI 0)), (0, .ref g)]) T.1 T.2.1 dX3_readOrder_32 rfl hl (by decide) rfl (fun ls hl => ?_)
    refine lv_iload_n T.1 T.2.1 dX3_readOrder_33 rfl (lv_at hl 0 rfl) ?_
    refine lv_iload_n T.1 T.2.1 dX3_readOrder_34 rfl (lv_at hl 1 rfl) ?_
    refine xv_icmp_ge T (by omega) (tgt := 69) dX3_readOrder_35 (by decide) (fun _ => ?_) (fun c71 => absurd c71 (by omega))
    refine lv_iload_n T.1 T.2.1 dX3_readOrder_69 rfl (lv_at hl 1 rfl) ?_
    refine xv_if_le T (by omega) (tgt := 86) dX3_readOrder_70 (by decide) (fun _ => ?_) (fun c72 => absurd c72 (by omega))
    refine xv_iconst T dX3_readOrder_86 ?_
    exact rB T (u := (Lb, NU)) hr hk hK hP hS (by omega) dX3_readOrder_87 (Or.inr ⟨rfl, Or.inr (by unfold okL; omega), fun k a => eA_0 k (by omega) (by omega), fun a => a⟩)
