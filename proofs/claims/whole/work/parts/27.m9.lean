set_option maxHeartbeats 4000000 in
set_option maxRecDepth 100000 in
theorem c_X8_order (l : Launch) (K : KT) (o : Nat) (N B SS TT F : Int → Int) (hI : Inv N) (hF2 : 0 ≤ F 2 ∧ F 2 ≤ 80) (hF3 : 0 ≤ F 3 ∧ F 3 ≤ 50000) (hF4 : F 4 = 0 ∨ F 4 = 1) (hT : TxT TT (F 2)) : CtI l yX8_order cX8_order 6 .int 4 91 K [.ref o] (mW K o N B SS TT F) (Blk o 5) (fun (z : Int) (u : (Int → Int) × (Int → Int)) => (z, u) = ordP TT N F) (fun u => mW K o u.1 B SS TT u.2) := by
  refine CtI_of (by decide) (Nat.le_of_ble_eq_true rfl) ?_
  intro p e s m args below meth c T hr hk hP hK ls hl
  have T : CF p m c cX8_order 6 s args RX8 := T
  have hS : va_S (Blk o 5) s.heap s.heap [] := va_S.rf
  have hl : lv_has ls 6 [(0, .ref o)] := hl
  have hh := here_in hT (p := F 3) (by omega)
  have hle : letF TT F = hereF TT (F 2) (F 3) := rfl
  rw [← hle] at hh
  refine lv_aload_n T.1 T.2.1 dX8_order_0 rfl (lv_at hl 0 rfl) ?_
  refine cI_V T hK hP hS 0 rfl rfl rfl (c_X8_here l K o N B SS TT F (by omega) (by omega)) iX8_here mw_4_209 ⟨Nat.le_of_ble_eq_true rfl, Nat.le_of_ble_eq_true rfl⟩ hP noA rfl hl.1 rfl (Nat.le_of_ble_eq_true rfl) ⟨Nat.zero_le _, Nat.zero_le _⟩ dX8_order_1 (fun z1 _ H1 locs q2 hP1 hg1 hg2 hS => ?_)
  have hP := xP_kept hP hg2
  generalize H1 = H at hP hS ⊢
  clear hg1 hg2 hP1
  obtain rfl : z1 = hereF TT (F 2) (F 3) := q2
  refine lv_istore_n (lv' := [(1, .int (iI (letF TT F))), (0, .ref o)]) T.1 T.2.1 dX8_order_4 rfl hl (by decide) rfl (fun ls hl => ?_)
  refine lv_aload_n T.1 T.2.1 dX8_order_5 rfl (lv_at hl 1 rfl) ?_
  refine xv_iconst T dX8_order_6 ?_
  refine p8_isForm T hK hP (m_D K o N B SS TT F) hS 0 rfl (Nat.le_of_ble_eq_true rfl) (by omega) mw_3_183 dX8_order_7 (mu_F4 K o N B SS TT F 1) (fun H locs hP hS => ?_)
  obtain ⟨FO0, hFO0⟩ : ∃ Y0 : Int → Int, Y0 = uZ F 4 1 := ⟨_, rfl⟩
  have hP : xP K (mW K o N B SS TT FO0) H := by rw [hFO0]; exact hP
  refine lv_aload_n T.1 T.2.1 dX8_order_10 rfl (lv_at hl 1 rfl) ?_
  refine lv_dup T.1 T.2.1 dX8_order_11 rfl ?_
  refine g8_readAt T hK hP 0 rfl (v := .int (iI (FO0 3))) rfl mw_3_182 dX8_order_12 ?_
  refine xv_cv (b := F 3) (by rw [hFO0, uZ_ne (by omega)]) ?_
  refine xv_iconst T dX8_order_15 ?_
  refine xv_iadd T dX8_order_16 ?_
  refine p8_readAt T hK hP (m_D K o N B SS TT FO0) hS 0 rfl (Nat.le_of_ble_eq_true rfl) mw_3_182 dX8_order_17 (mu_F3 K o N B SS TT FO0 (F 3 + 1)) (fun H locs hP hS => ?_)
  obtain ⟨FO, hFO⟩ : ∃ Y0 : Int → Int, Y0 = uZ FO0 3 (F 3 + 1) := ⟨_, rfl⟩
  have hP : xP K (mW K o N B SS TT FO) H := by rw [hFO]; exact hP
  have kFO : FO 2 = F 2 := by rw [hFO, uZ_ne (by omega), hFO0, uZ_ne (by omega)]
  have k3 : FO 3 = F 3 + 1 := by rw [hFO, uZ_eq]
  have k4 : FO 4 = 1 := by rw [hFO, uZ_ne (by omega), hFO0, uZ_eq]
  have tFO : TxT TT (FO 2) := by rw [kFO]; exact hT
  refine lv_aload_n T.1 T.2.1 dX8_order_20 rfl (lv_at hl 1 rfl) ?_
  refine cI_V T hK hP hS 0 rfl rfl rfl (c_X8_number l K o N B SS TT FO (by rw [kFO]; exact hF2) (by omega) (by omega) tFO) iX8_number mw_4_213 ⟨Nat.le_of_ble_eq_true rfl, Nat.le_of_ble_eq_true rfl⟩ hP (fun _ h => h) rfl hl.1 rfl (Nat.le_of_ble_eq_true rfl) ⟨Nat.zero_le _, Nat.zero_le _⟩ dX8_order_21 (fun av FA H1 locs qA hP1 hg1 hg2 hS => ?_)
  have hP : xP K (mW K o N B SS TT FA) H1 := hP1
  generalize H1 = H at hP hS ⊢
  clear hg1 hg2 hP1
  obtain ⟨hvFA, hFA⟩ := qA
  have gFA := numP_f TT FO
  rw [← hFA, ← hvFA] at gFA
  have kFA : FA 2 = F 2 := by rw [gFA.1 2 (by omega) (by omega), kFO]
  have tFA : TxT TT (FA 2) := by rw [kFA]; exact hT
  have hA0 : (av, FA) = ord0 TT F := by rw [hvFA, hFA, hFO, hFO0]; rfl
  refine lv_istore_n (lv' := [(2, .int (iI av)), (1, .int (iI (letF TT F))), (0, .ref o)]) T.1 T.2.1 dX8_order_24 rfl hl (by decide) rfl (fun ls hl => ?_)
  refine xv_iconst T dX8_order_25 ?_
  refine lv_istore_n (lv' := [(3, .int (iI 0)), (2, .int (iI av)), (1, .int (iI (letF TT F))), (0, .ref o)]) T.1 T.2.1 dX8_order_26 rfl hl (by decide) rfl (fun ls hl => ?_)
  refine xv_iconst T dX8_order_27 ?_
  refine lv_istore (lv' := [(4, .int (iI 0)), (3, .int (iI 0)), (2, .int (iI av)), (1, .int (iI (letF TT F))), (0, .ref o)]) T.1 T.2.1 dX8_order_28 hl (by decide) rfl (fun ls hl => ?_)
  refine xv_iconst T dX8_order_30 ?_
  refine lv_istore (lv' := [(5, .int (iI 0)), (4, .int (iI 0)), (3, .int (iI 0)), (2, .int (iI av)), (1, .int (iI (letF TT F))), (0, .ref o)]) T.1 T.2.1 dX8_order_31 hl (by decide) rfl (fun ls hl => ?_)
  have jn74 : ∀ (b3 : Int) (c3 : Int) (FX : Int → Int) (H : Heap) (locs : List Loc) (ls : Array Slot), ((b3, c3, FX) = ordX TT F) → xP K (mW K o N B SS TT FX) H → va_S (Blk o 5) s.heap H locs → lv_has ls 6 [(0, .ref o), (1, .int (iI (letF TT F))), (2, .int (iI av)), (3, .int (iI b3)), (4, .int (iI c3)), (5, .int (iI 0))] → W p l e (rmF 4 91) s m args below meth c H locs 0 0 (MQ below (qI K (fun (z : Int) (u : (Int → Int) × (Int → Int)) => (z, u) = ordP TT N F) (fun u => mW K o u.1 B SS TT u.2) (Blk o 5)) args s 0 0 (Blk o 5)) (F0 m 74 ls []) := by
    intro b3 c3 FX H locs ls hX hP hS hl
    have gX := ordX_f TT F
    rw [← hX] at gX
    have kFX : FX 2 = F 2 := gX.1 2 (by omega) (by omega)
    have tFX : TxT TT (FX 2) := by rw [kFX]; exact hT
    have g1 : F 3 + 1 ≤ FX 3 ∧ FX 3 ≤ F 3 + 15 := gX.2.1
    have g2 : FX 4 = 0 ∨ FX 4 = 1 := gX.2.2.1
    have g3 : 0 ≤ b3 ∧ b3 ≤ 9999 := gX.2.2.2.1
    have g4 : 0 ≤ c3 ∧ c3 ≤ 9999 := gX.2.2.2.2
    have jn92 : ∀ (d5 : Int) (FY : Int → Int) (H : Heap) (locs : List Loc) (ls : Array Slot), ((d5, FY) = ordY TT F) → ((0 ≤ d5 ∧ d5 ≤ 9999) ∧ (F 3 + 1 ≤ FY 3 ∧ FY 3 ≤ F 3 + 20) ∧ (FY 4 = 0 ∨ FY 4 = 1) ∧ FY 2 = F 2) → xP K (mW K o N B SS TT FY) H → va_S (Blk o 5) s.heap H locs → lv_has ls 6 [(0, .ref o), (1, .int (iI (letF TT F))), (2, .int (iI av)), (3, .int (iI b3)), (4, .int (iI c3)), (5, .int (iI d5))] → W p l e (rmF 4 91) s m args below meth c H locs 0 0 (MQ below (qI K (fun (z : Int) (u : (Int → Int) × (Int → Int)) => (z, u) = ordP TT N F) (fun u => mW K o u.1 B SS TT u.2) (Blk o 5)) args s 0 0 (Blk o 5)) (F0 m 92 ls []) := by
      intro d5 FY H locs ls hY hdr hP hS hl
      have kFY : FY 2 = F 2 := hdr.2.2.2
      have tFY : TxT TT (FY 2) := by rw [kFY]; exact hT
      have hFY : FY = (ordY TT F).2 := congrArg Prod.snd hY
      refine lv_aload_n T.1 T.2.1 dX8_order_92 rfl (lv_at hl 0 rfl) ?_
      refine xv_bipush T dX8_order_93 (by omega) ?_
      refine cV_V T hK hP hS 0 rfl rfl rfl (c_X8_passesSign l K o N B SS TT FY 59 (by omega) (by rw [kFY]; exact hF2) (by omega) (by omega) tFY) iX8_passesSign mw_4_217 ⟨Nat.le_of_ble_eq_true rfl, Nat.le_of_ble_eq_true rfl⟩ hP (fun _ h => h) rfl hl.1 rfl (Nat.le_of_ble_eq_true rfl) ⟨Nat.zero_le _, Nat.zero_le _⟩ dX8_order_95 (fun FW H1 locs hFW hP1 hg1 hg2 hS => ?_)
      have hP : xP K (mW K o N B SS TT FW) H1 := hP1
      generalize H1 = H at hP hS ⊢
      clear hg1 hg2 hP1
      have gW := ordZ_f TT F
      have hW : FW = ordZ TT F := by rw [hFW, hFY]; rfl
      rw [← hW] at gW
      refine lv_aload_n T.1 T.2.1 dX8_order_98 rfl (lv_at hl 0 rfl) ?_
      refine g8_isForm T hK hP 0 rfl (v := .int (iI (FW 4))) rfl mw_3_183 dX8_order_99 ?_
      refine xv_if_ne T (by omega) (tgt := 107) dX8_order_102 (by decide) (fun c4 => ?_) (fun c4 => ?_)
      · skip
        refine lv_iload_n T.1 T.2.1 dX8_order_107 rfl (lv_at hl 1 rfl) ?_
        by_cases c5l : (letF TT F) < 98
        · skip
          refine xv_tableOut T (tgt := 277) (by omega) dX8_order_108 (by omega) (by decide) ?_
          refine lv_aload_n T.1 T.2.1 dX8_order_277 rfl (lv_at hl 0 rfl) ?_
          refine xv_iconst T dX8_order_278 ?_
          refine p8_isForm T hK hP (m_D K o N B SS TT FW) hS 0 rfl (Nat.le_of_ble_eq_true rfl) (by omega) mw_3_183 dX8_order_279 (mu_F4 K o N B SS TT FW 0) (fun H locs hP hS => ?_)
          obtain ⟨FZ, hFZ⟩ : ∃ Y0 : Int → Int, Y0 = uZ FW 4 0 := ⟨_, rfl⟩
          have hP : xP K (mW K o N B SS TT FZ) H := by rw [hFZ]; exact hP
          refine xv_iconst T dX8_order_282 ?_
          exact rI T (u := (N, FZ)) hr hk hK hP hS dX8_order_283 (by have e0 : (ord0 TT F).1 = av := congrArg Prod.fst hA0.symm; have e1 : (ordX TT F).1 = b3 := congrArg Prod.fst hX.symm; have e2 : (ordX TT F).2.1 = c3 := congrArg (fun q => q.2.1) hX.symm; have e3 : (ordY TT F).1 = d5 := congrArg Prod.fst hY.symm; unfold ordP; rw [e0, e1, e2, e3, ← hW]; unfold ordG; rw [hFZ, if_neg (by omega), if_neg (by omega), if_neg (by omega), if_neg (by omega), if_neg (by omega), if_neg (by omega), if_neg (by omega), if_neg (by omega)])
        by_cases c5h : 122 < (letF TT F)
        · skip
          refine xv_tableOut T (tgt := 277) (by omega) dX8_order_108 (by omega) (by decide) ?_
          refine lv_aload_n T.1 T.2.1 dX8_order_277 rfl (lv_at hl 0 rfl) ?_
          refine xv_iconst T dX8_order_278 ?_
          refine p8_isForm T hK hP (m_D K o N B SS TT FW) hS 0 rfl (Nat.le_of_ble_eq_true rfl) (by omega) mw_3_183 dX8_order_279 (mu_F4 K o N B SS TT FW 0) (fun H locs hP hS => ?_)
          obtain ⟨FZ, hFZ⟩ : ∃ Y0 : Int → Int, Y0 = uZ FW 4 0 := ⟨_, rfl⟩
          have hP : xP K (mW K o N B SS TT FZ) H := by rw [hFZ]; exact hP
          refine xv_iconst T dX8_order_282 ?_
          exact rI T (u := (N, FZ)) hr hk hK hP hS dX8_order_283 (by have e0 : (ord0 TT F).1 = av := congrArg Prod.fst hA0.symm; have e1 : (ordX TT F).1 = b3 := congrArg Prod.fst hX.symm; have e2 : (ordX TT F).2.1 = c3 := congrArg (fun q => q.2.1) hX.symm; have e3 : (ordY TT F).1 = d5 := congrArg Prod.fst hY.symm; unfold ordP; rw [e0, e1, e2, e3, ← hW]; unfold ordG; rw [hFZ, if_neg (by omega), if_neg (by omega), if_neg (by omega), if_neg (by omega), if_neg (by omega), if_neg (by omega), if_neg (by omega), if_neg (by omega)])
        have c5_98 : 98 ≤ (letF TT F) := by omega
        by_cases c5 : (letF TT F) = 98
        · skip
          refine xv_tableIn T (off := 140) (tgt := 248) 98 c5 (by omega) dX8_order_108 (by omega) (by omega) (by decide) (by decide) ?_
          refine lv_aload_n T.1 T.2.1 dX8_order_248 rfl (lv_at hl 0 rfl) ?_
          refine lv_iload_n T.1 T.2.1 dX8_order_249 rfl (lv_at hl 2 rfl) ?_
          refine lv_iload_n T.1 T.2.1 dX8_order_250 rfl (lv_at hl 3 rfl) ?_
          refine lv_iload T.1 T.2.1 dX8_order_251 (lv_at hl 4 rfl) ?_
          refine lv_iload T.1 T.2.1 dX8_order_253 (lv_at hl 5 rfl) ?_
          refine cI_V T hK hP hS 0 rfl rfl rfl (c_X8_smashes l K o N B SS TT FW av b3 c3 d5 (by omega) (by omega) (by omega) (by omega) hI) iX8_smashes mw_4_107 ⟨Nat.le_of_ble_eq_true rfl, Nat.le_of_ble_eq_true rfl⟩ hP (fun _ h => h) rfl hl.1 rfl (Nat.le_of_ble_eq_true rfl) ⟨Nat.zero_le _, Nat.zero_le _⟩ dX8_order_255 (fun zo No H1 locs qo hP1 hg1 hg2 hS => ?_)
          have hP : xP K (mW K o No B SS TT FW) H1 := hP1
          generalize H1 = H at hP hS ⊢
          clear hg1 hg2 hP1
          exact rI T (u := (No, FW)) hr hk hK hP hS dX8_order_258 (by have e0 : (ord0 TT F).1 = av := congrArg Prod.fst hA0.symm; have e1 : (ordX TT F).1 = b3 := congrArg Prod.fst hX.symm; have e2 : (ordX TT F).2.1 = c3 := congrArg (fun q => q.2.1) hX.symm; have e3 : (ordY TT F).1 = d5 := congrArg Prod.fst hY.symm; unfold ordP; rw [e0, e1, e2, e3, ← hW]; unfold ordG; rw [if_neg (by omega), if_neg (by omega), if_neg (by omega), if_neg (by omega), if_pos (by omega), ← qo])
        have c5_99 : 99 ≤ (letF TT F) := by omega
        clear c5 c5_98
        by_cases c5 : (letF TT F) = 99
        · skip
          refine xv_tableIn T (off := 157) (tgt := 265) 99 c5 (by omega) dX8_order_108 (by omega) (by omega) (by decide) (by decide) ?_
          refine lv_aload_n T.1 T.2.1 dX8_order_265 rfl (lv_at hl 0 rfl) ?_
          refine lv_iload_n T.1 T.2.1 dX8_order_266 rfl (lv_at hl 2 rfl) ?_
          refine cI_V T hK hP hS 0 rfl rfl rfl (c_X8_inspects l K o N B SS TT FW av (by omega) hI) iX8_inspects mw_4_123 ⟨Nat.le_of_ble_eq_true rfl, Nat.le_of_ble_eq_true rfl⟩ hP (fun _ h => h) rfl hl.1 rfl (Nat.le_of_ble_eq_true rfl) ⟨Nat.zero_le _, Nat.zero_le _⟩ dX8_order_267 (fun zo No H1 locs qo hP1 hg1 hg2 hS => ?_)
          have hP : xP K (mW K o No B SS TT FW) H1 := hP1
          generalize H1 = H at hP hS ⊢
          clear hg1 hg2 hP1
          exact rI T (u := (No, FW)) hr hk hK hP hS dX8_order_270 (by have e0 : (ord0 TT F).1 = av := congrArg Prod.fst hA0.symm; have e1 : (ordX TT F).1 = b3 := congrArg Prod.fst hX.symm; have e2 : (ordX TT F).2.1 = c3 := congrArg (fun q => q.2.1) hX.symm; have e3 : (ordY TT F).1 = d5 := congrArg Prod.fst hY.symm; unfold ordP; rw [e0, e1, e2, e3, ← hW]; unfold ordG; rw [if_neg (by omega), if_neg (by omega), if_neg (by omega), if_neg (by omega), if_neg (by omega), if_neg (by omega), if_pos (by omega), ← qo])
        have c5_100 : 100 ≤ (letF TT F) := by omega
        clear c5 c5_99
        by_cases c5 : (letF TT F) = 100
        · skip
          refine xv_tableIn T (off := 163) (tgt := 271) 100 c5 (by omega) dX8_order_108 (by omega) (by omega) (by decide) (by decide) ?_
          refine lv_aload_n T.1 T.2.1 dX8_order_271 rfl (lv_at hl 0 rfl) ?_
          refine lv_iload_n T.1 T.2.1 dX8_order_272 rfl (lv_at hl 2 rfl) ?_
          refine cI_V T hK hP hS 0 rfl rfl rfl (c_X8_passes l K o N B SS TT FW av (by omega) hI) iX8_passes mw_4_148 ⟨Nat.le_of_ble_eq_true rfl, Nat.le_of_ble_eq_true rfl⟩ hP (fun _ h => h) rfl hl.1 rfl (Nat.le_of_ble_eq_true rfl) ⟨Nat.zero_le _, Nat.zero_le _⟩ dX8_order_273 (fun zo No H1 locs qo hP1 hg1 hg2 hS => ?_)
          have hP : xP K (mW K o No B SS TT FW) H1 := hP1
          generalize H1 = H at hP hS ⊢
          clear hg1 hg2 hP1
          exact rI T (u := (No, FW)) hr hk hK hP hS dX8_order_276 (by have e0 : (ord0 TT F).1 = av := congrArg Prod.fst hA0.symm; have e1 : (ordX TT F).1 = b3 := congrArg Prod.fst hX.symm; have e2 : (ordX TT F).2.1 = c3 := congrArg (fun q => q.2.1) hX.symm; have e3 : (ordY TT F).1 = d5 := congrArg Prod.fst hY.symm; unfold ordP; rw [e0, e1, e2, e3, ← hW]; unfold ordG; rw [if_neg (by omega), if_neg (by omega), if_neg (by omega), if_neg (by omega), if_neg (by omega), if_neg (by omega), if_neg (by omega), if_pos (by omega), ← qo])
        have c5_101 : 101 ≤ (letF TT F) := by omega
        clear c5 c5_100
        by_cases c5 : (letF TT F) = 101
        · skip
          refine xv_tableIn T (off := 169) (tgt := 277) 101 c5 (by omega) dX8_order_108 (by omega) (by omega) (by decide) (by decide) ?_
          refine lv_aload_n T.1 T.2.1 dX8_order_277 rfl (lv_at hl 0 rfl) ?_
          refine xv_iconst T dX8_order_278 ?_
          refine p8_isForm T hK hP (m_D K o N B SS TT FW) hS 0 rfl (Nat.le_of_ble_eq_true rfl) (by omega) mw_3_183 dX8_order_279 (mu_F4 K o N B SS TT FW 0) (fun H locs hP hS => ?_)
          obtain ⟨FZ, hFZ⟩ : ∃ Y0 : Int → Int, Y0 = uZ FW 4 0 := ⟨_, rfl⟩
          have hP : xP K (mW K o N B SS TT FZ) H := by rw [hFZ]; exact hP
          refine xv_iconst T dX8_order_282 ?_
          exact rI T (u := (N, FZ)) hr hk hK hP hS dX8_order_283 (by have e0 : (ord0 TT F).1 = av := congrArg Prod.fst hA0.symm; have e1 : (ordX TT F).1 = b3 := congrArg Prod.fst hX.symm; have e2 : (ordX TT F).2.1 = c3 := congrArg (fun q => q.2.1) hX.symm; have e3 : (ordY TT F).1 = d5 := congrArg Prod.fst hY.symm; unfold ordP; rw [e0, e1, e2, e3, ← hW]; unfold ordG; rw [hFZ, if_neg (by omega), if_neg (by omega), if_neg (by omega), if_neg (by omega), if_neg (by omega), if_neg (by omega), if_neg (by omega), if_neg (by omega)])
        have c5_102 : 102 ≤ (letF TT F) := by omega
        clear c5 c5_101
        by_cases c5 : (letF TT F) = 102
        · skip
          refine xv_tableIn T (off := 169) (tgt := 277) 102 c5 (by omega) dX8_order_108 (by omega) (by omega) (by decide) (by decide) ?_
          refine lv_aload_n T.1 T.2.1 dX8_order_277 rfl (lv_at hl 0 rfl) ?_
          refine xv_iconst T dX8_order_278 ?_
          refine p8_isForm T hK hP (m_D K o N B SS TT FW) hS 0 rfl (Nat.le_of_ble_eq_true rfl) (by omega) mw_3_183 dX8_order_279 (mu_F4 K o N B SS TT FW 0) (fun H locs hP hS => ?_)
          obtain ⟨FZ, hFZ⟩ : ∃ Y0 : Int → Int, Y0 = uZ FW 4 0 := ⟨_, rfl⟩
          have hP : xP K (mW K o N B SS TT FZ) H := by rw [hFZ]; exact hP
          refine xv_iconst T dX8_order_282 ?_
          exact rI T (u := (N, FZ)) hr hk hK hP hS dX8_order_283 (by have e0 : (ord0 TT F).1 = av := congrArg Prod.fst hA0.symm; have e1 : (ordX TT F).1 = b3 := congrArg Prod.fst hX.symm; have e2 : (ordX TT F).2.1 = c3 := congrArg (fun q => q.2.1) hX.symm; have e3 : (ordY TT F).1 = d5 := congrArg Prod.fst hY.symm; unfold ordP; rw [e0, e1, e2, e3, ← hW]; unfold ordG; rw [hFZ, if_neg (by omega), if_neg (by omega), if_neg (by omega), if_neg (by omega), if_neg (by omega), if_neg (by omega), if_neg (by omega), if_neg (by omega)])
        have c5_103 : 103 ≤ (letF TT F) := by omega
        clear c5 c5_102
        by_cases c5 : (letF TT F) = 103
        · skip
          refine xv_tableIn T (off := 169) (tgt := 277) 103 c5 (by omega) dX8_order_108 (by omega) (by omega) (by decide) (by decide) ?_
          refine lv_aload_n T.1 T.2.1 dX8_order_277 rfl (lv_at hl 0 rfl) ?_
          refine xv_iconst T dX8_order_278 ?_
          refine p8_isForm T hK hP (m_D K o N B SS TT FW) hS 0 rfl (Nat.le_of_ble_eq_true rfl) (by omega) mw_3_183 dX8_order_279 (mu_F4 K o N B SS TT FW 0) (fun H locs hP hS => ?_)
          obtain ⟨FZ, hFZ⟩ : ∃ Y0 : Int → Int, Y0 = uZ FW 4 0 := ⟨_, rfl⟩
          have hP : xP K (mW K o N B SS TT FZ) H := by rw [hFZ]; exact hP
          refine xv_iconst T dX8_order_282 ?_
          exact rI T (u := (N, FZ)) hr hk hK hP hS dX8_order_283 (by have e0 : (ord0 TT F).1 = av := congrArg Prod.fst hA0.symm; have e1 : (ordX TT F).1 = b3 := congrArg Prod.fst hX.symm; have e2 : (ordX TT F).2.1 = c3 := congrArg (fun q => q.2.1) hX.symm; have e3 : (ordY TT F).1 = d5 := congrArg Prod.fst hY.symm; unfold ordP; rw [e0, e1, e2, e3, ← hW]; unfold ordG; rw [hFZ, if_neg (by omega), if_neg (by omega), if_neg (by omega), if_neg (by omega), if_neg (by omega), if_neg (by omega), if_neg (by omega), if_neg (by omega)])
        have c5_104 : 104 ≤ (letF TT F) := by omega
        clear c5 c5_103
        by_cases c5 : (letF TT F) = 104
        · skip
          refine xv_tableIn T (off := 169) (tgt := 277) 104 c5 (by omega) dX8_order_108 (by omega) (by omega) (by decide) (by decide) ?_
          refine lv_aload_n T.1 T.2.1 dX8_order_277 rfl (lv_at hl 0 rfl) ?_
          refine xv_iconst T dX8_order_278 ?_
          refine p8_isForm T hK hP (m_D K o N B SS TT FW) hS 0 rfl (Nat.le_of_ble_eq_true rfl) (by omega) mw_3_183 dX8_order_279 (mu_F4 K o N B SS TT FW 0) (fun H locs hP hS => ?_)
          obtain ⟨FZ, hFZ⟩ : ∃ Y0 : Int → Int, Y0 = uZ FW 4 0 := ⟨_, rfl⟩
          have hP : xP K (mW K o N B SS TT FZ) H := by rw [hFZ]; exact hP
          refine xv_iconst T dX8_order_282 ?_
          exact rI T (u := (N, FZ)) hr hk hK hP hS dX8_order_283 (by have e0 : (ord0 TT F).1 = av := congrArg Prod.fst hA0.symm; have e1 : (ordX TT F).1 = b3 := congrArg Prod.fst hX.symm; have e2 : (ordX TT F).2.1 = c3 := congrArg (fun q => q.2.1) hX.symm; have e3 : (ordY TT F).1 = d5 := congrArg Prod.fst hY.symm; unfold ordP; rw [e0, e1, e2, e3, ← hW]; unfold ordG; rw [hFZ, if_neg (by omega), if_neg (by omega), if_neg (by omega), if_neg (by omega), if_neg (by omega), if_neg (by omega), if_neg (by omega), if_neg (by omega)])
        have c5_105 : 105 ≤ (letF TT F) := by omega
        clear c5 c5_104
        by_cases c5 : (letF TT F) = 105
        · skip
          refine xv_tableIn T (off := 169) (tgt := 277) 105 c5 (by omega) dX8_order_108 (by omega) (by omega) (by decide) (by decide) ?_
          refine lv_aload_n T.1 T.2.1 dX8_order_277 rfl (lv_at hl 0 rfl) ?_
          refine xv_iconst T dX8_order_278 ?_
          refine p8_isForm T hK hP (m_D K o N B SS TT FW) hS 0 rfl (Nat.le_of_ble_eq_true rfl) (by omega) mw_3_183 dX8_order_279 (mu_F4 K o N B SS TT FW 0) (fun H locs hP hS => ?_)
          obtain ⟨FZ, hFZ⟩ : ∃ Y0 : Int → Int, Y0 = uZ FW 4 0 := ⟨_, rfl⟩
          have hP : xP K (mW K o N B SS TT FZ) H := by rw [hFZ]; exact hP
          refine xv_iconst T dX8_order_282 ?_
          exact rI T (u := (N, FZ)) hr hk hK hP hS dX8_order_283 (by have e0 : (ord0 TT F).1 = av := congrArg Prod.fst hA0.symm; have e1 : (ordX TT F).1 = b3 := congrArg Prod.fst hX.symm; have e2 : (ordX TT F).2.1 = c3 := congrArg (fun q => q.2.1) hX.symm; have e3 : (ordY TT F).1 = d5 := congrArg Prod.fst hY.symm; unfold ordP; rw [e0, e1, e2, e3, ← hW]; unfold ordG; rw [hFZ, if_neg (by omega), if_neg (by omega), if_neg (by omega), if_neg (by omega), if_neg (by omega), if_neg (by omega), if_neg (by omega), if_neg (by omega)])
        have c5_106 : 106 ≤ (letF TT F) := by omega
        clear c5 c5_105
        by_cases c5 : (letF TT F) = 106
        · skip
          refine xv_tableIn T (off := 169) (tgt := 277) 106 c5 (by omega) dX8_order_108 (by omega) (by omega) (by decide) (by decide) ?_
          refine lv_aload_n T.1 T.2.1 dX8_order_277 rfl (lv_at hl 0 rfl) ?_
          refine xv_iconst T dX8_order_278 ?_
          refine p8_isForm T hK hP (m_D K o N B SS TT FW) hS 0 rfl (Nat.le_of_ble_eq_true rfl) (by omega) mw_3_183 dX8_order_279 (mu_F4 K o N B SS TT FW 0) (fun H locs hP hS => ?_)
          obtain ⟨FZ, hFZ⟩ : ∃ Y0 : Int → Int, Y0 = uZ FW 4 0 := ⟨_, rfl⟩
          have hP : xP K (mW K o N B SS TT FZ) H := by rw [hFZ]; exact hP
          refine xv_iconst T dX8_order_282 ?_
          exact rI T (u := (N, FZ)) hr hk hK hP hS dX8_order_283 (by have e0 : (ord0 TT F).1 = av := congrArg Prod.fst hA0.symm; have e1 : (ordX TT F).1 = b3 := congrArg Prod.fst hX.symm; have e2 : (ordX TT F).2.1 = c3 := congrArg (fun q => q.2.1) hX.symm; have e3 : (ordY TT F).1 = d5 := congrArg Prod.fst hY.symm; unfold ordP; rw [e0, e1, e2, e3, ← hW]; unfold ordG; rw [hFZ, if_neg (by omega), if_neg (by omega), if_neg (by omega), if_neg (by omega), if_neg (by omega), if_neg (by omega), if_neg (by omega), if_neg (by omega)])
        have c5_107 : 107 ≤ (letF TT F) := by omega
        clear c5 c5_106
        by_cases c5 : (letF TT F) = 107
        · skip
          refine xv_tableIn T (off := 169) (tgt := 277) 107 c5 (by omega) dX8_order_108 (by omega) (by omega) (by decide) (by decide) ?_
          refine lv_aload_n T.1 T.2.1 dX8_order_277 rfl (lv_at hl 0 rfl) ?_
          refine xv_iconst T dX8_order_278 ?_
          refine p8_isForm T hK hP (m_D K o N B SS TT FW) hS 0 rfl (Nat.le_of_ble_eq_true rfl) (by omega) mw_3_183 dX8_order_279 (mu_F4 K o N B SS TT FW 0) (fun H locs hP hS => ?_)
          obtain ⟨FZ, hFZ⟩ : ∃ Y0 : Int → Int, Y0 = uZ FW 4 0 := ⟨_, rfl⟩
          have hP : xP K (mW K o N B SS TT FZ) H := by rw [hFZ]; exact hP
          refine xv_iconst T dX8_order_282 ?_
          exact rI T (u := (N, FZ)) hr hk hK hP hS dX8_order_283 (by have e0 : (ord0 TT F).1 = av := congrArg Prod.fst hA0.symm; have e1 : (ordX TT F).1 = b3 := congrArg Prod.fst hX.symm; have e2 : (ordX TT F).2.1 = c3 := congrArg (fun q => q.2.1) hX.symm; have e3 : (ordY TT F).1 = d5 := congrArg Prod.fst hY.symm; unfold ordP; rw [e0, e1, e2, e3, ← hW]; unfold ordG; rw [hFZ, if_neg (by omega), if_neg (by omega), if_neg (by omega), if_neg (by omega), if_neg (by omega), if_neg (by omega), if_neg (by omega), if_neg (by omega)])
        have c5_108 : 108 ≤ (letF TT F) := by omega
        clear c5 c5_107
        by_cases c5 : (letF TT F) = 108
        · skip
          refine xv_tableIn T (off := 169) (tgt := 277) 108 c5 (by omega) dX8_order_108 (by omega) (by omega) (by decide) (by decide) ?_
          refine lv_aload_n T.1 T.2.1 dX8_order_277 rfl (lv_at hl 0 rfl) ?_
          refine xv_iconst T dX8_order_278 ?_
          refine p8_isForm T hK hP (m_D K o N B SS TT FW) hS 0 rfl (Nat.le_of_ble_eq_true rfl) (by omega) mw_3_183 dX8_order_279 (mu_F4 K o N B SS TT FW 0) (fun H locs hP hS => ?_)
          obtain ⟨FZ, hFZ⟩ : ∃ Y0 : Int → Int, Y0 = uZ FW 4 0 := ⟨_, rfl⟩
          have hP : xP K (mW K o N B SS TT FZ) H := by rw [hFZ]; exact hP
          refine xv_iconst T dX8_order_282 ?_
          exact rI T (u := (N, FZ)) hr hk hK hP hS dX8_order_283 (by have e0 : (ord0 TT F).1 = av := congrArg Prod.fst hA0.symm; have e1 : (ordX TT F).1 = b3 := congrArg Prod.fst hX.symm; have e2 : (ordX TT F).2.1 = c3 := congrArg (fun q => q.2.1) hX.symm; have e3 : (ordY TT F).1 = d5 := congrArg Prod.fst hY.symm; unfold ordP; rw [e0, e1, e2, e3, ← hW]; unfold ordG; rw [hFZ, if_neg (by omega), if_neg (by omega), if_neg (by omega), if_neg (by omega), if_neg (by omega), if_neg (by omega), if_neg (by omega), if_neg (by omega)])
        have c5_109 : 109 ≤ (letF TT F) := by omega
        clear c5 c5_108
        by_cases c5 : (letF TT F) = 109
        · skip
          refine xv_tableIn T (off := 169) (tgt := 277) 109 c5 (by omega) dX8_order_108 (by omega) (by omega) (by decide) (by decide) ?_
          refine lv_aload_n T.1 T.2.1 dX8_order_277 rfl (lv_at hl 0 rfl) ?_
          refine xv_iconst T dX8_order_278 ?_
          refine p8_isForm T hK hP (m_D K o N B SS TT FW) hS 0 rfl (Nat.le_of_ble_eq_true rfl) (by omega) mw_3_183 dX8_order_279 (mu_F4 K o N B SS TT FW 0) (fun H locs hP hS => ?_)
          obtain ⟨FZ, hFZ⟩ : ∃ Y0 : Int → Int, Y0 = uZ FW 4 0 := ⟨_, rfl⟩
          have hP : xP K (mW K o N B SS TT FZ) H := by rw [hFZ]; exact hP
          refine xv_iconst T dX8_order_282 ?_
          exact rI T (u := (N, FZ)) hr hk hK hP hS dX8_order_283 (by have e0 : (ord0 TT F).1 = av := congrArg Prod.fst hA0.symm; have e1 : (ordX TT F).1 = b3 := congrArg Prod.fst hX.symm; have e2 : (ordX TT F).2.1 = c3 := congrArg (fun q => q.2.1) hX.symm; have e3 : (ordY TT F).1 = d5 := congrArg Prod.fst hY.symm; unfold ordP; rw [e0, e1, e2, e3, ← hW]; unfold ordG; rw [hFZ, if_neg (by omega), if_neg (by omega), if_neg (by omega), if_neg (by omega), if_neg (by omega), if_neg (by omega), if_neg (by omega), if_neg (by omega)])
        have c5_110 : 110 ≤ (letF TT F) := by omega
        clear c5 c5_109
        by_cases c5 : (letF TT F) = 110
        · skip
          refine xv_tableIn T (off := 169) (tgt := 277) 110 c5 (by omega) dX8_order_108 (by omega) (by omega) (by decide) (by decide) ?_
          refine lv_aload_n T.1 T.2.1 dX8_order_277 rfl (lv_at hl 0 rfl) ?_
          refine xv_iconst T dX8_order_278 ?_
          refine p8_isForm T hK hP (m_D K o N B SS TT FW) hS 0 rfl (Nat.le_of_ble_eq_true rfl) (by omega) mw_3_183 dX8_order_279 (mu_F4 K o N B SS TT FW 0) (fun H locs hP hS => ?_)
          obtain ⟨FZ, hFZ⟩ : ∃ Y0 : Int → Int, Y0 = uZ FW 4 0 := ⟨_, rfl⟩
          have hP : xP K (mW K o N B SS TT FZ) H := by rw [hFZ]; exact hP
          refine xv_iconst T dX8_order_282 ?_
          exact rI T (u := (N, FZ)) hr hk hK hP hS dX8_order_283 (by have e0 : (ord0 TT F).1 = av := congrArg Prod.fst hA0.symm; have e1 : (ordX TT F).1 = b3 := congrArg Prod.fst hX.symm; have e2 : (ordX TT F).2.1 = c3 := congrArg (fun q => q.2.1) hX.symm; have e3 : (ordY TT F).1 = d5 := congrArg Prod.fst hY.symm; unfold ordP; rw [e0, e1, e2, e3, ← hW]; unfold ordG; rw [hFZ, if_neg (by omega), if_neg (by omega), if_neg (by omega), if_neg (by omega), if_neg (by omega), if_neg (by omega), if_neg (by omega), if_neg (by omega)])
        have c5_111 : 111 ≤ (letF TT F) := by omega
        clear c5 c5_110
        by_cases c5 : (letF TT F) = 111
        · skip
          refine xv_tableIn T (off := 169) (tgt := 277) 111 c5 (by omega) dX8_order_108 (by omega) (by omega) (by decide) (by decide) ?_
          refine lv_aload_n T.1 T.2.1 dX8_order_277 rfl (lv_at hl 0 rfl) ?_
          refine xv_iconst T dX8_order_278 ?_
          refine p8_isForm T hK hP (m_D K o N B SS TT FW) hS 0 rfl (Nat.le_of_ble_eq_true rfl) (by omega) mw_3_183 dX8_order_279 (mu_F4 K o N B SS TT FW 0) (fun H locs hP hS => ?_)
          obtain ⟨FZ, hFZ⟩ : ∃ Y0 : Int → Int, Y0 = uZ FW 4 0 := ⟨_, rfl⟩
          have hP : xP K (mW K o N B SS TT FZ) H := by rw [hFZ]; exact hP
          refine xv_iconst T dX8_order_282 ?_
          exact rI T (u := (N, FZ)) hr hk hK hP hS dX8_order_283 (by have e0 : (ord0 TT F).1 = av := congrArg Prod.fst hA0.symm; have e1 : (ordX TT F).1 = b3 := congrArg Prod.fst hX.symm; have e2 : (ordX TT F).2.1 = c3 := congrArg (fun q => q.2.1) hX.symm; have e3 : (ordY TT F).1 = d5 := congrArg Prod.fst hY.symm; unfold ordP; rw [e0, e1, e2, e3, ← hW]; unfold ordG; rw [hFZ, if_neg (by omega), if_neg (by omega), if_neg (by omega), if_neg (by omega), if_neg (by omega), if_neg (by omega), if_neg (by omega), if_neg (by omega)])
        have c5_112 : 112 ≤ (letF TT F) := by omega
        clear c5 c5_111
        by_cases c5 : (letF TT F) = 112
        · skip
          refine xv_tableIn T (off := 169) (tgt := 277) 112 c5 (by omega) dX8_order_108 (by omega) (by omega) (by decide) (by decide) ?_
          refine lv_aload_n T.1 T.2.1 dX8_order_277 rfl (lv_at hl 0 rfl) ?_
          refine xv_iconst T dX8_order_278 ?_
          refine p8_isForm T hK hP (m_D K o N B SS TT FW) hS 0 rfl (Nat.le_of_ble_eq_true rfl) (by omega) mw_3_183 dX8_order_279 (mu_F4 K o N B SS TT FW 0) (fun H locs hP hS => ?_)
          obtain ⟨FZ, hFZ⟩ : ∃ Y0 : Int → Int, Y0 = uZ FW 4 0 := ⟨_, rfl⟩
          have hP : xP K (mW K o N B SS TT FZ) H := by rw [hFZ]; exact hP
          refine xv_iconst T dX8_order_282 ?_
          exact rI T (u := (N, FZ)) hr hk hK hP hS dX8_order_283 (by have e0 : (ord0 TT F).1 = av := congrArg Prod.fst hA0.symm; have e1 : (ordX TT F).1 = b3 := congrArg Prod.fst hX.symm; have e2 : (ordX TT F).2.1 = c3 := congrArg (fun q => q.2.1) hX.symm; have e3 : (ordY TT F).1 = d5 := congrArg Prod.fst hY.symm; unfold ordP; rw [e0, e1, e2, e3, ← hW]; unfold ordG; rw [hFZ, if_neg (by omega), if_neg (by omega), if_neg (by omega), if_neg (by omega), if_neg (by omega), if_neg (by omega), if_neg (by omega), if_neg (by omega)])
        have c5_113 : 113 ≤ (letF TT F) := by omega
        clear c5 c5_112
        by_cases c5 : (letF TT F) = 113
        · skip
          refine xv_tableIn T (off := 169) (tgt := 277) 113 c5 (by omega) dX8_order_108 (by omega) (by omega) (by decide) (by decide) ?_
          refine lv_aload_n T.1 T.2.1 dX8_order_277 rfl (lv_at hl 0 rfl) ?_
          refine xv_iconst T dX8_order_278 ?_
          refine p8_isForm T hK hP (m_D K o N B SS TT FW) hS 0 rfl (Nat.le_of_ble_eq_true rfl) (by omega) mw_3_183 dX8_order_279 (mu_F4 K o N B SS TT FW 0) (fun H locs hP hS => ?_)
          obtain ⟨FZ, hFZ⟩ : ∃ Y0 : Int → Int, Y0 = uZ FW 4 0 := ⟨_, rfl⟩
          have hP : xP K (mW K o N B SS TT FZ) H := by rw [hFZ]; exact hP
          refine xv_iconst T dX8_order_282 ?_
          exact rI T (u := (N, FZ)) hr hk hK hP hS dX8_order_283 (by have e0 : (ord0 TT F).1 = av := congrArg Prod.fst hA0.symm; have e1 : (ordX TT F).1 = b3 := congrArg Prod.fst hX.symm; have e2 : (ordX TT F).2.1 = c3 := congrArg (fun q => q.2.1) hX.symm; have e3 : (ordY TT F).1 = d5 := congrArg Prod.fst hY.symm; unfold ordP; rw [e0, e1, e2, e3, ← hW]; unfold ordG; rw [hFZ, if_neg (by omega), if_neg (by omega), if_neg (by omega), if_neg (by omega), if_neg (by omega), if_neg (by omega), if_neg (by omega), if_neg (by omega)])
        have c5_114 : 114 ≤ (letF TT F) := by omega
        clear c5 c5_113
        by_cases c5 : (letF TT F) = 114
        · skip
          refine xv_tableIn T (off := 131) (tgt := 239) 114 c5 (by omega) dX8_order_108 (by omega) (by omega) (by decide) (by decide) ?_
          refine lv_aload_n T.1 T.2.1 dX8_order_239 rfl (lv_at hl 0 rfl) ?_
          refine lv_iload_n T.1 T.2.1 dX8_order_240 rfl (lv_at hl 2 rfl) ?_
          refine lv_iload_n T.1 T.2.1 dX8_order_241 rfl (lv_at hl 3 rfl) ?_
          refine lv_iload T.1 T.2.1 dX8_order_242 (lv_at hl 4 rfl) ?_
          refine cI_V T hK hP hS 0 rfl rfl rfl (c_X8_brings l K o N B SS TT FW av b3 c3 (by omega) (by omega) (by omega) hI) iX8_brings mw_4_99 ⟨Nat.le_of_ble_eq_true rfl, Nat.le_of_ble_eq_true rfl⟩ hP (fun _ h => h) rfl hl.1 rfl (Nat.le_of_ble_eq_true rfl) ⟨Nat.zero_le _, Nat.zero_le _⟩ dX8_order_244 (fun zo No H1 locs qo hP1 hg1 hg2 hS => ?_)
          have hP : xP K (mW K o No B SS TT FW) H1 := hP1
          generalize H1 = H at hP hS ⊢
          clear hg1 hg2 hP1
          exact rI T (u := (No, FW)) hr hk hK hP hS dX8_order_247 (by have e0 : (ord0 TT F).1 = av := congrArg Prod.fst hA0.symm; have e1 : (ordX TT F).1 = b3 := congrArg Prod.fst hX.symm; have e2 : (ordX TT F).2.1 = c3 := congrArg (fun q => q.2.1) hX.symm; have e3 : (ordY TT F).1 = d5 := congrArg Prod.fst hY.symm; unfold ordP; rw [e0, e1, e2, e3, ← hW]; unfold ordG; rw [if_neg (by omega), if_neg (by omega), if_neg (by omega), if_pos (by omega), ← qo])
        have c5_115 : 115 ≤ (letF TT F) := by omega
        clear c5 c5_114
        by_cases c5 : (letF TT F) = 115
        · skip
          refine xv_tableIn T (off := 169) (tgt := 277) 115 c5 (by omega) dX8_order_108 (by omega) (by omega) (by decide) (by decide) ?_
          refine lv_aload_n T.1 T.2.1 dX8_order_277 rfl (lv_at hl 0 rfl) ?_
          refine xv_iconst T dX8_order_278 ?_
          refine p8_isForm T hK hP (m_D K o N B SS TT FW) hS 0 rfl (Nat.le_of_ble_eq_true rfl) (by omega) mw_3_183 dX8_order_279 (mu_F4 K o N B SS TT FW 0) (fun H locs hP hS => ?_)
          obtain ⟨FZ, hFZ⟩ : ∃ Y0 : Int → Int, Y0 = uZ FW 4 0 := ⟨_, rfl⟩
          have hP : xP K (mW K o N B SS TT FZ) H := by rw [hFZ]; exact hP
          refine xv_iconst T dX8_order_282 ?_
          exact rI T (u := (N, FZ)) hr hk hK hP hS dX8_order_283 (by have e0 : (ord0 TT F).1 = av := congrArg Prod.fst hA0.symm; have e1 : (ordX TT F).1 = b3 := congrArg Prod.fst hX.symm; have e2 : (ordX TT F).2.1 = c3 := congrArg (fun q => q.2.1) hX.symm; have e3 : (ordY TT F).1 = d5 := congrArg Prod.fst hY.symm; unfold ordP; rw [e0, e1, e2, e3, ← hW]; unfold ordG; rw [hFZ, if_neg (by omega), if_neg (by omega), if_neg (by omega), if_neg (by omega), if_neg (by omega), if_neg (by omega), if_neg (by omega), if_neg (by omega)])
        have c5_116 : 116 ≤ (letF TT F) := by omega
        clear c5 c5_115
        by_cases c5 : (letF TT F) = 116
        · skip
          refine xv_tableIn T (off := 151) (tgt := 259) 116 c5 (by omega) dX8_order_108 (by omega) (by omega) (by decide) (by decide) ?_
          refine lv_aload_n T.1 T.2.1 dX8_order_259 rfl (lv_at hl 0 rfl) ?_
          refine lv_iload_n T.1 T.2.1 dX8_order_260 rfl (lv_at hl 2 rfl) ?_
          refine cI_V T hK hP hS 0 rfl rfl rfl (c_X8_tears l K o N B SS TT FW av (by omega) hI) iX8_tears mw_4_115 ⟨Nat.le_of_ble_eq_true rfl, Nat.le_of_ble_eq_true rfl⟩ hP (fun _ h => h) rfl hl.1 rfl (Nat.le_of_ble_eq_true rfl) ⟨Nat.zero_le _, Nat.zero_le _⟩ dX8_order_261 (fun zo No H1 locs qo hP1 hg1 hg2 hS => ?_)
          have hP : xP K (mW K o No B SS TT FW) H1 := hP1
          generalize H1 = H at hP hS ⊢
          clear hg1 hg2 hP1
          exact rI T (u := (No, FW)) hr hk hK hP hS dX8_order_264 (by have e0 : (ord0 TT F).1 = av := congrArg Prod.fst hA0.symm; have e1 : (ordX TT F).1 = b3 := congrArg Prod.fst hX.symm; have e2 : (ordX TT F).2.1 = c3 := congrArg (fun q => q.2.1) hX.symm; have e3 : (ordY TT F).1 = d5 := congrArg Prod.fst hY.symm; unfold ordP; rw [e0, e1, e2, e3, ← hW]; unfold ordG; rw [if_neg (by omega), if_neg (by omega), if_neg (by omega), if_neg (by omega), if_neg (by omega), if_pos (by omega), ← qo])
        have c5_117 : 117 ≤ (letF TT F) := by omega
        clear c5 c5_116
        by_cases c5 : (letF TT F) = 117
        · skip
          refine xv_tableIn T (off := 122) (tgt := 230) 117 c5 (by omega) dX8_order_108 (by omega) (by omega) (by decide) (by decide) ?_
          refine lv_aload_n T.1 T.2.1 dX8_order_230 rfl (lv_at hl 0 rfl) ?_
          refine lv_iload_n T.1 T.2.1 dX8_order_231 rfl (lv_at hl 2 rfl) ?_
          refine lv_iload_n T.1 T.2.1 dX8_order_232 rfl (lv_at hl 3 rfl) ?_
          refine lv_iload T.1 T.2.1 dX8_order_233 (lv_at hl 4 rfl) ?_
          refine cI_V T hK hP hS 0 rfl rfl rfl (c_X8_uses l K o N B SS TT FW av b3 c3 (by omega) (by omega) (by omega) hI) iX8_uses mw_4_80 ⟨Nat.le_of_ble_eq_true rfl, Nat.le_of_ble_eq_true rfl⟩ hP (fun _ h => h) rfl hl.1 rfl (Nat.le_of_ble_eq_true rfl) ⟨Nat.zero_le _, Nat.zero_le _⟩ dX8_order_235 (fun zo No H1 locs qo hP1 hg1 hg2 hS => ?_)
          have hP : xP K (mW K o No B SS TT FW) H1 := hP1
          generalize H1 = H at hP hS ⊢
          clear hg1 hg2 hP1
          exact rI T (u := (No, FW)) hr hk hK hP hS dX8_order_238 (by have e0 : (ord0 TT F).1 = av := congrArg Prod.fst hA0.symm; have e1 : (ordX TT F).1 = b3 := congrArg Prod.fst hX.symm; have e2 : (ordX TT F).2.1 = c3 := congrArg (fun q => q.2.1) hX.symm; have e3 : (ordY TT F).1 = d5 := congrArg Prod.fst hY.symm; unfold ordP; rw [e0, e1, e2, e3, ← hW]; unfold ordG; rw [if_neg (by omega), if_neg (by omega), if_pos (by omega), ← qo])
        have c5_118 : 118 ≤ (letF TT F) := by omega
        clear c5 c5_117
        by_cases c5 : (letF TT F) = 118
        · skip
          refine xv_tableIn T (off := 169) (tgt := 277) 118 c5 (by omega) dX8_order_108 (by omega) (by omega) (by decide) (by decide) ?_
          refine lv_aload_n T.1 T.2.1 dX8_order_277 rfl (lv_at hl 0 rfl) ?_
          refine xv_iconst T dX8_order_278 ?_
          refine p8_isForm T hK hP (m_D K o N B SS TT FW) hS 0 rfl (Nat.le_of_ble_eq_true rfl) (by omega) mw_3_183 dX8_order_279 (mu_F4 K o N B SS TT FW 0) (fun H locs hP hS => ?_)
          obtain ⟨FZ, hFZ⟩ : ∃ Y0 : Int → Int, Y0 = uZ FW 4 0 := ⟨_, rfl⟩
          have hP : xP K (mW K o N B SS TT FZ) H := by rw [hFZ]; exact hP
          refine xv_iconst T dX8_order_282 ?_
          exact rI T (u := (N, FZ)) hr hk hK hP hS dX8_order_283 (by have e0 : (ord0 TT F).1 = av := congrArg Prod.fst hA0.symm; have e1 : (ordX TT F).1 = b3 := congrArg Prod.fst hX.symm; have e2 : (ordX TT F).2.1 = c3 := congrArg (fun q => q.2.1) hX.symm; have e3 : (ordY TT F).1 = d5 := congrArg Prod.fst hY.symm; unfold ordP; rw [e0, e1, e2, e3, ← hW]; unfold ordG; rw [hFZ, if_neg (by omega), if_neg (by omega), if_neg (by omega), if_neg (by omega), if_neg (by omega), if_neg (by omega), if_neg (by omega), if_neg (by omega)])
        have c5_119 : 119 ≤ (letF TT F) := by omega
        clear c5 c5_118
        by_cases c5 : (letF TT F) = 119
        · skip
          refine xv_tableIn T (off := 169) (tgt := 277) 119 c5 (by omega) dX8_order_108 (by omega) (by omega) (by decide) (by decide) ?_
          refine lv_aload_n T.1 T.2.1 dX8_order_277 rfl (lv_at hl 0 rfl) ?_
          refine xv_iconst T dX8_order_278 ?_
          refine p8_isForm T hK hP (m_D K o N B SS TT FW) hS 0 rfl (Nat.le_of_ble_eq_true rfl) (by omega) mw_3_183 dX8_order_279 (mu_F4 K o N B SS TT FW 0) (fun H locs hP hS => ?_)
          obtain ⟨FZ, hFZ⟩ : ∃ Y0 : Int → Int, Y0 = uZ FW 4 0 := ⟨_, rfl⟩
          have hP : xP K (mW K o N B SS TT FZ) H := by rw [hFZ]; exact hP
          refine xv_iconst T dX8_order_282 ?_
          exact rI T (u := (N, FZ)) hr hk hK hP hS dX8_order_283 (by have e0 : (ord0 TT F).1 = av := congrArg Prod.fst hA0.symm; have e1 : (ordX TT F).1 = b3 := congrArg Prod.fst hX.symm; have e2 : (ordX TT F).2.1 = c3 := congrArg (fun q => q.2.1) hX.symm; have e3 : (ordY TT F).1 = d5 := congrArg Prod.fst hY.symm; unfold ordP; rw [e0, e1, e2, e3, ← hW]; unfold ordG; rw [hFZ, if_neg (by omega), if_neg (by omega), if_neg (by omega), if_neg (by omega), if_neg (by omega), if_neg (by omega), if_neg (by omega), if_neg (by omega)])
        have c5_120 : 120 ≤ (letF TT F) := by omega
        clear c5 c5_119
        by_cases c5 : (letF TT F) = 120
        · skip
          refine xv_tableIn T (off := 169) (tgt := 277) 120 c5 (by omega) dX8_order_108 (by omega) (by omega) (by decide) (by decide) ?_
          refine lv_aload_n T.1 T.2.1 dX8_order_277 rfl (lv_at hl 0 rfl) ?_
          refine xv_iconst T dX8_order_278 ?_
          refine p8_isForm T hK hP (m_D K o N B SS TT FW) hS 0 rfl (Nat.le_of_ble_eq_true rfl) (by omega) mw_3_183 dX8_order_279 (mu_F4 K o N B SS TT FW 0) (fun H locs hP hS => ?_)
          obtain ⟨FZ, hFZ⟩ : ∃ Y0 : Int → Int, Y0 = uZ FW 4 0 := ⟨_, rfl⟩
          have hP : xP K (mW K o N B SS TT FZ) H := by rw [hFZ]; exact hP
          refine xv_iconst T dX8_order_282 ?_
          exact rI T (u := (N, FZ)) hr hk hK hP hS dX8_order_283 (by have e0 : (ord0 TT F).1 = av := congrArg Prod.fst hA0.symm; have e1 : (ordX TT F).1 = b3 := congrArg Prod.fst hX.symm; have e2 : (ordX TT F).2.1 = c3 := congrArg (fun q => q.2.1) hX.symm; have e3 : (ordY TT F).1 = d5 := congrArg Prod.fst hY.symm; unfold ordP; rw [e0, e1, e2, e3, ← hW]; unfold ordG; rw [hFZ, if_neg (by omega), if_neg (by omega), if_neg (by omega), if_neg (by omega), if_neg (by omega), if_neg (by omega), if_neg (by omega), if_neg (by omega)])
        have c5_121 : 121 ≤ (letF TT F) := by omega
        clear c5 c5_120
        by_cases c5 : (letF TT F) = 121
        · skip
          refine xv_tableIn T (off := 169) (tgt := 277) 121 c5 (by omega) dX8_order_108 (by omega) (by omega) (by decide) (by decide) ?_
          refine lv_aload_n T.1 T.2.1 dX8_order_277 rfl (lv_at hl 0 rfl) ?_
          refine xv_iconst T dX8_order_278 ?_
          refine p8_isForm T hK hP (m_D K o N B SS TT FW) hS 0 rfl (Nat.le_of_ble_eq_true rfl) (by omega) mw_3_183 dX8_order_279 (mu_F4 K o N B SS TT FW 0) (fun H locs hP hS => ?_)
          obtain ⟨FZ, hFZ⟩ : ∃ Y0 : Int → Int, Y0 = uZ FW 4 0 := ⟨_, rfl⟩
          have hP : xP K (mW K o N B SS TT FZ) H := by rw [hFZ]; exact hP
          refine xv_iconst T dX8_order_282 ?_
          exact rI T (u := (N, FZ)) hr hk hK hP hS dX8_order_283 (by have e0 : (ord0 TT F).1 = av := congrArg Prod.fst hA0.symm; have e1 : (ordX TT F).1 = b3 := congrArg Prod.fst hX.symm; have e2 : (ordX TT F).2.1 = c3 := congrArg (fun q => q.2.1) hX.symm; have e3 : (ordY TT F).1 = d5 := congrArg Prod.fst hY.symm; unfold ordP; rw [e0, e1, e2, e3, ← hW]; unfold ordG; rw [hFZ, if_neg (by omega), if_neg (by omega), if_neg (by omega), if_neg (by omega), if_neg (by omega), if_neg (by omega), if_neg (by omega), if_neg (by omega)])
        have c5_122 : 122 ≤ (letF TT F) := by omega
        clear c5 c5_121
        have c5 : (letF TT F) = 122 := by omega
        refine xv_tableIn T (off := 116) (tgt := 224) 122 c5 (by omega) dX8_order_108 (by omega) (by omega) (by decide) (by decide) ?_
        refine lv_aload_n T.1 T.2.1 dX8_order_224 rfl (lv_at hl 0 rfl) ?_
        refine lv_iload_n T.1 T.2.1 dX8_order_225 rfl (lv_at hl 2 rfl) ?_
        refine cI_V T hK hP hS 0 rfl rfl rfl (c_X8_crosses l K o N B SS TT FW av (by omega) hI) iX8_crosses mw_4_136 ⟨Nat.le_of_ble_eq_true rfl, Nat.le_of_ble_eq_true rfl⟩ hP (fun _ h => h) rfl hl.1 rfl (Nat.le_of_ble_eq_true rfl) ⟨Nat.zero_le _, Nat.zero_le _⟩ dX8_order_226 (fun zo No H1 locs qo hP1 hg1 hg2 hS => ?_)
        have hP : xP K (mW K o No B SS TT FW) H1 := hP1
        generalize H1 = H at hP hS ⊢
        clear hg1 hg2 hP1
        exact rI T (u := (No, FW)) hr hk hK hP hS dX8_order_229 (by have e0 : (ord0 TT F).1 = av := congrArg Prod.fst hA0.symm; have e1 : (ordX TT F).1 = b3 := congrArg Prod.fst hX.symm; have e2 : (ordX TT F).2.1 = c3 := congrArg (fun q => q.2.1) hX.symm; have e3 : (ordY TT F).1 = d5 := congrArg Prod.fst hY.symm; unfold ordP; rw [e0, e1, e2, e3, ← hW]; unfold ordG; rw [if_neg (by omega), if_pos (by omega), ← qo])
      · skip
        refine xv_iconst T dX8_order_105 ?_
        exact rI T (u := (N, FW)) hr hk hK hP hS dX8_order_106 (by have e0 : (ord0 TT F).1 = av := congrArg Prod.fst hA0.symm; have e1 : (ordX TT F).1 = b3 := congrArg Prod.fst hX.symm; have e2 : (ordX TT F).2.1 = c3 := congrArg (fun q => q.2.1) hX.symm; have e3 : (ordY TT F).1 = d5 := congrArg Prod.fst hY.symm; unfold ordP; rw [e0, e1, e2, e3, ← hW]; unfold ordG; rw [if_pos (by omega)])
    refine lv_iload_n T.1 T.2.1 dX8_order_74 rfl (lv_at hl 1 rfl) ?_
    refine xv_bipush T dX8_order_75 (by omega) ?_
    refine xv_icmp_ne T (by omega) (tgt := 92) dX8_order_77 (by decide) (fun c6 => ?_) (fun c6 => ?_)
    · skip
      exact jn92 0 FX _ _ ls (by unfold ordY ordD; rw [if_neg (by omega), ← hX]) (by omega) hP hS (lv_sub hl [0, 1, 2, 3, 4, 5] rfl)
    · skip
      refine lv_aload_n T.1 T.2.1 dX8_order_80 rfl (lv_at hl 0 rfl) ?_
      refine xv_bipush T dX8_order_81 (by omega) ?_
      refine cV_V T hK hP hS 0 rfl rfl rfl (c_X8_passesSign l K o N B SS TT FX 44 (by omega) (by rw [kFX]; exact hF2) (by omega) (by omega) tFX) iX8_passesSign mw_4_217 ⟨Nat.le_of_ble_eq_true rfl, Nat.le_of_ble_eq_true rfl⟩ hP (fun _ h => h) rfl hl.1 rfl (Nat.le_of_ble_eq_true rfl) ⟨Nat.zero_le _, Nat.zero_le _⟩ dX8_order_83 (fun FG H1 locs hFG hP1 hg1 hg2 hS => ?_)
      have hP : xP K (mW K o N B SS TT FG) H1 := hP1
      generalize H1 = H at hP hS ⊢
      clear hg1 hg2 hP1
      have gFG := psF_f TT FX 44
      rw [← hFG] at gFG
      have kFG : FG 2 = F 2 := by rw [gFG.1 2 (by omega) (by omega), kFX]
      have tFG : TxT TT (FG 2) := by rw [kFG]; exact hT
      refine lv_aload_n T.1 T.2.1 dX8_order_86 rfl (lv_at hl 0 rfl) ?_
      refine cI_V T hK hP hS 0 rfl rfl rfl (c_X8_number l K o N B SS TT FG (by rw [kFG]; exact hF2) (by omega) (by omega) tFG) iX8_number mw_4_213 ⟨Nat.le_of_ble_eq_true rfl, Nat.le_of_ble_eq_true rfl⟩ hP (fun _ h => h) rfl hl.1 rfl (Nat.le_of_ble_eq_true rfl) ⟨Nat.zero_le _, Nat.zero_le _⟩ dX8_order_87 (fun dv FH H1 locs qH hP1 hg1 hg2 hS => ?_)
      have hP : xP K (mW K o N B SS TT FH) H1 := hP1
      generalize H1 = H at hP hS ⊢
      clear hg1 hg2 hP1
      obtain ⟨hvFH, hFH⟩ := qH
      have gFH := numP_f TT FG
      rw [← hFH, ← hvFH] at gFH
      have kFH : FH 2 = F 2 := by rw [gFH.1 2 (by omega) (by omega), kFG]
      have tFH : TxT TT (FH 2) := by rw [kFH]; exact hT
      refine lv_istore (lv' := [(5, .int (iI dv)), (0, .ref o), (1, .int (iI (letF TT F))), (2, .int (iI av)), (3, .int (iI b3)), (4, .int (iI c3))]) T.1 T.2.1 dX8_order_90 hl (by decide) rfl (fun ls hl => ?_)
      exact jn92 dv FH _ _ ls (by unfold ordY ordD; rw [if_pos (by omega), ← hX, hFH, hvFH, hFG]) (by omega) hP hS (lv_sub hl [1, 2, 3, 4, 5, 0] rfl)
  refine lv_iload_n T.1 T.2.1 dX8_order_33 rfl (lv_at hl 4 rfl) ?_
  refine xv_bipush T dX8_order_34 (by omega) ?_
  refine xv_icmp_eq T (by omega) (tgt := 51) dX8_order_36 (by decide) (fun c8 => ?_) (fun c8 => ?_)
  · skip
    refine lv_aload_n T.1 T.2.1 dX8_order_51 rfl (lv_at hl 5 rfl) ?_
    refine xv_bipush T dX8_order_52 (by omega) ?_
    refine cV_V T hK hP hS 0 rfl rfl rfl (c_X8_passesSign l K o N B SS TT FA 44 (by omega) (by rw [kFA]; exact hF2) (by omega) (by omega) tFA) iX8_passesSign mw_4_217 ⟨Nat.le_of_ble_eq_true rfl, Nat.le_of_ble_eq_true rfl⟩ hP (fun _ h => h) rfl hl.1 rfl (Nat.le_of_ble_eq_true rfl) ⟨Nat.zero_le _, Nat.zero_le _⟩ dX8_order_54 (fun FB H1 locs hFB hP1 hg1 hg2 hS => ?_)
    have hP : xP K (mW K o N B SS TT FB) H1 := hP1
    generalize H1 = H at hP hS ⊢
    clear hg1 hg2 hP1
    have gFB := psF_f TT FA 44
    rw [← hFB] at gFB
    have kFB : FB 2 = F 2 := by rw [gFB.1 2 (by omega) (by omega), kFA]
    have tFB : TxT TT (FB 2) := by rw [kFB]; exact hT
    refine lv_aload_n T.1 T.2.1 dX8_order_57 rfl (lv_at hl 5 rfl) ?_
    refine cI_V T hK hP hS 0 rfl rfl rfl (c_X8_number l K o N B SS TT FB (by rw [kFB]; exact hF2) (by omega) (by omega) tFB) iX8_number mw_4_213 ⟨Nat.le_of_ble_eq_true rfl, Nat.le_of_ble_eq_true rfl⟩ hP (fun _ h => h) rfl hl.1 rfl (Nat.le_of_ble_eq_true rfl) ⟨Nat.zero_le _, Nat.zero_le _⟩ dX8_order_58 (fun bv FC H1 locs qC hP1 hg1 hg2 hS => ?_)
    have hP : xP K (mW K o N B SS TT FC) H1 := hP1
    generalize H1 = H at hP hS ⊢
    clear hg1 hg2 hP1
    obtain ⟨hvFC, hFC⟩ := qC
    have gFC := numP_f TT FB
    rw [← hFC, ← hvFC] at gFC
    have kFC : FC 2 = F 2 := by rw [gFC.1 2 (by omega) (by omega), kFB]
    have tFC : TxT TT (FC 2) := by rw [kFC]; exact hT
    refine lv_istore_n (lv' := [(3, .int (iI bv)), (5, .int (iI 0)), (4, .int (iI 0)), (2, .int (iI av)), (1, .int (iI (letF TT F))), (0, .ref o)]) T.1 T.2.1 dX8_order_61 rfl hl (by decide) rfl (fun ls hl => ?_)
    refine lv_aload_n T.1 T.2.1 dX8_order_62 rfl (lv_at hl 5 rfl) ?_
    refine xv_bipush T dX8_order_63 (by omega) ?_
    refine cV_V T hK hP hS 0 rfl rfl rfl (c_X8_passesSign l K o N B SS TT FC 44 (by omega) (by rw [kFC]; exact hF2) (by omega) (by omega) tFC) iX8_passesSign mw_4_217 ⟨Nat.le_of_ble_eq_true rfl, Nat.le_of_ble_eq_true rfl⟩ hP (fun _ h => h) rfl hl.1 rfl (Nat.le_of_ble_eq_true rfl) ⟨Nat.zero_le _, Nat.zero_le _⟩ dX8_order_65 (fun FD H1 locs hFD hP1 hg1 hg2 hS => ?_)
    have hP : xP K (mW K o N B SS TT FD) H1 := hP1
    generalize H1 = H at hP hS ⊢
    clear hg1 hg2 hP1
    have gFD := psF_f TT FC 44
    rw [← hFD] at gFD
    have kFD : FD 2 = F 2 := by rw [gFD.1 2 (by omega) (by omega), kFC]
    have tFD : TxT TT (FD 2) := by rw [kFD]; exact hT
    refine lv_aload_n T.1 T.2.1 dX8_order_68 rfl (lv_at hl 5 rfl) ?_
    refine cI_V T hK hP hS 0 rfl rfl rfl (c_X8_number l K o N B SS TT FD (by rw [kFD]; exact hF2) (by omega) (by omega) tFD) iX8_number mw_4_213 ⟨Nat.le_of_ble_eq_true rfl, Nat.le_of_ble_eq_true rfl⟩ hP (fun _ h => h) rfl hl.1 rfl (Nat.le_of_ble_eq_true rfl) ⟨Nat.zero_le _, Nat.zero_le _⟩ dX8_order_69 (fun cv FE H1 locs qE hP1 hg1 hg2 hS => ?_)
    have hP : xP K (mW K o N B SS TT FE) H1 := hP1
    generalize H1 = H at hP hS ⊢
    clear hg1 hg2 hP1
    obtain ⟨hvFE, hFE⟩ := qE
    have gFE := numP_f TT FD
    rw [← hFE, ← hvFE] at gFE
    have kFE : FE 2 = F 2 := by rw [gFE.1 2 (by omega) (by omega), kFD]
    have tFE : TxT TT (FE 2) := by rw [kFE]; exact hT
    refine lv_istore (lv' := [(4, .int (iI cv)), (3, .int (iI bv)), (5, .int (iI 0)), (2, .int (iI av)), (1, .int (iI (letF TT F))), (0, .ref o)]) T.1 T.2.1 dX8_order_72 hl (by decide) rfl (fun ls hl => ?_)
    exact jn74 bv cv FE _ _ ls (by unfold ordX ordB; rw [if_pos (by omega), ← hA0, hFE, hvFE, hFD, hFC, hvFC, hFB]) hP hS (lv_sub hl [5, 4, 3, 1, 0, 2] rfl)
  · skip
    refine lv_iload_n T.1 T.2.1 dX8_order_39 rfl (lv_at hl 4 rfl) ?_
    refine xv_bipush T dX8_order_40 (by omega) ?_
    refine xv_icmp_eq T (by omega) (tgt := 51) dX8_order_42 (by decide) (fun c11 => ?_) (fun c11 => ?_)
    · skip
      refine lv_aload_n T.1 T.2.1 dX8_order_51 rfl (lv_at hl 5 rfl) ?_
      refine xv_bipush T dX8_order_52 (by omega) ?_
      refine cV_V T hK hP hS 0 rfl rfl rfl (c_X8_passesSign l K o N B SS TT FA 44 (by omega) (by rw [kFA]; exact hF2) (by omega) (by omega) tFA) iX8_passesSign mw_4_217 ⟨Nat.le_of_ble_eq_true rfl, Nat.le_of_ble_eq_true rfl⟩ hP (fun _ h => h) rfl hl.1 rfl (Nat.le_of_ble_eq_true rfl) ⟨Nat.zero_le _, Nat.zero_le _⟩ dX8_order_54 (fun FB H1 locs hFB hP1 hg1 hg2 hS => ?_)
      have hP : xP K (mW K o N B SS TT FB) H1 := hP1
      generalize H1 = H at hP hS ⊢
      clear hg1 hg2 hP1
      have gFB := psF_f TT FA 44
      rw [← hFB] at gFB
      have kFB : FB 2 = F 2 := by rw [gFB.1 2 (by omega) (by omega), kFA]
      have tFB : TxT TT (FB 2) := by rw [kFB]; exact hT
      refine lv_aload_n T.1 T.2.1 dX8_order_57 rfl (lv_at hl 5 rfl) ?_
      refine cI_V T hK hP hS 0 rfl rfl rfl (c_X8_number l K o N B SS TT FB (by rw [kFB]; exact hF2) (by omega) (by omega) tFB) iX8_number mw_4_213 ⟨Nat.le_of_ble_eq_true rfl, Nat.le_of_ble_eq_true rfl⟩ hP (fun _ h => h) rfl hl.1 rfl (Nat.le_of_ble_eq_true rfl) ⟨Nat.zero_le _, Nat.zero_le _⟩ dX8_order_58 (fun bv FC H1 locs qC hP1 hg1 hg2 hS => ?_)
      have hP : xP K (mW K o N B SS TT FC) H1 := hP1
      generalize H1 = H at hP hS ⊢
      clear hg1 hg2 hP1
      obtain ⟨hvFC, hFC⟩ := qC
      have gFC := numP_f TT FB
      rw [← hFC, ← hvFC] at gFC
      have kFC : FC 2 = F 2 := by rw [gFC.1 2 (by omega) (by omega), kFB]
      have tFC : TxT TT (FC 2) := by rw [kFC]; exact hT
      refine lv_istore_n (lv' := [(3, .int (iI bv)), (5, .int (iI 0)), (4, .int (iI 0)), (2, .int (iI av)), (1, .int (iI (letF TT F))), (0, .ref o)]) T.1 T.2.1 dX8_order_61 rfl hl (by decide) rfl (fun ls hl => ?_)
      refine lv_aload_n T.1 T.2.1 dX8_order_62 rfl (lv_at hl 5 rfl) ?_
      refine xv_bipush T dX8_order_63 (by omega) ?_
      refine cV_V T hK hP hS 0 rfl rfl rfl (c_X8_passesSign l K o N B SS TT FC 44 (by omega) (by rw [kFC]; exact hF2) (by omega) (by omega) tFC) iX8_passesSign mw_4_217 ⟨Nat.le_of_ble_eq_true rfl, Nat.le_of_ble_eq_true rfl⟩ hP (fun _ h => h) rfl hl.1 rfl (Nat.le_of_ble_eq_true rfl) ⟨Nat.zero_le _, Nat.zero_le _⟩ dX8_order_65 (fun FD H1 locs hFD hP1 hg1 hg2 hS => ?_)
      have hP : xP K (mW K o N B SS TT FD) H1 := hP1
      generalize H1 = H at hP hS ⊢
      clear hg1 hg2 hP1
      have gFD := psF_f TT FC 44
      rw [← hFD] at gFD
      have kFD : FD 2 = F 2 := by rw [gFD.1 2 (by omega) (by omega), kFC]
      have tFD : TxT TT (FD 2) := by rw [kFD]; exact hT
      refine lv_aload_n T.1 T.2.1 dX8_order_68 rfl (lv_at hl 5 rfl) ?_
      refine cI_V T hK hP hS 0 rfl rfl rfl (c_X8_number l K o N B SS TT FD (by rw [kFD]; exact hF2) (by omega) (by omega) tFD) iX8_number mw_4_213 ⟨Nat.le_of_ble_eq_true rfl, Nat.le_of_ble_eq_true rfl⟩ hP (fun _ h => h) rfl hl.1 rfl (Nat.le_of_ble_eq_true rfl) ⟨Nat.zero_le _, Nat.zero_le _⟩ dX8_order_69 (fun cv FE H1 locs qE hP1 hg1 hg2 hS => ?_)
      have hP : xP K (mW K o N B SS TT FE) H1 := hP1
      generalize H1 = H at hP hS ⊢
      clear hg1 hg2 hP1
      obtain ⟨hvFE, hFE⟩ := qE
      have gFE := numP_f TT FD
      rw [← hFE, ← hvFE] at gFE
      have kFE : FE 2 = F 2 := by rw [gFE.1 2 (by omega) (by omega), kFD]
      have tFE : TxT TT (FE 2) := by rw [kFE]; exact hT
      refine lv_istore (lv' := [(4, .int (iI cv)), (3, .int (iI bv)), (5, .int (iI 0)), (2, .int (iI av)), (1, .int (iI (letF TT F))), (0, .ref o)]) T.1 T.2.1 dX8_order_72 hl (by decide) rfl (fun ls hl => ?_)
      exact jn74 bv cv FE _ _ ls (by unfold ordX ordB; rw [if_pos (by omega), ← hA0, hFE, hvFE, hFD, hFC, hvFC, hFB]) hP hS (lv_sub hl [5, 4, 3, 1, 0, 2] rfl)
    · skip
      refine lv_iload_n T.1 T.2.1 dX8_order_45 rfl (lv_at hl 4 rfl) ?_
      refine xv_bipush T dX8_order_46 (by omega) ?_
      refine xv_icmp_ne T (by omega) (tgt := 74) dX8_order_48 (by decide) (fun c14 => ?_) (fun c14 => ?_)
      · skip
        exact jn74 0 0 FA _ _ ls (by unfold ordX ordB; rw [if_neg (by omega), ← hA0]) hP hS (lv_sub hl [5, 4, 3, 2, 1, 0] rfl)
      · skip
        refine lv_aload_n T.1 T.2.1 dX8_order_51 rfl (lv_at hl 5 rfl) ?_
        refine xv_bipush T dX8_order_52 (by omega) ?_
        refine cV_V T hK hP hS 0 rfl rfl rfl (c_X8_passesSign l K o N B SS TT FA 44 (by omega) (by rw [kFA]; exact hF2) (by omega) (by omega) tFA) iX8_passesSign mw_4_217 ⟨Nat.le_of_ble_eq_true rfl, Nat.le_of_ble_eq_true rfl⟩ hP (fun _ h => h) rfl hl.1 rfl (Nat.le_of_ble_eq_true rfl) ⟨Nat.zero_le _, Nat.zero_le _⟩ dX8_order_54 (fun FB H1 locs hFB hP1 hg1 hg2 hS => ?_)
        have hP : xP K (mW K o N B SS TT FB) H1 := hP1
        generalize H1 = H at hP hS ⊢
        clear hg1 hg2 hP1
        have gFB := psF_f TT FA 44
        rw [← hFB] at gFB
        have kFB : FB 2 = F 2 := by rw [gFB.1 2 (by omega) (by omega), kFA]
        have tFB : TxT TT (FB 2) := by rw [kFB]; exact hT
        refine lv_aload_n T.1 T.2.1 dX8_order_57 rfl (lv_at hl 5 rfl) ?_
        refine cI_V T hK hP hS 0 rfl rfl rfl (c_X8_number l K o N B SS TT FB (by rw [kFB]; exact hF2) (by omega) (by omega) tFB) iX8_number mw_4_213 ⟨Nat.le_of_ble_eq_true rfl, Nat.le_of_ble_eq_true rfl⟩ hP (fun _ h => h) rfl hl.1 rfl (Nat.le_of_ble_eq_true rfl) ⟨Nat.zero_le _, Nat.zero_le _⟩ dX8_order_58 (fun bv FC H1 locs qC hP1 hg1 hg2 hS => ?_)
        have hP : xP K (mW K o N B SS TT FC) H1 := hP1
        generalize H1 = H at hP hS ⊢
        clear hg1 hg2 hP1
        obtain ⟨hvFC, hFC⟩ := qC
        have gFC := numP_f TT FB
        rw [← hFC, ← hvFC] at gFC
        have kFC : FC 2 = F 2 := by rw [gFC.1 2 (by omega) (by omega), kFB]
        have tFC : TxT TT (FC 2) := by rw [kFC]; exact hT
        refine lv_istore_n (lv' := [(3, .int (iI bv)), (5, .int (iI 0)), (4, .int (iI 0)), (2, .int (iI av)), (1, .int (iI (letF TT F))), (0, .ref o)]) T.1 T.2.1 dX8_order_61 rfl hl (by decide) rfl (fun ls hl => ?_)
        refine lv_aload_n T.1 T.2.1 dX8_order_62 rfl (lv_at hl 5 rfl) ?_
        refine xv_bipush T dX8_order_63 (by omega) ?_
        refine cV_V T hK hP hS 0 rfl rfl rfl (c_X8_passesSign l K o N B SS TT FC 44 (by omega) (by rw [kFC]; exact hF2) (by omega) (by omega) tFC) iX8_passesSign mw_4_217 ⟨Nat.le_of_ble_eq_true rfl, Nat.le_of_ble_eq_true rfl⟩ hP (fun _ h => h) rfl hl.1 rfl (Nat.le_of_ble_eq_true rfl) ⟨Nat.zero_le _, Nat.zero_le _⟩ dX8_order_65 (fun FD H1 locs hFD hP1 hg1 hg2 hS => ?_)
        have hP : xP K (mW K o N B SS TT FD) H1 := hP1
        generalize H1 = H at hP hS ⊢
        clear hg1 hg2 hP1
        have gFD := psF_f TT FC 44
        rw [← hFD] at gFD
        have kFD : FD 2 = F 2 := by rw [gFD.1 2 (by omega) (by omega), kFC]
        have tFD : TxT TT (FD 2) := by rw [kFD]; exact hT
        refine lv_aload_n T.1 T.2.1 dX8_order_68 rfl (lv_at hl 5 rfl) ?_
        refine cI_V T hK hP hS 0 rfl rfl rfl (c_X8_number l K o N B SS TT FD (by rw [kFD]; exact hF2) (by omega) (by omega) tFD) iX8_number mw_4_213 ⟨Nat.le_of_ble_eq_true rfl, Nat.le_of_ble_eq_true rfl⟩ hP (fun _ h => h) rfl hl.1 rfl (Nat.le_of_ble_eq_true rfl) ⟨Nat.zero_le _, Nat.zero_le _⟩ dX8_order_69 (fun cv FE H1 locs qE hP1 hg1 hg2 hS => ?_)
        have hP : xP K (mW K o N B SS TT FE) H1 := hP1
        generalize H1 = H at hP hS ⊢
        clear hg1 hg2 hP1
        obtain ⟨hvFE, hFE⟩ := qE
        have gFE := numP_f TT FD
        rw [← hFE, ← hvFE] at gFE
        have kFE : FE 2 = F 2 := by rw [gFE.1 2 (by omega) (by omega), kFD]
        have tFE : TxT TT (FE 2) := by rw [kFE]; exact hT
        refine lv_istore (lv' := [(4, .int (iI cv)), (3, .int (iI bv)), (5, .int (iI 0)), (2, .int (iI av)), (1, .int (iI (letF TT F))), (0, .ref o)]) T.1 T.2.1 dX8_order_72 hl (by decide) rfl (fun ls hl => ?_)
        exact jn74 bv cv FE _ _ ls (by unfold ordX ordB; rw [if_pos (by omega), ← hA0, hFE, hvFE, hFD, hFC, hvFC, hFB]) hP hS (lv_sub hl [5, 4, 3, 1, 0, 2] rfl)
