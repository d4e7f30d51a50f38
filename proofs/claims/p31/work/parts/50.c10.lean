set_option maxHeartbeats 4000000 in
set_option maxRecDepth 100000 in
theorem c_X3_doOrder (l : Launch) (K : KT) (o : Nat) (N M : Int → Int) (R : Nat → Int → Int) (G L NU TT : Int → Int) (hIM : Inv M) (hNU : nuIn NU) (hok : okL (L 6)) : CtI l yX3_doOrder cX3_doOrder 2 .int 5 121 K [.ref (o + 150), .ref (o + 22)] (xW K o N M R G L NU TT) (Blk o 153) (fun (z : Int) (u : Int → Int) => (z, u) = doP M NU (L 6)) (fun u => xW K o N u R G L NU TT) := by
  refine CtI_of (by decide) (Nat.le_of_ble_eq_true rfl) ?_
  intro p e s m args below meth c T hr hk hP hK ls hl
  have T : CF p m c cX3_doOrder 2 s args RX3 := T
  have hS : va_S (Blk o 153) s.heap s.heap [] := va_S.rf
  have hl : lv_has ls 2 [(0, .ref (o + 150)), (1, .ref (o + 22))] := hl
  have n0 := hNU 0 (by omega) (by omega)
  have n1 := hNU 1 (by omega) (by omega)
  have n2 := hNU 2 (by omega) (by omega)
  have n3 := hNU 3 (by omega) (by omega)
  have hok2 := hok
  unfold okL at hok2
  refine lv_aload_n T.1 T.2.1 dX3_doOrder_0 rfl (lv_at hl 0 rfl) ?_
  refine g3_kind T hK hP 3 rfl (v := .int (iI (L 6))) rfl mw_1_214 dX3_doOrder_1 ?_
  by_cases c1_0 : (L 6) = 98
  · skip
    refine xv_lookup T (off := 117) (tgt := 121) (by omega) dX3_doOrder_4 (by decide) (by rw [Op.lookupswitch.offset_cons, if_pos (by omega)]) (by decide) ?_
    refine lv_aload_n T.1 T.2.1 dX3_doOrder_121 rfl (lv_at hl 1 rfl) ?_
    refine lv_aload_n T.1 T.2.1 dX3_doOrder_122 rfl (lv_at hl 0 rfl) ?_
    refine g3_numbers T hK hP 3 rfl rfl mw_1_215 dX3_doOrder_123 ?_
    refine xv_iconst T dX3_doOrder_126 ?_
    refine xa_iald T hK hP 4 rfl rfl 0 (by omega) (by omega) (by decide) dX3_doOrder_127 ?_
    refine lv_aload_n T.1 T.2.1 dX3_doOrder_128 rfl (lv_at hl 0 rfl) ?_
    refine g3_numbers T hK hP 3 rfl rfl mw_1_215 dX3_doOrder_129 ?_
    refine xv_iconst T dX3_doOrder_132 ?_
    refine xa_iald T hK hP 4 rfl rfl 1 (by omega) (by omega) (by decide) dX3_doOrder_133 ?_
    refine lv_aload_n T.1 T.2.1 dX3_doOrder_134 rfl (lv_at hl 0 rfl) ?_
    refine g3_numbers T hK hP 3 rfl rfl mw_1_215 dX3_doOrder_135 ?_
    refine xv_iconst T dX3_doOrder_138 ?_
    refine xa_iald T hK hP 4 rfl rfl 2 (by omega) (by omega) (by decide) dX3_doOrder_139 ?_
    refine lv_aload_n T.1 T.2.1 dX3_doOrder_140 rfl (lv_at hl 0 rfl) ?_
    refine g3_numbers T hK hP 3 rfl rfl mw_1_215 dX3_doOrder_141 ?_
    refine xv_iconst T dX3_doOrder_144 ?_
    refine xa_iald T hK hP 4 rfl rfl 3 (by omega) (by omega) (by decide) dX3_doOrder_145 ?_
    refine cI_V T hK hP hS 27 rfl rfl rfl (c_X6_breakUnits l K (o + 22) M (NU 0) (NU 1) (NU 2) (NU 3) (by omega) (by omega) (by omega) (by omega) hIM) iX6_breakUnits mw_3_126 ⟨Nat.le_of_ble_eq_true rfl, Nat.le_of_ble_eq_true rfl⟩ (xW_4 hP) (fun _ a => blk_in (by omega) a) rfl hl.1 rfl (Nat.le_of_ble_eq_true rfl) ⟨Nat.zero_le _, Nat.zero_le _⟩ dX3_doOrder_146 (fun zo uo H1 locs qo hP1 hg1 hg2 hS => ?_)
    have hP : xP K (xW K o N uo R G L NU TT) H1 := xW_mk (xP_out (xW_0 hP) (top_D _) (fun _ a b => blk_x (by omega) a b) hg2) (xP_out (xW_1 hP) (hist_D _ _ _) (fun _ a b => blk_x (by omega) a b) hg2) (xP_out (xW_2 hP) (log_D _ _ _ _ _) (fun _ a b => blk_x (by omega) a b) hg2) (xP_out (xW_3 hP) (ship_D _ _ _) (fun _ a b => blk_x (by omega) a b) hg2) (hP1) (xP_out (xW_5 hP) (ring_D _ _ _) (fun _ a b => blk_x (by omega) a b) hg2)
    generalize H1 = H at hP hS ⊢
    clear hg1 hg2 hP1
    exact rI T (u := uo) hr hk hK hP hS dX3_doOrder_149 (by unfold doP; rw [if_neg (by omega), if_neg (by omega), if_neg (by omega), if_pos (by omega)]; exact qo)
  by_cases c1_1 : (L 6) = 99
  · skip
    refine xv_lookup T (off := 157) (tgt := 161) (by omega) dX3_doOrder_4 (by decide) ((xv_osw (by omega)).trans (by rw [Op.lookupswitch.offset_cons, if_pos (by omega)])) (by decide) ?_
    refine lv_aload_n T.1 T.2.1 dX3_doOrder_161 rfl (lv_at hl 1 rfl) ?_
    refine lv_aload_n T.1 T.2.1 dX3_doOrder_162 rfl (lv_at hl 0 rfl) ?_
    refine g3_numbers T hK hP 3 rfl rfl mw_1_215 dX3_doOrder_163 ?_
    refine xv_iconst T dX3_doOrder_166 ?_
    refine xa_iald T hK hP 4 rfl rfl 0 (by omega) (by omega) (by decide) dX3_doOrder_167 ?_
    refine cI_V T hK hP hS 27 rfl rfl rfl (c_X6_countLocker l K (o + 22) M (NU 0) (by omega) hIM) iX6_countLocker mw_3_128 ⟨Nat.le_of_ble_eq_true rfl, Nat.le_of_ble_eq_true rfl⟩ (xW_4 hP) (fun _ a => blk_in (by omega) a) rfl hl.1 rfl (Nat.le_of_ble_eq_true rfl) ⟨Nat.zero_le _, Nat.zero_le _⟩ dX3_doOrder_168 (fun zo uo H1 locs qo hP1 hg1 hg2 hS => ?_)
    have hP : xP K (xW K o N uo R G L NU TT) H1 := xW_mk (xP_out (xW_0 hP) (top_D _) (fun _ a b => blk_x (by omega) a b) hg2) (xP_out (xW_1 hP) (hist_D _ _ _) (fun _ a b => blk_x (by omega) a b) hg2) (xP_out (xW_2 hP) (log_D _ _ _ _ _) (fun _ a b => blk_x (by omega) a b) hg2) (xP_out (xW_3 hP) (ship_D _ _ _) (fun _ a b => blk_x (by omega) a b) hg2) (hP1) (xP_out (xW_5 hP) (ring_D _ _ _) (fun _ a b => blk_x (by omega) a b) hg2)
    generalize H1 = H at hP hS ⊢
    clear hg1 hg2 hP1
    exact rI T (u := uo) hr hk hK hP hS dX3_doOrder_171 (by unfold doP; rw [if_neg (by omega), if_neg (by omega), if_neg (by omega), if_neg (by omega), if_neg (by omega), if_pos (by omega)]; exact qo)
  by_cases c1_2 : (L 6) = 114
  · skip
    refine xv_lookup T (off := 94) (tgt := 98) (by omega) dX3_doOrder_4 (by decide) ((xv_osw (by omega)).trans ((xv_osw (by omega)).trans (by rw [Op.lookupswitch.offset_cons, if_pos (by omega)]))) (by decide) ?_
    refine lv_aload_n T.1 T.2.1 dX3_doOrder_98 rfl (lv_at hl 1 rfl) ?_
    refine lv_aload_n T.1 T.2.1 dX3_doOrder_99 rfl (lv_at hl 0 rfl) ?_
    refine g3_numbers T hK hP 3 rfl rfl mw_1_215 dX3_doOrder_100 ?_
    refine xv_iconst T dX3_doOrder_103 ?_
    refine xa_iald T hK hP 4 rfl rfl 0 (by omega) (by omega) (by decide) dX3_doOrder_104 ?_
    refine lv_aload_n T.1 T.2.1 dX3_doOrder_105 rfl (lv_at hl 0 rfl) ?_
    refine g3_numbers T hK hP 3 rfl rfl mw_1_215 dX3_doOrder_106 ?_
    refine xv_iconst T dX3_doOrder_109 ?_
    refine xa_iald T hK hP 4 rfl rfl 1 (by omega) (by omega) (by decide) dX3_doOrder_110 ?_
    refine lv_aload_n T.1 T.2.1 dX3_doOrder_111 rfl (lv_at hl 0 rfl) ?_
    refine g3_numbers T hK hP 3 rfl rfl mw_1_215 dX3_doOrder_112 ?_
    refine xv_iconst T dX3_doOrder_115 ?_
    refine xa_iald T hK hP 4 rfl rfl 2 (by omega) (by omega) (by decide) dX3_doOrder_116 ?_
    refine cI_V T hK hP hS 27 rfl rfl rfl (c_X6_returnUnits l K (o + 22) M (NU 0) (NU 1) (NU 2) (by omega) (by omega) (by omega) hIM) iX6_returnUnits mw_3_125 ⟨Nat.le_of_ble_eq_true rfl, Nat.le_of_ble_eq_true rfl⟩ (xW_4 hP) (fun _ a => blk_in (by omega) a) rfl hl.1 rfl (Nat.le_of_ble_eq_true rfl) ⟨Nat.zero_le _, Nat.zero_le _⟩ dX3_doOrder_117 (fun zo uo H1 locs qo hP1 hg1 hg2 hS => ?_)
    have hP : xP K (xW K o N uo R G L NU TT) H1 := xW_mk (xP_out (xW_0 hP) (top_D _) (fun _ a b => blk_x (by omega) a b) hg2) (xP_out (xW_1 hP) (hist_D _ _ _) (fun _ a b => blk_x (by omega) a b) hg2) (xP_out (xW_2 hP) (log_D _ _ _ _ _) (fun _ a b => blk_x (by omega) a b) hg2) (xP_out (xW_3 hP) (ship_D _ _ _) (fun _ a b => blk_x (by omega) a b) hg2) (hP1) (xP_out (xW_5 hP) (ring_D _ _ _) (fun _ a b => blk_x (by omega) a b) hg2)
    generalize H1 = H at hP hS ⊢
    clear hg1 hg2 hP1
    exact rI T (u := uo) hr hk hK hP hS dX3_doOrder_120 (by unfold doP; rw [if_neg (by omega), if_neg (by omega), if_pos (by omega)]; exact qo)
  by_cases c1_3 : (L 6) = 116
  · skip
    refine xv_lookup T (off := 146) (tgt := 150) (by omega) dX3_doOrder_4 (by decide) ((xv_osw (by omega)).trans ((xv_osw (by omega)).trans ((xv_osw (by omega)).trans (by rw [Op.lookupswitch.offset_cons, if_pos (by omega)])))) (by decide) ?_
    refine lv_aload_n T.1 T.2.1 dX3_doOrder_150 rfl (lv_at hl 1 rfl) ?_
    refine lv_aload_n T.1 T.2.1 dX3_doOrder_151 rfl (lv_at hl 0 rfl) ?_
    refine g3_numbers T hK hP 3 rfl rfl mw_1_215 dX3_doOrder_152 ?_
    refine xv_iconst T dX3_doOrder_155 ?_
    refine xa_iald T hK hP 4 rfl rfl 0 (by omega) (by omega) (by decide) dX3_doOrder_156 ?_
    refine cI_V T hK hP hS 27 rfl rfl rfl (c_X6_tearSeal l K (o + 22) M (NU 0) (by omega) hIM) iX6_tearSeal mw_3_127 ⟨Nat.le_of_ble_eq_true rfl, Nat.le_of_ble_eq_true rfl⟩ (xW_4 hP) (fun _ a => blk_in (by omega) a) rfl hl.1 rfl (Nat.le_of_ble_eq_true rfl) ⟨Nat.zero_le _, Nat.zero_le _⟩ dX3_doOrder_157 (fun zo uo H1 locs qo hP1 hg1 hg2 hS => ?_)
    have hP : xP K (xW K o N uo R G L NU TT) H1 := xW_mk (xP_out (xW_0 hP) (top_D _) (fun _ a b => blk_x (by omega) a b) hg2) (xP_out (xW_1 hP) (hist_D _ _ _) (fun _ a b => blk_x (by omega) a b) hg2) (xP_out (xW_2 hP) (log_D _ _ _ _ _) (fun _ a b => blk_x (by omega) a b) hg2) (xP_out (xW_3 hP) (ship_D _ _ _) (fun _ a b => blk_x (by omega) a b) hg2) (hP1) (xP_out (xW_5 hP) (ring_D _ _ _) (fun _ a b => blk_x (by omega) a b) hg2)
    generalize H1 = H at hP hS ⊢
    clear hg1 hg2 hP1
    exact rI T (u := uo) hr hk hK hP hS dX3_doOrder_160 (by unfold doP; rw [if_neg (by omega), if_neg (by omega), if_neg (by omega), if_neg (by omega), if_pos (by omega)]; exact qo)
  by_cases c1_4 : (L 6) = 117
  · skip
    refine xv_lookup T (off := 71) (tgt := 75) (by omega) dX3_doOrder_4 (by decide) ((xv_osw (by omega)).trans ((xv_osw (by omega)).trans ((xv_osw (by omega)).trans ((xv_osw (by omega)).trans (by rw [Op.lookupswitch.offset_cons, if_pos (by omega)]))))) (by decide) ?_
    refine lv_aload_n T.1 T.2.1 dX3_doOrder_75 rfl (lv_at hl 1 rfl) ?_
    refine lv_aload_n T.1 T.2.1 dX3_doOrder_76 rfl (lv_at hl 0 rfl) ?_
    refine g3_numbers T hK hP 3 rfl rfl mw_1_215 dX3_doOrder_77 ?_
    refine xv_iconst T dX3_doOrder_80 ?_
    refine xa_iald T hK hP 4 rfl rfl 0 (by omega) (by omega) (by decide) dX3_doOrder_81 ?_
    refine lv_aload_n T.1 T.2.1 dX3_doOrder_82 rfl (lv_at hl 0 rfl) ?_
    refine g3_numbers T hK hP 3 rfl rfl mw_1_215 dX3_doOrder_83 ?_
    refine xv_iconst T dX3_doOrder_86 ?_
    refine xa_iald T hK hP 4 rfl rfl 1 (by omega) (by omega) (by decide) dX3_doOrder_87 ?_
    refine lv_aload_n T.1 T.2.1 dX3_doOrder_88 rfl (lv_at hl 0 rfl) ?_
    refine g3_numbers T hK hP 3 rfl rfl mw_1_215 dX3_doOrder_89 ?_
    refine xv_iconst T dX3_doOrder_92 ?_
    refine xa_iald T hK hP 4 rfl rfl 2 (by omega) (by omega) (by decide) dX3_doOrder_93 ?_
    refine cI_V T hK hP hS 27 rfl rfl rfl (c_X6_useUnits l K (o + 22) M (NU 0) (NU 1) (NU 2) (by omega) (by omega) (by omega) hIM) iX6_useUnits mw_3_124 ⟨Nat.le_of_ble_eq_true rfl, Nat.le_of_ble_eq_true rfl⟩ (xW_4 hP) (fun _ a => blk_in (by omega) a) rfl hl.1 rfl (Nat.le_of_ble_eq_true rfl) ⟨Nat.zero_le _, Nat.zero_le _⟩ dX3_doOrder_94 (fun zo uo H1 locs qo hP1 hg1 hg2 hS => ?_)
    have hP : xP K (xW K o N uo R G L NU TT) H1 := xW_mk (xP_out (xW_0 hP) (top_D _) (fun _ a b => blk_x (by omega) a b) hg2) (xP_out (xW_1 hP) (hist_D _ _ _) (fun _ a b => blk_x (by omega) a b) hg2) (xP_out (xW_2 hP) (log_D _ _ _ _ _) (fun _ a b => blk_x (by omega) a b) hg2) (xP_out (xW_3 hP) (ship_D _ _ _) (fun _ a b => blk_x (by omega) a b) hg2) (hP1) (xP_out (xW_5 hP) (ring_D _ _ _) (fun _ a b => blk_x (by omega) a b) hg2)
    generalize H1 = H at hP hS ⊢
    clear hg1 hg2 hP1
    exact rI T (u := uo) hr hk hK hP hS dX3_doOrder_97 (by unfold doP; rw [if_neg (by omega), if_pos (by omega)]; exact qo)
  by_cases c1_5 : (L 6) = 122
  · skip
    refine xv_lookup T (off := 60) (tgt := 64) (by omega) dX3_doOrder_4 (by decide) ((xv_osw (by omega)).trans ((xv_osw (by omega)).trans ((xv_osw (by omega)).trans ((xv_osw (by omega)).trans ((xv_osw (by omega)).trans (by rw [Op.lookupswitch.offset_cons, if_pos (by omega)])))))) (by decide) ?_
    refine lv_aload_n T.1 T.2.1 dX3_doOrder_64 rfl (lv_at hl 1 rfl) ?_
    refine lv_aload_n T.1 T.2.1 dX3_doOrder_65 rfl (lv_at hl 0 rfl) ?_
    refine g3_numbers T hK hP 3 rfl rfl mw_1_215 dX3_doOrder_66 ?_
    refine xv_iconst T dX3_doOrder_69 ?_
    refine xa_iald T hK hP 4 rfl rfl 0 (by omega) (by omega) (by decide) dX3_doOrder_70 ?_
    refine cI_V T hK hP hS 27 rfl rfl rfl (c_X6_crossTo l K (o + 22) M (NU 0) (by omega) hIM) iX6_crossTo mw_3_123 ⟨Nat.le_of_ble_eq_true rfl, Nat.le_of_ble_eq_true rfl⟩ (xW_4 hP) (fun _ a => blk_in (by omega) a) rfl hl.1 rfl (Nat.le_of_ble_eq_true rfl) ⟨Nat.zero_le _, Nat.zero_le _⟩ dX3_doOrder_71 (fun zo uo H1 locs qo hP1 hg1 hg2 hS => ?_)
    have hP : xP K (xW K o N uo R G L NU TT) H1 := xW_mk (xP_out (xW_0 hP) (top_D _) (fun _ a b => blk_x (by omega) a b) hg2) (xP_out (xW_1 hP) (hist_D _ _ _) (fun _ a b => blk_x (by omega) a b) hg2) (xP_out (xW_2 hP) (log_D _ _ _ _ _) (fun _ a b => blk_x (by omega) a b) hg2) (xP_out (xW_3 hP) (ship_D _ _ _) (fun _ a b => blk_x (by omega) a b) hg2) (hP1) (xP_out (xW_5 hP) (ring_D _ _ _) (fun _ a b => blk_x (by omega) a b) hg2)
    generalize H1 = H at hP hS ⊢
    clear hg1 hg2 hP1
    exact rI T (u := uo) hr hk hK hP hS dX3_doOrder_74 (by unfold doP; rw [if_pos (by omega)]; exact qo)
  refine xv_lookup T (off := 168) (tgt := 172) (by omega) dX3_doOrder_4 (by decide) ((xv_osw (by omega)).trans ((xv_osw (by omega)).trans ((xv_osw (by omega)).trans ((xv_osw (by omega)).trans ((xv_osw (by omega)).trans ((xv_osw (by omega)).trans (rfl))))))) (by decide) ?_
  refine lv_aload_n T.1 T.2.1 dX3_doOrder_172 rfl (lv_at hl 1 rfl) ?_
  refine lv_aload_n T.1 T.2.1 dX3_doOrder_173 rfl (lv_at hl 0 rfl) ?_
  refine g3_numbers T hK hP 3 rfl rfl mw_1_215 dX3_doOrder_174 ?_
  refine xv_iconst T dX3_doOrder_177 ?_
  refine xa_iald T hK hP 4 rfl rfl 0 (by omega) (by omega) (by decide) dX3_doOrder_178 ?_
  refine cI_V T hK hP hS 27 rfl rfl rfl (c_X6_passDays l K (o + 22) M (NU 0) (by omega) hIM) iX6_passDays mw_3_129 ⟨Nat.le_of_ble_eq_true rfl, Nat.le_of_ble_eq_true rfl⟩ (xW_4 hP) (fun _ a => blk_in (by omega) a) rfl hl.1 rfl (Nat.le_of_ble_eq_true rfl) ⟨Nat.zero_le _, Nat.zero_le _⟩ dX3_doOrder_179 (fun zo uo H1 locs qo hP1 hg1 hg2 hS => ?_)
  have hP : xP K (xW K o N uo R G L NU TT) H1 := xW_mk (xP_out (xW_0 hP) (top_D _) (fun _ a b => blk_x (by omega) a b) hg2) (xP_out (xW_1 hP) (hist_D _ _ _) (fun _ a b => blk_x (by omega) a b) hg2) (xP_out (xW_2 hP) (log_D _ _ _ _ _) (fun _ a b => blk_x (by omega) a b) hg2) (xP_out (xW_3 hP) (ship_D _ _ _) (fun _ a b => blk_x (by omega) a b) hg2) (hP1) (xP_out (xW_5 hP) (ring_D _ _ _) (fun _ a b => blk_x (by omega) a b) hg2)
  generalize H1 = H at hP hS ⊢
  clear hg1 hg2 hP1
  exact rI T (u := uo) hr hk hK hP hS dX3_doOrder_182 (by unfold doP; rw [if_neg (by omega), if_neg (by omega), if_neg (by omega), if_neg (by omega), if_neg (by omega), if_neg (by omega)]; exact qo)
set_option maxHeartbeats 4000000 in
set_option maxRecDepth 100000 in
theorem c_X1_prepare (l : Launch) (K : KT) (o : Nat) (N M : Int → Int) (R : Nat → Int → Int) (G L NU TT : Int → Int) (hG : (0 ≤ G 0 ∧ G 0 ≤ 4) ∧ (0 ≤ G 1 ∧ G 1 ≤ 4)) : CtV l yX1_prepare cX1_prepare 2 3 82 K [.ref (o + 43), .ref (o + 1)] (xW K o N M R G L NU TT) (Blk o 153) (fun (u : Unit) => True) (fun u => xW K o N M (upR R (spF G).toNat N) G L NU TT) := by
  refine CtV_of (by decide) (Nat.le_of_ble_eq_true rfl) ?_
  intro p e s m args below meth c T hr hk hP hK ls hl
  have T : CF p m c cX1_prepare 2 s args RX1 := T
  have hS : va_S (Blk o 153) s.heap s.heap [] := va_S.rf
  have hl : lv_has ls 2 [(0, .ref (o + 43)), (1, .ref (o + 1))] := hl
  have hsp := spF_in hG.2
  refine lv_aload_n T.1 T.2.1 dX1_prepare_0 rfl (lv_at hl 0 rfl) ?_
  refine g1_states T hK hP 1 rfl rfl mw_1_190 dX1_prepare_1 ?_
  refine lv_aload_n T.1 T.2.1 dX1_prepare_4 rfl (lv_at hl 0 rfl) ?_
  refine cI_V T hK hP hS 1 rfl rfl rfl (c_X1_spare l K (o + 43) G (by omega)) iX1_spare mw_2_18 ⟨Nat.le_of_ble_eq_true rfl, Nat.le_of_ble_eq_true rfl⟩ (xW_1 hP) noA rfl hl.1 rfl (Nat.le_of_ble_eq_true rfl) ⟨Nat.zero_le _, Nat.zero_le _⟩ dX1_prepare_5 (fun z1 _ H1 locs q2 hP1 hg1 hg2 hS => ?_)
  have hP := xP_kept hP hg2
  generalize H1 = H at hP hS ⊢
  clear hg1 hg2 hP1
  obtain rfl : z1 = spF G := q2
  refine xa_aald T hK hP 2 (b := o + 43 + 2 + 21 * (spF G).toNat) rfl (by omega) (by decide) rfl dX1_prepare_8 ?_
  refine lv_aload_n T.1 T.2.1 dX1_prepare_9 rfl (lv_at hl 1 rfl) ?_
  refine cV_V T hK hP hS (48 + 21 * (spF G).toNat) (xW_at5 (by omega)) rfl rfl (c_X6_become l K (o + 43 + 2 + 21 * (spF G).toNat) (R (spF G).toNat) (o + 1) N (by omega)) iX6_become mw_2_22 ⟨Nat.le_of_ble_eq_true rfl, Nat.le_of_ble_eq_true rfl⟩ (xP_app (ring_get (xW_5 hP) _ (by omega)) (xW_3 hP)) (fun _ a => bk2_in (by omega) a) rfl hl.1 rfl (Nat.le_of_ble_eq_true rfl) ⟨Nat.zero_le _, Nat.zero_le _⟩ dX1_prepare_10 (fun N5 H1 locs q4 hP1 hg1 hg2 hS => ?_)
  have hP : xP K (xW K o N M (upR R (spF G).toNat N) G L NU TT) H1 := xW_mk (xP_out (xW_0 hP) (top_D _) (fun _ a b => bk2_x (by omega) a b) hg2) (xP_out (xW_1 hP) (hist_D _ _ _) (fun _ a b => bk2_x (by omega) a b) hg2) (xP_out (xW_2 hP) (log_D _ _ _ _ _) (fun _ a b => bk2_x (by omega) a b) hg2) (xP_r hP1) (xP_out (xW_4 hP) (ship_D _ _ _) (fun _ a b => bk2_x (by omega) a b) hg2) (ring_up (xW_5 hP) (by omega) (by omega) hg2 (xP_l hP1))
  generalize H1 = H at hP hS ⊢
  clear hg1 hg2 hP1
  exact rV T (u := ()) hr hk hK hP hS dX1_prepare_13 (trivial)
set_option maxHeartbeats 4000000 in
set_option maxRecDepth 100000 in
theorem c_X1_restore (l : Launch) (K : KT) (o : Nat) (N M : Int → Int) (R : Nat → Int → Int) (G L NU TT : Int → Int) (hG : (0 ≤ G 0 ∧ G 0 ≤ 4) ∧ (0 ≤ G 1 ∧ G 1 ≤ 4)) : CtI l yX1_restore cX1_restore 2 .int 3 82 K [.ref (o + 43), .ref (o + 1)] (xW K o N M R G L NU TT) (Blk o 153) (fun (z : Int) (u : (Int → Int) × (Int → Int)) => (z, u) = resP N R G) (fun u => xW K o u.1 M R u.2 L NU TT) := by
  refine CtI_of (by decide) (Nat.le_of_ble_eq_true rfl) ?_
  intro p e s m args below meth c T hr hk hP hK ls hl
  have T : CF p m c cX1_restore 2 s args RX1 := T
  have hS : va_S (Blk o 153) s.heap s.heap [] := va_S.rf
  have hl : lv_has ls 2 [(0, .ref (o + 43)), (1, .ref (o + 1))] := hl
  refine lv_aload_n T.1 T.2.1 dX1_restore_0 rfl (lv_at hl 0 rfl) ?_
  refine g1_number T hK hP 1 rfl (v := .int (iI (G 0))) rfl mw_1_187 dX1_restore_1 ?_
  refine xv_if_ne T (by omega) (tgt := 10) dX1_restore_4 (by decide) (fun c1 => ?_) (fun c1 => ?_)
  · skip
    refine lv_aload_n T.1 T.2.1 dX1_restore_10 rfl (lv_at hl 1 rfl) ?_
    refine lv_aload_n T.1 T.2.1 dX1_restore_11 rfl (lv_at hl 0 rfl) ?_
    refine g1_states T hK hP 1 rfl rfl mw_1_190 dX1_restore_12 ?_
    refine lv_aload_n T.1 T.2.1 dX1_restore_15 rfl (lv_at hl 0 rfl) ?_
    refine g1_latest T hK hP 1 rfl (v := .int (iI (G 1))) rfl mw_1_189 dX1_restore_16 ?_
    refine xa_aald T hK hP 2 (b := o + 43 + 2 + 21 * (G 1).toNat) rfl (by omega) (by decide) rfl dX1_restore_19 ?_
    refine cV_V T hK hP hS 6 rfl rfl rfl (c_X6_become l K (o + 1) N (o + 43 + 2 + 21 * (G 1).toNat) (R (G 1).toNat) (by omega)) iX6_become mw_2_22 ⟨Nat.le_of_ble_eq_true rfl, Nat.le_of_ble_eq_true rfl⟩ (xP_app (xW_3 hP) (ring_get (xW_5 hP) _ (by omega))) (fun _ a => bk2_in (by omega) a) rfl hl.1 rfl (Nat.le_of_ble_eq_true rfl) ⟨Nat.zero_le _, Nat.zero_le _⟩ dX1_restore_20 (fun N4 H1 locs q3 hP1 hg1 hg2 hS => ?_)
    have hP : xP K (xW K o (R (G 1).toNat) M R G L NU TT) H1 := xW_mk (xP_out (xW_0 hP) (top_D _) (fun _ a b => bk2_x (by omega) a b) hg2) (xP_out (xW_1 hP) (hist_D _ _ _) (fun _ a b => bk2_x (by omega) a b) hg2) (xP_out (xW_2 hP) (log_D _ _ _ _ _) (fun _ a b => bk2_x (by omega) a b) hg2) (xP_l hP1) (xP_out (xW_4 hP) (ship_D _ _ _) (fun _ a b => bk2_x (by omega) a b) hg2) (ring_keep (xW_5 hP) (by omega) (by omega) hg2 (xP_r hP1))
    generalize H1 = H at hP hS ⊢
    clear hg1 hg2 hP1
    refine lv_aload_n T.1 T.2.1 dX1_restore_23 rfl (lv_at hl 0 rfl) ?_
    refine lv_aload_n T.1 T.2.1 dX1_restore_24 rfl (lv_at hl 0 rfl) ?_
    refine g1_latest T hK hP 1 rfl (v := .int (iI (G 1))) rfl mw_1_189 dX1_restore_25 ?_
    refine xv_if_le T (by omega) (tgt := 40) dX1_restore_28 (by decide) (fun c5 => ?_) (fun c5 => ?_)
    · skip
      refine xv_iconst T dX1_restore_40 ?_
      refine p1_latest T hK hP (xW_D K o (R (G 1).toNat) M R G L NU TT) hS 1 rfl (Nat.le_of_ble_eq_true rfl) mw_1_189 dX1_restore_41 (two_upR (n := 1) (k := 0) rfl (two_up (Nat.le_of_ble_eq_true rfl) (hu_G1 K (o + 43) G 4))) (fun H locs hP hS => ?_)
      obtain ⟨Ga, hGa⟩ : ∃ Y0 : Int → Int, Y0 = uZ G 1 4 := ⟨_, rfl⟩
      have hP : xP K (xW K o (R (G 1).toNat) M R Ga L NU TT) H := by rw [hGa]; exact hP
      refine lv_aload_n T.1 T.2.1 dX1_restore_44 rfl (lv_at hl 0 rfl) ?_
      refine lv_dup T.1 T.2.1 dX1_restore_45 rfl ?_
      refine g1_number T hK hP 1 rfl (v := .int (iI (Ga 0))) rfl mw_1_187 dX1_restore_46 ?_
      refine xv_cv (b := G 0) (by rw [hGa, uZ_ne (by omega)]) ?_
      refine xv_iconst T dX1_restore_49 ?_
      refine xv_isub T dX1_restore_50 ?_
      refine p1_number T hK hP (xW_D K o (R (G 1).toNat) M R Ga L NU TT) hS 1 rfl (Nat.le_of_ble_eq_true rfl) mw_1_187 dX1_restore_51 (two_upR (n := 1) (k := 0) rfl (two_up (Nat.le_of_ble_eq_true rfl) (hu_G0 K (o + 43) Ga (G 0 - 1)))) (fun H locs hP hS => ?_)
      obtain ⟨Gb, hGb⟩ : ∃ Y0 : Int → Int, Y0 = uZ Ga 0 (G 0 - 1) := ⟨_, rfl⟩
      have hP : xP K (xW K o (R (G 1).toNat) M R Gb L NU TT) H := by rw [hGb]; exact hP
      refine lv_aload_n T.1 T.2.1 dX1_restore_54 rfl (lv_at hl 0 rfl) ?_
      refine g1_number T hK hP 1 rfl (v := .int (iI (Gb 0))) rfl mw_1_187 dX1_restore_55 ?_
      refine xv_cv (b := G 0 - 1) (by rw [hGb, uZ_eq]) ?_
      exact rI T (u := ((R (G 1).toNat), Gb)) hr hk hK hP hS dX1_restore_58 (by unfold resP; rw [if_neg (by omega), hGb, hGa]; first | rw [if_pos (by omega)] | rw [if_neg (by omega)])
    · skip
      refine lv_aload_n T.1 T.2.1 dX1_restore_31 rfl (lv_at hl 0 rfl) ?_
      refine g1_latest T hK hP 1 rfl (v := .int (iI (G 1))) rfl mw_1_189 dX1_restore_32 ?_
      refine xv_iconst T dX1_restore_35 ?_
      refine xv_isub T dX1_restore_36 ?_
      refine lv_goto T.1 T.2.1 (tgt := 41) dX1_restore_37 (by decide) ?_
      refine p1_latest T hK hP (xW_D K o (R (G 1).toNat) M R G L NU TT) hS 1 rfl (Nat.le_of_ble_eq_true rfl) mw_1_189 dX1_restore_41 (two_upR (n := 1) (k := 0) rfl (two_up (Nat.le_of_ble_eq_true rfl) (hu_G1 K (o + 43) G (G 1 - 1)))) (fun H locs hP hS => ?_)
      obtain ⟨Ga, hGa⟩ : ∃ Y0 : Int → Int, Y0 = uZ G 1 (G 1 - 1) := ⟨_, rfl⟩
      have hP : xP K (xW K o (R (G 1).toNat) M R Ga L NU TT) H := by rw [hGa]; exact hP
      refine lv_aload_n T.1 T.2.1 dX1_restore_44 rfl (lv_at hl 0 rfl) ?_
      refine lv_dup T.1 T.2.1 dX1_restore_45 rfl ?_
      refine g1_number T hK hP 1 rfl (v := .int (iI (Ga 0))) rfl mw_1_187 dX1_restore_46 ?_
      refine xv_cv (b := G 0) (by rw [hGa, uZ_ne (by omega)]) ?_
      refine xv_iconst T dX1_restore_49 ?_
      refine xv_isub T dX1_restore_50 ?_
      refine p1_number T hK hP (xW_D K o (R (G 1).toNat) M R Ga L NU TT) hS 1 rfl (Nat.le_of_ble_eq_true rfl) mw_1_187 dX1_restore_51 (two_upR (n := 1) (k := 0) rfl (two_up (Nat.le_of_ble_eq_true rfl) (hu_G0 K (o + 43) Ga (G 0 - 1)))) (fun H locs hP hS => ?_)
      obtain ⟨Gb, hGb⟩ : ∃ Y0 : Int → Int, Y0 = uZ Ga 0 (G 0 - 1) := ⟨_, rfl⟩
      have hP : xP K (xW K o (R (G 1).toNat) M R Gb L NU TT) H := by rw [hGb]; exact hP
      refine lv_aload_n T.1 T.2.1 dX1_restore_54 rfl (lv_at hl 0 rfl) ?_
      refine g1_number T hK hP 1 rfl (v := .int (iI (Gb 0))) rfl mw_1_187 dX1_restore_55 ?_
      refine xv_cv (b := G 0 - 1) (by rw [hGb, uZ_eq]) ?_
      exact rI T (u := ((R (G 1).toNat), Gb)) hr hk hK hP hS dX1_restore_58 (by unfold resP; rw [if_neg (by omega), hGb, hGa]; first | rw [if_pos (by omega)] | rw [if_neg (by omega)])
  · skip
    refine xv_bipush T dX1_restore_7 (by omega) ?_
    exact rI T (u := (N, G)) hr hk hK hP hS dX1_restore_9 (by unfold resP; rw [if_pos (by omega)])
set_option maxHeartbeats 4000000 in
set_option maxRecDepth 100000 in
theorem c_X3_tryOn (l : Launch) (K : KT) (o : Nat) (N M : Int → Int) (R : Nat → Int → Int) (G L NU TT : Int → Int) (F : Int → Int) (hI : Inv N) (hL0 : 0 ≤ L 0 ∧ L 0 ≤ 80) (hT : TxT TT (L 0)) (hNU : nuIn NU) (hF : F 2 = L 0) : CtV l yX3_tryOn cX3_tryOn 6 6 142 K [.ref (o + 150), .ref (o + 22), .ref (o + 1)] (xW K o N M R G L NU TT) (Blk o 153) (fun (u : (Int → Int) × (Int → Int) × (Int → Int)) => trQ (triP TT N F) u.1 u.2.1 ∧ u.2.1 0 = L 0 ∧ nuIn u.2.2) (fun u => xW K o N u.1 R G u.2.1 u.2.2 TT) := by
  refine CtV_of (by decide) (Nat.le_of_ble_eq_true rfl) ?_
  intro p e s m args below meth c T hr hk hP hK ls hl
  have T : CF p m c cX3_tryOn 6 s args RX3 := T
  have hS : va_S (Blk o 153) s.heap s.heap [] := va_S.rf
  have hl : lv_has ls 6 [(0, .ref (o + 150)), (1, .ref (o + 22)), (2, .ref (o + 1))] := hl
  refine lv_aload_n T.1 T.2.1 dX3_tryOn_0 rfl (lv_at hl 1 rfl) ?_
  refine lv_aload_n T.1 T.2.1 dX3_tryOn_1 rfl (lv_at hl 2 rfl) ?_
  refine cV_V T hK hP hS 27 rfl rfl rfl (c_X6_become l K (o + 22) M (o + 1) N (by omega)) iX6_become mw_3_99 ⟨Nat.le_of_ble_eq_true rfl, Nat.le_of_ble_eq_true rfl⟩ (xP_app (xW_4 hP) (xW_3 hP)) (fun _ a => bk2_in (by omega) a) rfl hl.1 rfl (Nat.le_of_ble_eq_true rfl) ⟨Nat.zero_le _, Nat.zero_le _⟩ dX3_tryOn_2 (fun N3 H1 locs q2 hP1 hg1 hg2 hS => ?_)
  have hP : xP K (xW K o N N R G L NU TT) H1 := xW_mk (xP_out (xW_0 hP) (top_D _) (fun _ a b => bk2_x (by omega) a b) hg2) (xP_out (xW_1 hP) (hist_D _ _ _) (fun _ a b => bk2_x (by omega) a b) hg2) (xP_out (xW_2 hP) (log_D _ _ _ _ _) (fun _ a b => bk2_x (by omega) a b) hg2) (xP_r hP1) (xP_l hP1) (xP_out (xW_5 hP) (ring_D _ _ _) (fun _ a b => bk2_x (by omega) a b) hg2)
  generalize H1 = H at hP hS ⊢
  clear hg1 hg2 hP1
  refine lv_aload_n T.1 T.2.1 dX3_tryOn_5 rfl (lv_at hl 0 rfl) ?_
  refine xv_iconst T dX3_tryOn_6 ?_
  refine p3_faultReason T hK hP (xW_D K o N N R G L NU TT) hS 3 rfl (Nat.le_of_ble_eq_true rfl) mw_1_208 dX3_tryOn_7 (two_upR (n := 3) (k := 2) rfl (two_upR (n := 2) (k := 0) rfl (two_up (Nat.le_of_ble_eq_true rfl) (lu_L2 K (o + 150) L NU TT 0)))) (fun H locs hP hS => ?_)
  obtain ⟨La, hLa⟩ : ∃ Y0 : Int → Int, Y0 = uZ L 2 0 := ⟨_, rfl⟩
  have hP : xP K (xW K o N N R G La NU TT) H := by rw [hLa]; exact hP
  refine lv_aload_n T.1 T.2.1 dX3_tryOn_10 rfl (lv_at hl 0 rfl) ?_
  refine xv_iconst T dX3_tryOn_11 ?_
  refine p3_ordersDone T hK hP (xW_D K o N N R G La NU TT) hS 3 rfl (Nat.le_of_ble_eq_true rfl) mw_1_212 dX3_tryOn_12 (two_upR (n := 3) (k := 2) rfl (two_upR (n := 2) (k := 0) rfl (two_up (Nat.le_of_ble_eq_true rfl) (lu_L4 K (o + 150) La NU TT 0)))) (fun H locs hP hS => ?_)
  obtain ⟨Lb, hLb⟩ : ∃ Y0 : Int → Int, Y0 = uZ La 4 0 := ⟨_, rfl⟩
  have hP : xP K (xW K o N N R G Lb NU TT) H := by rw [hLb]; exact hP
  refine lv_aload_n T.1 T.2.1 dX3_tryOn_15 rfl (lv_at hl 0 rfl) ?_
  refine xv_iconst T dX3_tryOn_16 ?_
  refine p3_position T hK hP (xW_D K o N N R G Lb NU TT) hS 3 rfl (Nat.le_of_ble_eq_true rfl) mw_1_213 dX3_tryOn_17 (two_upR (n := 3) (k := 2) rfl (two_upR (n := 2) (k := 0) rfl (two_up (Nat.le_of_ble_eq_true rfl) (lu_L5 K (o + 150) Lb NU TT 0)))) (fun H locs hP hS => ?_)
  obtain ⟨Lc, hLc⟩ : ∃ Y0 : Int → Int, Y0 = uZ Lb 5 0 := ⟨_, rfl⟩
  have hP : xP K (xW K o N N R G Lc NU TT) H := by rw [hLc]; exact hP
  refine xv_iconst T dX3_tryOn_20 ?_
  refine lv_istore_n (lv' := [(3, .int (iI 0)), (0, .ref (o + 150)), (1, .ref (o + 22)), (2, .ref (o + 1))]) T.1 T.2.1 dX3_tryOn_21 rfl hl (by decide) rfl (fun ls hl => ?_)
  have lp22 : ∀ (fuel : Nat) (i : Int) (ML : Int → Int) (LL : Int → Int) (NUL : Int → Int) (H : Heap) (locs : List Loc) (ls : Array Slot), (Inv ML) → (nuIn NUL) → (LL 0 = L 0) → (LL 2 = 0) → (0 ≤ i ∧ i ≤ LL 5) → (0 ≤ LL 5 ∧ LL 5 ≤ 200) → (∃ (n : Nat) (FL : Int → Int), FL 2 = L 0 ∧ FL 3 = LL 5 ∧ FL 6 = 0 ∧ FL 8 = LL 4 ∧ L 0 - LL 5 ≤ (n : Int) ∧ triP TT N F = trF n TT ML FL) → 200 - i < (fuel : Int) → xP K (xW K o N ML R G LL NUL TT) H → va_S (Blk o 153) s.heap H locs → lv_has ls 6 [(0, .ref (o + 150)), (1, .ref (o + 22)), (2, .ref (o + 1)), (3, .int (iI i))] → W p l e (rmF 6 142) s m args below meth c H locs 0 0 (MQ below (qV K (fun (u : (Int → Int) × (Int → Int) × (Int → Int)) => trQ (triP TT N F) u.1 u.2.1 ∧ u.2.1 0 = L 0 ∧ nuIn u.2.2) (fun u => xW K o N u.1 R G u.2.1 u.2.2 TT) (Blk o 153)) args s 0 0 (Blk o 153)) (F0 m 22 ls []) := by
    intro fuel
    induction fuel with
    | zero =>
      intro i ML LL NUL H locs ls hIM hNUL h0 h2 hi h5 hq hm hP hS hl
      exact absurd hm (by omega)
    | succ fuel ih22 =>
      intro i ML LL NUL H locs ls hIM hNUL h0 h2 hi h5 hq hm hP hS hl
      obtain ⟨n, FL, f2, f3, f6, f8, hn, hq⟩ := hq
      refine lv_iload_n T.1 T.2.1 dX3_tryOn_22 rfl (lv_at hl 3 rfl) ?_
      refine xv_bipush T dX3_tryOn_23 (by omega) ?_
      refine xv_icmp_ge T (by omega) (tgt := 100) dX3_tryOn_25 (by decide) (fun c4 => ?_) (fun c4 => ?_)
      · skip
        exact rV T (u := (ML, LL, NUL)) hr hk hK hP hS dX3_tryOn_100 (by rw [trF_e (by omega)] at hq; exact ⟨Or.inl ⟨h2, by rw [hq]; exact f6, by rw [hq], by rw [hq]; exact f8.symm⟩, h0, hNUL⟩)
      · skip
        refine lv_aload_n T.1 T.2.1 dX3_tryOn_28 rfl (lv_at hl 0 rfl) ?_
        refine g3_position T hK hP 3 rfl (v := .int (iI (LL 5))) rfl mw_1_213 dX3_tryOn_29 ?_
        refine lv_aload_n T.1 T.2.1 dX3_tryOn_32 rfl (lv_at hl 0 rfl) ?_
        refine g3_length T hK hP 3 rfl (v := .int (iI (LL 0))) rfl mw_1_204 dX3_tryOn_33 ?_
        refine xv_icmp_ge T (by omega) (tgt := 100) dX3_tryOn_36 (by decide) (fun c5 => ?_) (fun c5 => ?_)
        · skip
          exact rV T (u := (ML, LL, NUL)) hr hk hK hP hS dX3_tryOn_100 (by rw [trF_e (by omega)] at hq; exact ⟨Or.inl ⟨h2, by rw [hq]; exact f6, by rw [hq], by rw [hq]; exact f8.symm⟩, h0, hNUL⟩)
        · skip
          refine lv_aload_n T.1 T.2.1 dX3_tryOn_39 rfl (lv_at hl 0 rfl) ?_
          refine g3_position T hK hP 3 rfl (v := .int (iI (LL 5))) rfl mw_1_213 dX3_tryOn_40 ?_
          refine lv_istore (lv' := [(4, .int (iI (LL 5))), (0, .ref (o + 150)), (1, .ref (o + 22)), (2, .ref (o + 1)), (3, .int (iI i))]) T.1 T.2.1 dX3_tryOn_43 hl (by decide) rfl (fun ls hl => ?_)
          refine lv_aload_n T.1 T.2.1 dX3_tryOn_45 rfl (lv_at hl 1 rfl) ?_
          refine cI_V T hK hP hS 3 rfl rfl rfl (c_X3_readOrder l K (o + 150) LL NUL TT (uZ FL 5 (FL 3)) (by omega) (by omega) (by rw [h0]; exact hT) (by rw [uZ_ne (by omega), uZ_ne (by omega)]; omega) (by omega)) iX3_readOrder mw_3_100 ⟨Nat.le_of_ble_eq_true rfl, Nat.le_of_ble_eq_true rfl⟩ (xW_2 hP) (fun _ a => blk_in (by omega) a) rfl hl.1 rfl (Nat.le_of_ble_eq_true rfl) ⟨Nat.zero_le _, Nat.zero_le _⟩ dX3_tryOn_46 (fun z6 ur H1 locs qr hP1 hg1 hg2 hS => ?_)
          have hP : xP K (xW K o N ML R G ur.1 ur.2 TT) H1 := xW_mk (xP_out (xW_0 hP) (top_D _) (fun _ a b => blk_x (by omega) a b) hg2) (xP_out (xW_1 hP) (hist_D _ _ _) (fun _ a b => blk_x (by omega) a b) hg2) (hP1) (xP_out (xW_3 hP) (ship_D _ _ _) (fun _ a b => blk_x (by omega) a b) hg2) (xP_out (xW_4 hP) (ship_D _ _ _) (fun _ a b => blk_x (by omega) a b) hg2) (xP_out (xW_5 hP) (ring_D _ _ _) (fun _ a b => blk_x (by omega) a b) hg2)
          generalize H1 = H at hP hS ⊢
          clear hg1 hg2 hP1
          rcases qr with ⟨rfl, qr⟩ | ⟨rfl, qr⟩
          · skip
            obtain ⟨b2, b3, b4, b5, b6, b7, b8⟩ := qr
            obtain ⟨n, rfl⟩ : ∃ k : Nat, n = k + 1 := ⟨n - 1, by omega⟩
            refine xv_if_ne T (by omega) (tgt := 62) dX3_tryOn_49 (by decide) (fun _ => ?_) (fun c7 => absurd c7 (by omega))
            refine lv_aload_n T.1 T.2.1 dX3_tryOn_62 rfl (lv_at hl 1 rfl) ?_
            refine lv_aload_n T.1 T.2.1 dX3_tryOn_63 rfl (lv_at hl 2 rfl) ?_
            refine cI_V T hK hP hS 3 rfl rfl rfl (c_X3_doOrder l K o N ML R G ur.1 ur.2 TT hIM (b8 hNUL) (by rw [b5]; exact b3)) iX3_doOrder mw_3_119 ⟨Nat.le_of_ble_eq_true rfl, Nat.le_of_ble_eq_true rfl⟩ hP (fun _ h => h) rfl hl.1 rfl (Nat.le_of_ble_eq_true rfl) ⟨Nat.zero_le _, Nat.zero_le _⟩ dX3_tryOn_64 (fun zo uo H1 locs qo hP1 hg1 hg2 hS => ?_)
            have hP : xP K (xW K o N uo R G ur.1 ur.2 TT) H1 := hP1
            generalize H1 = H at hP hS ⊢
            clear hg1 hg2 hP1
            have hz1 : zo = (doP ML ur.2 (ur.1 6)).1 := congrArg Prod.fst qo
            have hz2 : uo = (doP ML ur.2 (ur.1 6)).2 := congrArg Prod.snd qo
            refine lv_istore (lv' := [(5, .int (iI zo)), (4, .int (iI (LL 5))), (0, .ref (o + 150)), (1, .ref (o + 22)), (2, .ref (o + 1)), (3, .int (iI i))]) T.1 T.2.1 dX3_tryOn_67 hl (by decide) rfl (fun ls hl => ?_)
            refine lv_iload T.1 T.2.1 dX3_tryOn_69 (lv_at hl 0 rfl) ?_
            refine xr_if_ge T (tgt := 84) dX3_tryOn_71 (by decide) (fun c8 => ?_) (fun c8 => ?_)
            · skip
              refine lv_aload_n T.1 T.2.1 dX3_tryOn_84 rfl (lv_at hl 2 rfl) ?_
              refine lv_dup T.1 T.2.1 dX3_tryOn_85 rfl ?_
              refine g3_ordersDone T hK hP 3 rfl (v := .int (iI (ur.1 4))) rfl mw_1_212 dX3_tryOn_86 ?_
              refine xv_iconst T dX3_tryOn_89 ?_
              refine xv_iadd T dX3_tryOn_90 ?_
              refine p3_ordersDone T hK hP (xW_D K o N uo R G ur.1 ur.2 TT) hS 3 rfl (Nat.le_of_ble_eq_true rfl) mw_1_212 dX3_tryOn_91 (two_upR (n := 3) (k := 2) rfl (two_upR (n := 2) (k := 0) rfl (two_up (Nat.le_of_ble_eq_true rfl) (lu_L4 K (o + 150) ur.1 ur.2 TT (ur.1 4 + 1))))) (fun H locs hP hS => ?_)
              obtain ⟨LN, hLN⟩ : ∃ Y0 : Int → Int, Y0 = uZ ur.1 4 (ur.1 4 + 1) := ⟨_, rfl⟩
              have hP : xP K (xW K o N uo R G LN ur.2 TT) H := by rw [hLN]; exact hP
              refine xv_iinc T (y := i + 1) (lv' := [(3, .int (iI (i + 1))), (5, .int (iI zo)), (4, .int (iI (LL 5))), (0, .ref (o + 150)), (1, .ref (o + 22)), (2, .ref (o + 1))]) dX3_tryOn_94 hl (q := 5) rfl (by omega) (by decide) rfl (fun ls hl => ?_)
              refine lv_goto T.1 T.2.1 (tgt := 22) dX3_tryOn_97 (by decide) ?_
              obtain ⟨FF, g1, g2, g3, g4, g5⟩ := trF_3 (n := n) (M := ML) (by omega) b2 b3 b6 (by rw [← b5, ← hz1]; assumption)
              have k3 := (ordZ_f TT (uZ FL 5 (FL 3))).2.1
              rw [uZ_ne (by omega)] at k3
              have k5 : LN 5 = ordZ TT (uZ FL 5 (FL 3)) 3 := by rw [hLN, uZ_ne (by omega)]; exact b4
              exact ih22 (i + 1) uo LN ur.2 _ _ ls (by rw [hz2]; exact doP_inv hIM _) (b8 hNUL) (by rw [hLN, uZ_ne (by omega), b7 0 (by omega)]; exact h0) (by rw [hLN, uZ_ne (by omega), b7 2 (by omega)]; exact h2) (by omega) (by omega) ⟨n, FF, by omega, by omega, g4, by rw [g5, f8, hLN, uZ_eq, b7 4 (by omega)], by omega, by rw [hq, g1, hz2, b5]⟩ (by omega) hP hS (lv_sub hl [3, 4, 5, 0] rfl)
            · skip
              refine lv_aload_n T.1 T.2.1 dX3_tryOn_74 rfl (lv_at hl 2 rfl) ?_
              refine lv_iload T.1 T.2.1 dX3_tryOn_75 (lv_at hl 1 rfl) ?_
              refine xv_iconst T dX3_tryOn_77 ?_
              refine lv_iload T.1 T.2.1 dX3_tryOn_78 (lv_at hl 0 rfl) ?_
              refine cV_V T hK hP hS 3 rfl rfl rfl (c_X3_noteFault l K (o + 150) ur.1 ur.2 TT (LL 5) 2 zo ) iX3_noteFault mw_3_115 ⟨Nat.le_of_ble_eq_true rfl, Nat.le_of_ble_eq_true rfl⟩ (xW_2 hP) (fun _ a => blk_in (by omega) a) rfl hl.1 rfl (Nat.le_of_ble_eq_true rfl) ⟨Nat.zero_le _, Nat.zero_le _⟩ dX3_tryOn_80 (fun un H1 locs qn hP1 hg1 hg2 hS => ?_)
              have hP : xP K (xW K o N uo R G un ur.2 TT) H1 := xW_mk (xP_out (xW_0 hP) (top_D _) (fun _ a b => blk_x (by omega) a b) hg2) (xP_out (xW_1 hP) (hist_D _ _ _) (fun _ a b => blk_x (by omega) a b) hg2) (hP1) (xP_out (xW_3 hP) (ship_D _ _ _) (fun _ a b => blk_x (by omega) a b) hg2) (xP_out (xW_4 hP) (ship_D _ _ _) (fun _ a b => blk_x (by omega) a b) hg2) (xP_out (xW_5 hP) (ring_D _ _ _) (fun _ a b => blk_x (by omega) a b) hg2)
              generalize H1 = H at hP hS ⊢
              clear hg1 hg2 hP1
              exact rV T (u := (uo, un, ur.2)) hr hk hK hP hS dX3_tryOn_83 (by have t := trF_2 (n := n) (M := ML) (by omega) b2 b3 b6 (by rw [← b5, ← hz1]; assumption); rw [← hq, ← b5, ← hz1, f3] at t; exact ⟨Or.inr ⟨Or.inr t.1, by dsimp only; rw [qn, uZ_ne (by omega), uZ_eq, t.1], by dsimp only; rw [qn, uZ_ne (by omega), uZ_ne (by omega), uZ_eq, t.2.1], fun _ => by dsimp only; rw [qn, uZ_eq, t.2.2]⟩, by dsimp only; rw [qn, uZ_ne (by omega), uZ_ne (by omega), uZ_ne (by omega), b7 0 (by omega)]; exact h0, b8 hNUL⟩)
          · skip
            obtain ⟨b2, b7, b8⟩ := qr
            obtain ⟨n, rfl⟩ : ∃ k : Nat, n = k + 1 := ⟨n - 1, by omega⟩
            refine xv_if_ne T (by omega) (tgt := 62) dX3_tryOn_49 (by decide) (fun c10 => absurd c10 (by omega)) (fun _ => ?_)
            refine lv_aload_n T.1 T.2.1 dX3_tryOn_52 rfl (lv_at hl 1 rfl) ?_
            refine lv_iload T.1 T.2.1 dX3_tryOn_53 (lv_at hl 0 rfl) ?_
            refine xv_iconst T dX3_tryOn_55 ?_
            refine xv_bipush T dX3_tryOn_56 (by omega) ?_
            refine cV_V T hK hP hS 3 rfl rfl rfl (c_X3_noteFault l K (o + 150) ur.1 ur.2 TT (LL 5) 1 (-4) ) iX3_noteFault mw_3_115 ⟨Nat.le_of_ble_eq_true rfl, Nat.le_of_ble_eq_true rfl⟩ (xW_2 hP) (fun _ a => blk_in (by omega) a) rfl hl.1 rfl (Nat.le_of_ble_eq_true rfl) ⟨Nat.zero_le _, Nat.zero_le _⟩ dX3_tryOn_58 (fun un H1 locs qn hP1 hg1 hg2 hS => ?_)
            have hP : xP K (xW K o N ML R G un ur.2 TT) H1 := xW_mk (xP_out (xW_0 hP) (top_D _) (fun _ a b => blk_x (by omega) a b) hg2) (xP_out (xW_1 hP) (hist_D _ _ _) (fun _ a b => blk_x (by omega) a b) hg2) (hP1) (xP_out (xW_3 hP) (ship_D _ _ _) (fun _ a b => blk_x (by omega) a b) hg2) (xP_out (xW_4 hP) (ship_D _ _ _) (fun _ a b => blk_x (by omega) a b) hg2) (xP_out (xW_5 hP) (ring_D _ _ _) (fun _ a b => blk_x (by omega) a b) hg2)
            generalize H1 = H at hP hS ⊢
            clear hg1 hg2 hP1
            exact rV T (u := (ML, un, ur.2)) hr hk hK hP hS dX3_tryOn_61 (by have t := trF_1 (n := n) (M := ML) (by omega) b2; rw [← hq, f3] at t; exact ⟨Or.inr ⟨Or.inl t.1, by dsimp only; rw [qn, uZ_ne (by omega), uZ_eq, t.1], by dsimp only; rw [qn, uZ_ne (by omega), uZ_ne (by omega), uZ_eq, t.2], fun a => by omega⟩, by dsimp only; rw [qn, uZ_ne (by omega), uZ_ne (by omega), uZ_ne (by omega), b7 0 (by omega)]; exact h0, b8 hNUL⟩)
  exact lp22 201 0 N Lc NU _ _ ls hI hNU (by rw [hLc, uZ_ne (by omega), hLb, uZ_ne (by omega), hLa, uZ_ne (by omega)]) (by rw [hLc, uZ_ne (by omega), hLb, uZ_ne (by omega), hLa, uZ_eq]) (by rw [hLc, uZ_eq]; omega) (by rw [hLc, uZ_eq]; omega) ⟨81, uZ (uZ (uZ F 3 0) 8 0) 6 0, by rw [uZ_ne (by omega), uZ_ne (by omega), uZ_ne (by omega)]; exact hF, by rw [uZ_ne (by omega), uZ_ne (by omega), uZ_eq, hLc, uZ_eq], uZ_eq, by rw [uZ_ne (by omega), uZ_eq, hLc, uZ_ne (by omega), hLb, uZ_eq], by rw [hLc, uZ_eq]; omega, rfl⟩ (by omega) hP hS (lv_sub hl [1, 2, 3, 0] rfl)
