set_option maxHeartbeats 4000000 in
set_option maxRecDepth 100000 in
theorem c_L_refused (l : Launch) (K : KT) (o : Nat) (N : Int → Int) (st : List (Int → Int)) : CyI l yL_refused cL_refused 7 .boolean 8 188 K o N st (poS N st) := by
  refine CyI_of (by decide) (Nat.le_of_ble_eq_true rfl) ?_
  intro p e s m args below meth c T hr hk hP hK ls hl
  have T : CF p m c cL_refused 7 s args RL := T
  have hS : va_S (Blk o 153) s.heap s.heap [] := va_S.rf
  have hX := lwY_X hP
  have hR := inY_R (inY hX.1)
  obtain ⟨b0, b1, b2, b3, b4, b5, b6, b7, b8, b9⟩ := inY_b (inY hX.1)
  have hst := lwY_st hP
  have hZ := inZ hX.1
  refine lv_aload_n T.1 T.2.1 dL_refused_0 rfl (lv_at hl 0 rfl) ?_
  refine lyS_L T hK hP hS (fun _ h => h) (c_L_print l K o N st) iL_print mw_3_141 ⟨Nat.le_of_ble_eq_true rfl, Nat.le_of_ble_eq_true rfl⟩ hl.1 (Nat.le_of_ble_eq_true rfl) ⟨Nat.zero_le _, Nat.zero_le _⟩ dL_refused_1 (fun z9 N9 st9 H locs q9 hP hS => ?_)
  obtain ⟨hz9, hN9, hs9⟩ := q9
  subst hz9
  subst hN9
  subst hs9
  refine lv_lstore_n (lv' := [(1, .long (lI (digF N))), (0, .ref o)]) T.1 T.2.1 dL_refused_4 rfl hl (by decide) rfl (fun ls hl => ?_)
  refine lv_aload_n T.1 T.2.1 dL_refused_5 rfl (lv_at hl 1 rfl) ?_
  refine xv_iconst T dL_refused_6 ?_
  refine ly_count T hK hP hS (fun _ h => h) (by omega) (w := N 4) rfl mw_3_50 ⟨Nat.le_of_ble_eq_true rfl, Nat.le_of_ble_eq_true rfl⟩ hl.1 (Nat.le_of_ble_eq_true rfl) ⟨Nat.zero_le _, Nat.zero_le _⟩ dL_refused_7 (fun H locs hP hS => ?_)
  refine lv_istore_n (lv' := [(3, .int (iI (N 4))), (1, .long (lI (digF N))), (0, .ref o)]) T.1 T.2.1 dL_refused_10 rfl hl (by decide) rfl (fun ls hl => ?_)
  refine lv_aload_n T.1 T.2.1 dL_refused_11 rfl (lv_at hl 2 rfl) ?_
  refine xv_iconst T dL_refused_12 ?_
  refine ly_count T hK hP hS (fun _ h => h) (by omega) (w := N 5) rfl mw_3_50 ⟨Nat.le_of_ble_eq_true rfl, Nat.le_of_ble_eq_true rfl⟩ hl.1 (Nat.le_of_ble_eq_true rfl) ⟨Nat.zero_le _, Nat.zero_le _⟩ dL_refused_13 (fun H locs hP hS => ?_)
  refine lv_istore (lv' := [(4, .int (iI (N 5))), (3, .int (iI (N 4))), (1, .long (lI (digF N))), (0, .ref o)]) T.1 T.2.1 dL_refused_16 hl (by decide) rfl (fun ls hl => ?_)
  refine lv_aload_n T.1 T.2.1 dL_refused_18 rfl (lv_at hl 3 rfl) ?_
  refine xv_bipush T dL_refused_19 (by omega) ?_
  refine ly_count T hK hP hS (fun _ h => h) (by omega) (w := (st.length : Int)) rfl mw_3_50 ⟨Nat.le_of_ble_eq_true rfl, Nat.le_of_ble_eq_true rfl⟩ hl.1 (Nat.le_of_ble_eq_true rfl) ⟨Nat.zero_le _, Nat.zero_le _⟩ dL_refused_21 (fun H locs hP hS => ?_)
  refine lv_istore (lv' := [(5, .int (iI (st.length : Int))), (4, .int (iI (N 5))), (3, .int (iI (N 4))), (1, .long (lI (digF N))), (0, .ref o)]) T.1 T.2.1 dL_refused_24 hl (by decide) rfl (fun ls hl => ?_)
  refine lv_aload_n T.1 T.2.1 dL_refused_26 rfl (lv_at hl 4 rfl) ?_
  refine xv_iconst T dL_refused_27 ?_
  refine lr_good T hK hP hS (fun _ h => h) (by omega) (z := (-1)) (by unfold sGood; rw [if_pos (by omega)]) (by omega) mw_2_72 ⟨Nat.le_of_ble_eq_true rfl, Nat.le_of_ble_eq_true rfl⟩ hl.1 (Nat.le_of_ble_eq_true rfl) ⟨Nat.zero_le _, Nat.zero_le _⟩ dL_refused_28 (fun H locs hP hS => ?_)
  refine xv_iconst T dL_refused_31 ?_
  refine xv_icmp_ne T (by omega) (tgt := 196) dL_refused_32 (by decide) (fun c1 => absurd c1 (by omega)) (fun _ => ?_)
  refine lv_aload_n T.1 T.2.1 dL_refused_35 rfl (lv_at hl 4 rfl) ?_
  refine xv_ldc T mw_3_155 (n := 1000001) (by decide +kernel) dL_refused_36 ?_
  refine lr_good T hK hP hS (fun _ h => h) (by omega) (z := (-1)) (by unfold sGood; rw [if_pos (by omega)]) (by omega) mw_2_72 ⟨Nat.le_of_ble_eq_true rfl, Nat.le_of_ble_eq_true rfl⟩ hl.1 (Nat.le_of_ble_eq_true rfl) ⟨Nat.zero_le _, Nat.zero_le _⟩ dL_refused_38 (fun H locs hP hS => ?_)
  refine xv_iconst T dL_refused_41 ?_
  refine xv_icmp_ne T (by omega) (tgt := 196) dL_refused_42 (by decide) (fun c2 => absurd c2 (by omega)) (fun _ => ?_)
  refine lv_aload_n T.1 T.2.1 dL_refused_45 rfl (lv_at hl 4 rfl) ?_
  refine lv_iload T.1 T.2.1 dL_refused_46 (lv_at hl 1 rfl) ?_
  refine xv_iconst T dL_refused_48 ?_
  refine lr_duty T hK hP hS (fun _ h => h) (by omega) (by omega) (z := (-1)) (by unfold sDuty; rw [if_pos (by omega)]) (by omega) mw_3_156 ⟨Nat.le_of_ble_eq_true rfl, Nat.le_of_ble_eq_true rfl⟩ hl.1 (Nat.le_of_ble_eq_true rfl) ⟨Nat.zero_le _, Nat.zero_le _⟩ dL_refused_49 (fun H locs hP hS => ?_)
  refine xv_iconst T dL_refused_52 ?_
  refine xv_icmp_ne T (by omega) (tgt := 196) dL_refused_53 (by decide) (fun c3 => absurd c3 (by omega)) (fun _ => ?_)
  refine lv_aload_n T.1 T.2.1 dL_refused_56 rfl (lv_at hl 4 rfl) ?_
  refine xv_iconst T dL_refused_57 ?_
  refine xv_iconst T dL_refused_58 ?_
  refine lr_duty T hK hP hS (fun _ h => h) (by omega) (by omega) (z := (-1)) (by unfold sDuty; rw [if_pos (by omega)]) (by omega) mw_3_156 ⟨Nat.le_of_ble_eq_true rfl, Nat.le_of_ble_eq_true rfl⟩ hl.1 (Nat.le_of_ble_eq_true rfl) ⟨Nat.zero_le _, Nat.zero_le _⟩ dL_refused_59 (fun H locs hP hS => ?_)
  refine xv_iconst T dL_refused_62 ?_
  refine xv_icmp_ne T (by omega) (tgt := 196) dL_refused_63 (by decide) (fun c4 => absurd c4 (by omega)) (fun _ => ?_)
  refine lv_aload_n T.1 T.2.1 dL_refused_66 rfl (lv_at hl 4 rfl) ?_
  refine lv_iload_n T.1 T.2.1 dL_refused_67 rfl (lv_at hl 2 rfl) ?_
  refine xv_iconst T dL_refused_68 ?_
  refine xv_iconst T dL_refused_69 ?_
  refine lr_load T hK hP hS (fun _ h => h) (by omega) (by omega) (by omega) (z := (-1)) (by unfold sLoad; rw [if_pos (by omega)]) (by omega) mw_2_85 ⟨Nat.le_of_ble_eq_true rfl, Nat.le_of_ble_eq_true rfl⟩ hl.1 (Nat.le_of_ble_eq_true rfl) ⟨Nat.zero_le _, Nat.zero_le _⟩ dL_refused_70 (fun H locs hP hS => ?_)
  refine xv_iconst T dL_refused_73 ?_
  refine xv_icmp_ne T (by omega) (tgt := 196) dL_refused_74 (by decide) (fun c5 => absurd c5 (by omega)) (fun _ => ?_)
  refine lv_aload_n T.1 T.2.1 dL_refused_77 rfl (lv_at hl 4 rfl) ?_
  refine xv_iconst T dL_refused_78 ?_
  refine xv_iconst T dL_refused_79 ?_
  refine xv_iconst T dL_refused_80 ?_
  refine lr_load T hK hP hS (fun _ h => h) (by omega) (by omega) (by omega) (z := (-1)) (by unfold sLoad; rw [if_pos (by omega)]) (by omega) mw_2_85 ⟨Nat.le_of_ble_eq_true rfl, Nat.le_of_ble_eq_true rfl⟩ hl.1 (Nat.le_of_ble_eq_true rfl) ⟨Nat.zero_le _, Nat.zero_le _⟩ dL_refused_81 (fun H locs hP hS => ?_)
  refine xv_iconst T dL_refused_84 ?_
  refine xv_icmp_ne T (by omega) (tgt := 196) dL_refused_85 (by decide) (fun c6 => absurd c6 (by omega)) (fun _ => ?_)
  refine lv_aload_n T.1 T.2.1 dL_refused_88 rfl (lv_at hl 4 rfl) ?_
  refine xv_iconst T dL_refused_89 ?_
  refine lv_iload T.1 T.2.1 dL_refused_90 (lv_at hl 1 rfl) ?_
  refine xv_iconst T dL_refused_92 ?_
  refine lr_load T hK hP hS (fun _ h => h) (by omega) (by omega) (by omega) (z := (-1)) (by unfold sLoad; rw [if_pos (by omega)]) (by omega) mw_2_85 ⟨Nat.le_of_ble_eq_true rfl, Nat.le_of_ble_eq_true rfl⟩ hl.1 (Nat.le_of_ble_eq_true rfl) ⟨Nat.zero_le _, Nat.zero_le _⟩ dL_refused_93 (fun H locs hP hS => ?_)
  refine xv_iconst T dL_refused_96 ?_
  refine xv_icmp_ne T (by omega) (tgt := 196) dL_refused_97 (by decide) (fun c7 => absurd c7 (by omega)) (fun _ => ?_)
  refine lv_aload_n T.1 T.2.1 dL_refused_100 rfl (lv_at hl 4 rfl) ?_
  refine lv_iload_n T.1 T.2.1 dL_refused_101 rfl (lv_at hl 2 rfl) ?_
  refine xv_bipush T dL_refused_102 (by omega) ?_
  refine ly_lockerOf T hK hP hS (fun _ h => h) (by omega) (by omega) (w := (-1)) (by unfold qLockerOf; rw [if_pos (by omega)]) mw_2_123 ⟨Nat.le_of_ble_eq_true rfl, Nat.le_of_ble_eq_true rfl⟩ hl.1 (Nat.le_of_ble_eq_true rfl) ⟨Nat.zero_le _, Nat.zero_le _⟩ dL_refused_104 (fun H locs hP hS => ?_)
  refine xv_iconst T dL_refused_107 ?_
  refine xv_icmp_ne T (by omega) (tgt := 196) dL_refused_108 (by decide) (fun c8 => absurd c8 (by omega)) (fun _ => ?_)
  refine lv_aload_n T.1 T.2.1 dL_refused_111 rfl (lv_at hl 4 rfl) ?_
  refine lv_iload_n T.1 T.2.1 dL_refused_112 rfl (lv_at hl 2 rfl) ?_
  refine xv_iconst T dL_refused_113 ?_
  refine ly_missing T hK hP hS (fun _ h => h) (by omega) (by omega) (w := (-1)) (by unfold qMissing; rw [if_neg (by omega)]) mw_3_147 ⟨Nat.le_of_ble_eq_true rfl, Nat.le_of_ble_eq_true rfl⟩ hl.1 (Nat.le_of_ble_eq_true rfl) ⟨Nat.zero_le _, Nat.zero_le _⟩ dL_refused_114 (fun H locs hP hS => ?_)
  refine xv_iconst T dL_refused_117 ?_
  refine xv_icmp_ne T (by omega) (tgt := 196) dL_refused_118 (by decide) (fun c9 => absurd c9 (by omega)) (fun _ => ?_)
  refine lv_aload_n T.1 T.2.1 dL_refused_121 rfl (lv_at hl 4 rfl) ?_
  refine xv_iconst T dL_refused_122 ?_
  refine lv_iload T.1 T.2.1 dL_refused_123 (lv_at hl 1 rfl) ?_
  refine ly_missing T hK hP hS (fun _ h => h) (by omega) (by omega) (w := (-1)) (by unfold qMissing; rw [if_neg (by omega)]) mw_3_147 ⟨Nat.le_of_ble_eq_true rfl, Nat.le_of_ble_eq_true rfl⟩ hl.1 (Nat.le_of_ble_eq_true rfl) ⟨Nat.zero_le _, Nat.zero_le _⟩ dL_refused_125 (fun H locs hP hS => ?_)
  refine xv_iconst T dL_refused_128 ?_
  refine xv_icmp_ne T (by omega) (tgt := 196) dL_refused_129 (by decide) (fun c10 => absurd c10 (by omega)) (fun _ => ?_)
  refine lv_aload_n T.1 T.2.1 dL_refused_132 rfl (lv_at hl 4 rfl) ?_
  refine xv_iconst T dL_refused_133 ?_
  refine xv_iconst T dL_refused_134 ?_
  refine ly_seal T hK hP hS (fun _ h => h) (by omega) (by omega) (w := (-1)) (by unfold qSeal; rw [if_pos (by omega)]) mw_2_135 ⟨Nat.le_of_ble_eq_true rfl, Nat.le_of_ble_eq_true rfl⟩ hl.1 (Nat.le_of_ble_eq_true rfl) ⟨Nat.zero_le _, Nat.zero_le _⟩ dL_refused_135 (fun H locs hP hS => ?_)
  refine xv_iconst T dL_refused_138 ?_
  refine xv_icmp_ne T (by omega) (tgt := 196) dL_refused_139 (by decide) (fun c11 => absurd c11 (by omega)) (fun _ => ?_)
  refine lv_aload_n T.1 T.2.1 dL_refused_142 rfl (lv_at hl 4 rfl) ?_
  refine lv_aload_n T.1 T.2.1 dL_refused_143 rfl (lv_at hl 4 rfl) ?_
  refine xv_iconst T dL_refused_144 ?_
  refine ly_count T hK hP hS (fun _ h => h) (by omega) (w := N 7) rfl mw_3_50 ⟨Nat.le_of_ble_eq_true rfl, Nat.le_of_ble_eq_true rfl⟩ hl.1 (Nat.le_of_ble_eq_true rfl) ⟨Nat.zero_le _, Nat.zero_le _⟩ dL_refused_145 (fun H locs hP hS => ?_)
  refine xv_iconst T dL_refused_148 ?_
  refine xv_iadd T dL_refused_149 ?_
  refine xv_iconst T dL_refused_150 ?_
  refine ly_seal T hK hP hS (fun _ h => h) (by omega) (by omega) (w := (-1)) (by unfold qSeal; rw [if_pos (by omega)]) mw_2_135 ⟨Nat.le_of_ble_eq_true rfl, Nat.le_of_ble_eq_true rfl⟩ hl.1 (Nat.le_of_ble_eq_true rfl) ⟨Nat.zero_le _, Nat.zero_le _⟩ dL_refused_151 (fun H locs hP hS => ?_)
  refine xv_iconst T dL_refused_154 ?_
  refine xv_icmp_ne T (by omega) (tgt := 196) dL_refused_155 (by decide) (fun c12 => absurd c12 (by omega)) (fun _ => ?_)
  refine lv_aload_n T.1 T.2.1 dL_refused_158 rfl (lv_at hl 4 rfl) ?_
  refine lv_aload_n T.1 T.2.1 dL_refused_159 rfl (lv_at hl 4 rfl) ?_
  refine xv_iconst T dL_refused_160 ?_
  refine ly_count T hK hP hS (fun _ h => h) (by omega) (w := N 6) rfl mw_3_50 ⟨Nat.le_of_ble_eq_true rfl, Nat.le_of_ble_eq_true rfl⟩ hl.1 (Nat.le_of_ble_eq_true rfl) ⟨Nat.zero_le _, Nat.zero_le _⟩ dL_refused_161 (fun H locs hP hS => ?_)
  refine xv_iconst T dL_refused_164 ?_
  refine ly_bond T hK hP hS (fun _ h => h) (by omega) (by omega) (w := (-1)) (by unfold qBond; rw [if_pos (by omega)]) mw_2_139 ⟨Nat.le_of_ble_eq_true rfl, Nat.le_of_ble_eq_true rfl⟩ hl.1 (Nat.le_of_ble_eq_true rfl) ⟨Nat.zero_le _, Nat.zero_le _⟩ dL_refused_165 (fun H locs hP hS => ?_)
  refine xv_iconst T dL_refused_168 ?_
  refine xv_icmp_ne T (by omega) (tgt := 196) dL_refused_169 (by decide) (fun c13 => absurd c13 (by omega)) (fun _ => ?_)
  refine lv_aload_n T.1 T.2.1 dL_refused_172 rfl (lv_at hl 4 rfl) ?_
  refine xv_iconst T dL_refused_173 ?_
  refine xv_iconst T dL_refused_174 ?_
  refine ly_bond T hK hP hS (fun _ h => h) (by omega) (by omega) (w := (-1)) (by unfold qBond; rw [if_pos (by omega)]) mw_2_139 ⟨Nat.le_of_ble_eq_true rfl, Nat.le_of_ble_eq_true rfl⟩ hl.1 (Nat.le_of_ble_eq_true rfl) ⟨Nat.zero_le _, Nat.zero_le _⟩ dL_refused_175 (fun H locs hP hS => ?_)
  refine xv_iconst T dL_refused_178 ?_
  refine xv_icmp_ne T (by omega) (tgt := 196) dL_refused_179 (by decide) (fun c14 => absurd c14 (by omega)) (fun _ => ?_)
  refine lv_aload_n T.1 T.2.1 dL_refused_182 rfl (lv_at hl 4 rfl) ?_
  refine lv_iload T.1 T.2.1 dL_refused_183 (lv_at hl 1 rfl) ?_
  refine ly_nextBond T hK hP hS (fun _ h => h) (by omega) (w := (-1)) (by unfold qNextBond; rw [if_neg (by omega)]) mw_3_151 ⟨Nat.le_of_ble_eq_true rfl, Nat.le_of_ble_eq_true rfl⟩ hl.1 (Nat.le_of_ble_eq_true rfl) ⟨Nat.zero_le _, Nat.zero_le _⟩ dL_refused_185 (fun H locs hP hS => ?_)
  refine xv_iconst T dL_refused_188 ?_
  refine xv_icmp_ne T (by omega) (tgt := 196) dL_refused_189 (by decide) (fun c15 => absurd c15 (by omega)) (fun _ => ?_)
  refine xv_iconst T dL_refused_192 ?_
  refine lv_goto T.1 T.2.1 (tgt := 197) dL_refused_193 (by decide) ?_
  refine lv_istore (lv' := [(6, .int (iI 1)), (5, .int (iI (st.length : Int))), (4, .int (iI (N 5))), (3, .int (iI (N 4))), (1, .long (lI (digF N))), (0, .ref o)]) T.1 T.2.1 dL_refused_197 hl (by decide) rfl (fun ls hl => ?_)
  refine lv_iload T.1 T.2.1 dL_refused_199 (lv_at hl 0 rfl) ?_
  refine xv_if_eq T (by omega) (tgt := 445) dL_refused_201 (by decide) (fun c16 => absurd c16 (by omega)) (fun _ => ?_)
  refine lv_aload_n T.1 T.2.1 dL_refused_204 rfl (lv_at hl 5 rfl) ?_
  refine lv_iload_n T.1 T.2.1 dL_refused_205 rfl (lv_at hl 3 rfl) ?_
  refine xv_iconst T dL_refused_206 ?_
  refine xv_iconst T dL_refused_207 ?_
  refine lr_use T hK hP hS (fun _ h => h) (by omega) (by omega) (by omega) (z := (-1)) (by unfold sUse; rw [if_pos (by omega)]) (by omega) mw_2_147 ⟨Nat.le_of_ble_eq_true rfl, Nat.le_of_ble_eq_true rfl⟩ hl.1 (Nat.le_of_ble_eq_true rfl) ⟨Nat.zero_le _, Nat.zero_le _⟩ dL_refused_208 (fun H locs hP hS => ?_)
  refine xv_iconst T dL_refused_211 ?_
  refine xv_icmp_ne T (by omega) (tgt := 445) dL_refused_212 (by decide) (fun c17 => absurd c17 (by omega)) (fun _ => ?_)
  refine lv_aload_n T.1 T.2.1 dL_refused_215 rfl (lv_at hl 5 rfl) ?_
  refine xv_iconst T dL_refused_216 ?_
  refine lv_iload T.1 T.2.1 dL_refused_217 (lv_at hl 2 rfl) ?_
  refine xv_iconst T dL_refused_219 ?_
  refine lr_bring T hK hP hS (fun _ h => h) (by omega) (by omega) (by omega) (z := (-1)) (by unfold sBring; rw [if_pos (by omega)]) (by omega) mw_2_176 ⟨Nat.le_of_ble_eq_true rfl, Nat.le_of_ble_eq_true rfl⟩ hl.1 (Nat.le_of_ble_eq_true rfl) ⟨Nat.zero_le _, Nat.zero_le _⟩ dL_refused_220 (fun H locs hP hS => ?_)
  refine xv_iconst T dL_refused_223 ?_
  refine xv_icmp_ne T (by omega) (tgt := 445) dL_refused_224 (by decide) (fun c18 => absurd c18 (by omega)) (fun _ => ?_)
  refine lv_aload_n T.1 T.2.1 dL_refused_227 rfl (lv_at hl 5 rfl) ?_
  refine lv_iload_n T.1 T.2.1 dL_refused_228 rfl (lv_at hl 3 rfl) ?_
  refine xv_iconst T dL_refused_229 ?_
  refine xv_iconst T dL_refused_230 ?_
  refine xv_iconst T dL_refused_231 ?_
  refine lr_smash T hK hP hS (fun _ h => h) (by omega) (by omega) (by omega) (by omega) (z := (-1)) (by unfold sSmash; rw [if_pos (by omega)]) (by omega) mw_2_184 ⟨Nat.le_of_ble_eq_true rfl, Nat.le_of_ble_eq_true rfl⟩ hl.1 (Nat.le_of_ble_eq_true rfl) ⟨Nat.zero_le _, Nat.zero_le _⟩ dL_refused_232 (fun H locs hP hS => ?_)
  refine xv_iconst T dL_refused_235 ?_
  refine xv_icmp_ne T (by omega) (tgt := 445) dL_refused_236 (by decide) (fun c19 => absurd c19 (by omega)) (fun _ => ?_)
  refine lv_aload_n T.1 T.2.1 dL_refused_239 rfl (lv_at hl 5 rfl) ?_
  refine lv_iload_n T.1 T.2.1 dL_refused_240 rfl (lv_at hl 3 rfl) ?_
  refine lr_tear T hK hP hS (fun _ h => h) (by omega) (z := (-1)) (by unfold sTear; rw [if_pos (by omega)]) (by omega) mw_2_192 ⟨Nat.le_of_ble_eq_true rfl, Nat.le_of_ble_eq_true rfl⟩ hl.1 (Nat.le_of_ble_eq_true rfl) ⟨Nat.zero_le _, Nat.zero_le _⟩ dL_refused_241 (fun H locs hP hS => ?_)
  refine xv_iconst T dL_refused_244 ?_
  refine xv_icmp_ne T (by omega) (tgt := 445) dL_refused_245 (by decide) (fun c20 => absurd c20 (by omega)) (fun _ => ?_)
  refine lv_aload_n T.1 T.2.1 dL_refused_248 rfl (lv_at hl 5 rfl) ?_
  refine xv_iconst T dL_refused_249 ?_
  refine lr_inspect T hK hP hS (fun _ h => h) (by omega) (z := (-1)) (by unfold sInspect; rw [if_pos (by omega)]) (by omega) mw_2_200 ⟨Nat.le_of_ble_eq_true rfl, Nat.le_of_ble_eq_true rfl⟩ hl.1 (Nat.le_of_ble_eq_true rfl) ⟨Nat.zero_le _, Nat.zero_le _⟩ dL_refused_250 (fun H locs hP hS => ?_)
  refine xv_iconst T dL_refused_253 ?_
  refine xv_icmp_ne T (by omega) (tgt := 445) dL_refused_254 (by decide) (fun c21 => absurd c21 (by omega)) (fun _ => ?_)
  refine lv_aload_n T.1 T.2.1 dL_refused_257 rfl (lv_at hl 5 rfl) ?_
  refine xv_iconst T dL_refused_258 ?_
  refine lr_cross T hK hP hS (fun _ h => h) (by omega) (z := (-1)) (by unfold sCross; rw [if_pos (by omega)]) (by omega) mw_2_212 ⟨Nat.le_of_ble_eq_true rfl, Nat.le_of_ble_eq_true rfl⟩ hl.1 (Nat.le_of_ble_eq_true rfl) ⟨Nat.zero_le _, Nat.zero_le _⟩ dL_refused_259 (fun H locs hP hS => ?_)
  refine xv_iconst T dL_refused_262 ?_
  refine xv_icmp_ne T (by omega) (tgt := 445) dL_refused_263 (by decide) (fun c22 => absurd c22 (by omega)) (fun _ => ?_)
  refine lv_aload_n T.1 T.2.1 dL_refused_266 rfl (lv_at hl 5 rfl) ?_
  refine xv_iconst T dL_refused_267 ?_
  refine lr_cross T hK hP hS (fun _ h => h) (by omega) (z := (-1)) (by unfold sCross; rw [if_pos (by omega)]) (by omega) mw_2_212 ⟨Nat.le_of_ble_eq_true rfl, Nat.le_of_ble_eq_true rfl⟩ hl.1 (Nat.le_of_ble_eq_true rfl) ⟨Nat.zero_le _, Nat.zero_le _⟩ dL_refused_268 (fun H locs hP hS => ?_)
  refine xv_iconst T dL_refused_271 ?_
  refine xv_icmp_ne T (by omega) (tgt := 445) dL_refused_272 (by decide) (fun c23 => absurd c23 (by omega)) (fun _ => ?_)
  refine lv_aload_n T.1 T.2.1 dL_refused_275 rfl (lv_at hl 5 rfl) ?_
  refine lv_aload_n T.1 T.2.1 dL_refused_276 rfl (lv_at hl 5 rfl) ?_
  refine xv_iconst T dL_refused_277 ?_
  refine ly_count T hK hP hS (fun _ h => h) (by omega) (w := N 0) rfl mw_3_50 ⟨Nat.le_of_ble_eq_true rfl, Nat.le_of_ble_eq_true rfl⟩ hl.1 (Nat.le_of_ble_eq_true rfl) ⟨Nat.zero_le _, Nat.zero_le _⟩ dL_refused_278 (fun H locs hP hS => ?_)
  refine lr_cross T hK hP hS (fun _ h => h) (by omega) (z := (-2)) (by unfold sCross; rw [if_neg (by omega), if_pos (by omega)]) (by omega) mw_2_212 ⟨Nat.le_of_ble_eq_true rfl, Nat.le_of_ble_eq_true rfl⟩ hl.1 (Nat.le_of_ble_eq_true rfl) ⟨Nat.zero_le _, Nat.zero_le _⟩ dL_refused_281 (fun H locs hP hS => ?_)
  refine xv_bipush T dL_refused_284 (by omega) ?_
  refine xv_icmp_ne T (by omega) (tgt := 445) dL_refused_286 (by decide) (fun c24 => absurd c24 (by omega)) (fun _ => ?_)
  refine lv_aload_n T.1 T.2.1 dL_refused_289 rfl (lv_at hl 5 rfl) ?_
  refine xv_iconst T dL_refused_290 ?_
  refine lr_pass T hK hP hS (fun _ h => h) (by omega) (z := (-1)) (by unfold sPass; rw [if_pos (by omega)]) (by omega) mw_2_232 ⟨Nat.le_of_ble_eq_true rfl, Nat.le_of_ble_eq_true rfl⟩ hl.1 (Nat.le_of_ble_eq_true rfl) ⟨Nat.zero_le _, Nat.zero_le _⟩ dL_refused_291 (fun H locs hP hS => ?_)
  refine xv_iconst T dL_refused_294 ?_
  refine xv_icmp_ne T (by omega) (tgt := 445) dL_refused_295 (by decide) (fun c25 => absurd c25 (by omega)) (fun _ => ?_)
  refine lv_aload_n T.1 T.2.1 dL_refused_298 rfl (lv_at hl 5 rfl) ?_
  refine xv_bipush T dL_refused_299 (by omega) ?_
  refine lr_pass T hK hP hS (fun _ h => h) (by omega) (z := (-1)) (by unfold sPass; rw [if_pos (by omega)]) (by omega) mw_2_232 ⟨Nat.le_of_ble_eq_true rfl, Nat.le_of_ble_eq_true rfl⟩ hl.1 (Nat.le_of_ble_eq_true rfl) ⟨Nat.zero_le _, Nat.zero_le _⟩ dL_refused_301 (fun H locs hP hS => ?_)
  refine xv_iconst T dL_refused_304 ?_
  refine xv_icmp_ne T (by omega) (tgt := 445) dL_refused_305 (by decide) (fun c26 => absurd c26 (by omega)) (fun _ => ?_)
  refine lv_aload_n T.1 T.2.1 dL_refused_308 rfl (lv_at hl 5 rfl) ?_
  refine xv_iconst T dL_refused_309 ?_
  refine xv_iconst T dL_refused_310 ?_
  refine lr_set T hK hP hS (fun _ h => h) (by omega) (by omega) (z := (-1)) (by unfold sSet; rw [if_pos (fun h => absurd h.1.2 (by omega))]) (by omega) mw_3_15 ⟨Nat.le_of_ble_eq_true rfl, Nat.le_of_ble_eq_true rfl⟩ hl.1 (Nat.le_of_ble_eq_true rfl) ⟨Nat.zero_le _, Nat.zero_le _⟩ dL_refused_311 (fun H locs hP hS => ?_)
  refine xv_iconst T dL_refused_314 ?_
  refine xv_icmp_ne T (by omega) (tgt := 445) dL_refused_315 (by decide) (fun c27 => absurd c27 (by omega)) (fun _ => ?_)
  refine lv_aload_n T.1 T.2.1 dL_refused_318 rfl (lv_at hl 5 rfl) ?_
  refine xv_iconst T dL_refused_319 ?_
  refine xv_iconst T dL_refused_320 ?_
  refine lr_set T hK hP hS (fun _ h => h) (by omega) (by omega) (z := (-1)) (by unfold sSet; rw [if_pos (fun h => absurd h.2.1 (by omega))]) (by omega) mw_3_15 ⟨Nat.le_of_ble_eq_true rfl, Nat.le_of_ble_eq_true rfl⟩ hl.1 (Nat.le_of_ble_eq_true rfl) ⟨Nat.zero_le _, Nat.zero_le _⟩ dL_refused_321 (fun H locs hP hS => ?_)
  refine xv_iconst T dL_refused_324 ?_
  refine xv_icmp_ne T (by omega) (tgt := 445) dL_refused_325 (by decide) (fun c28 => absurd c28 (by omega)) (fun _ => ?_)
  refine lv_aload_n T.1 T.2.1 dL_refused_328 rfl (lv_at hl 5 rfl) ?_
  refine xv_iconst T dL_refused_329 ?_
  refine xv_ldc T mw_3_164 (n := 100001) (by decide +kernel) dL_refused_330 ?_
  refine lr_set T hK hP hS (fun _ h => h) (by omega) (by omega) (z := (-1)) (by unfold sSet; rw [if_pos (fun h => absurd h.2.2 (by decide))]) (by omega) mw_3_15 ⟨Nat.le_of_ble_eq_true rfl, Nat.le_of_ble_eq_true rfl⟩ hl.1 (Nat.le_of_ble_eq_true rfl) ⟨Nat.zero_le _, Nat.zero_le _⟩ dL_refused_332 (fun H locs hP hS => ?_)
  refine xv_iconst T dL_refused_335 ?_
  refine xv_icmp_ne T (by omega) (tgt := 445) dL_refused_336 (by decide) (fun c29 => absurd c29 (by omega)) (fun _ => ?_)
  refine lv_aload_n T.1 T.2.1 dL_refused_339 rfl (lv_at hl 5 rfl) ?_
  refine xv_iconst T dL_refused_340 ?_
  refine xv_iconst T dL_refused_341 ?_
  refine lr_set T hK hP hS (fun _ h => h) (by omega) (by omega) (z := (-1)) (by unfold sSet; rw [if_pos (fun h => absurd h.2.1 (by omega))]) (by omega) mw_3_15 ⟨Nat.le_of_ble_eq_true rfl, Nat.le_of_ble_eq_true rfl⟩ hl.1 (Nat.le_of_ble_eq_true rfl) ⟨Nat.zero_le _, Nat.zero_le _⟩ dL_refused_342 (fun H locs hP hS => ?_)
  refine xv_iconst T dL_refused_345 ?_
  refine xv_icmp_ne T (by omega) (tgt := 445) dL_refused_346 (by decide) (fun c30 => absurd c30 (by omega)) (fun _ => ?_)
  refine lv_aload_n T.1 T.2.1 dL_refused_349 rfl (lv_at hl 5 rfl) ?_
  refine xv_iconst T dL_refused_350 ?_
  refine xv_bipush T dL_refused_351 (by omega) ?_
  refine lr_set T hK hP hS (fun _ h => h) (by omega) (by omega) (z := (-1)) (by unfold sSet; rw [if_pos (fun h => absurd h.2.2 (by decide))]) (by omega) mw_3_15 ⟨Nat.le_of_ble_eq_true rfl, Nat.le_of_ble_eq_true rfl⟩ hl.1 (Nat.le_of_ble_eq_true rfl) ⟨Nat.zero_le _, Nat.zero_le _⟩ dL_refused_353 (fun H locs hP hS => ?_)
  refine xv_iconst T dL_refused_356 ?_
  refine xv_icmp_ne T (by omega) (tgt := 445) dL_refused_357 (by decide) (fun c31 => absurd c31 (by omega)) (fun _ => ?_)
  refine lv_aload_n T.1 T.2.1 dL_refused_360 rfl (lv_at hl 5 rfl) ?_
  refine lv_iload T.1 T.2.1 dL_refused_361 (lv_at hl 2 rfl) ?_
  refine xv_iconst T dL_refused_363 ?_
  refine ly_account T hK hP hS (fun _ h => h) (by omega) (by omega) (w := (-1)) (by unfold qAccount; rw [if_pos (by omega)]) mw_3_24 ⟨Nat.le_of_ble_eq_true rfl, Nat.le_of_ble_eq_true rfl⟩ hl.1 (Nat.le_of_ble_eq_true rfl) ⟨Nat.zero_le _, Nat.zero_le _⟩ dL_refused_364 (fun H locs hP hS => ?_)
  refine xv_iconst T dL_refused_367 ?_
  refine xv_icmp_ne T (by omega) (tgt := 445) dL_refused_368 (by decide) (fun c32 => absurd c32 (by omega)) (fun _ => ?_)
  refine lv_aload_n T.1 T.2.1 dL_refused_371 rfl (lv_at hl 5 rfl) ?_
  refine xv_bipush T dL_refused_372 (by omega) ?_
  refine ly_cents T hK hP hS (fun _ h => h) (by omega) (w := (-1)) (by unfold qCents; rw [if_pos (by omega)]) mw_3_37 ⟨Nat.le_of_ble_eq_true rfl, Nat.le_of_ble_eq_true rfl⟩ hl.1 (Nat.le_of_ble_eq_true rfl) ⟨Nat.zero_le _, Nat.zero_le _⟩ dL_refused_374 (fun H locs hP hS => ?_)
  refine xv_iconst T dL_refused_377 ?_
  refine xv_icmp_ne T (by omega) (tgt := 445) dL_refused_378 (by decide) (fun c33 => absurd c33 (by omega)) (fun _ => ?_)
  refine lv_aload_n T.1 T.2.1 dL_refused_381 rfl (lv_at hl 5 rfl) ?_
  refine xv_bipush T dL_refused_382 (by omega) ?_
  refine ly_count T hK hP hS (fun _ h => h) (by omega) (w := (-1)) rfl mw_3_50 ⟨Nat.le_of_ble_eq_true rfl, Nat.le_of_ble_eq_true rfl⟩ hl.1 (Nat.le_of_ble_eq_true rfl) ⟨Nat.zero_le _, Nat.zero_le _⟩ dL_refused_384 (fun H locs hP hS => ?_)
  refine xv_iconst T dL_refused_387 ?_
  refine xv_icmp_ne T (by omega) (tgt := 445) dL_refused_388 (by decide) (fun c34 => absurd c34 (by omega)) (fun _ => ?_)
  refine lv_aload_n T.1 T.2.1 dL_refused_391 rfl (lv_at hl 5 rfl) ?_
  refine xv_bipush T dL_refused_392 (by omega) ?_
  refine ly_count T hK hP hS (fun _ h => h) (by omega) (w := (-1)) rfl mw_3_50 ⟨Nat.le_of_ble_eq_true rfl, Nat.le_of_ble_eq_true rfl⟩ hl.1 (Nat.le_of_ble_eq_true rfl) ⟨Nat.zero_le _, Nat.zero_le _⟩ dL_refused_394 (fun H locs hP hS => ?_)
  refine xv_iconst T dL_refused_397 ?_
  refine xv_icmp_ne T (by omega) (tgt := 445) dL_refused_398 (by decide) (fun c35 => absurd c35 (by omega)) (fun _ => ?_)
  refine lv_aload_n T.1 T.2.1 dL_refused_401 rfl (lv_at hl 5 rfl) ?_
  refine lv_iload T.1 T.2.1 dL_refused_402 (lv_at hl 2 rfl) ?_
  refine xv_iconst T dL_refused_404 ?_
  refine ly_worth T hK hP hS (fun _ h => h) (by omega) (by omega) (w := (-1)) (by unfold qWorth; rw [if_pos (by omega)]) mw_3_67 ⟨Nat.le_of_ble_eq_true rfl, Nat.le_of_ble_eq_true rfl⟩ hl.1 (Nat.le_of_ble_eq_true rfl) ⟨Nat.zero_le _, Nat.zero_le _⟩ dL_refused_405 (fun H locs hP hS => ?_)
  refine xv_iconst T dL_refused_408 ?_
  refine xv_icmp_ne T (by omega) (tgt := 445) dL_refused_409 (by decide) (fun c36 => absurd c36 (by omega)) (fun _ => ?_)
  refine lv_aload_n T.1 T.2.1 dL_refused_412 rfl (lv_at hl 5 rfl) ?_
  refine xv_bipush T dL_refused_413 (by omega) ?_
  refine ly_type T hK hP hS (fun _ h => h) (by omega) (by omega) mw_3_165 ⟨Nat.le_of_ble_eq_true rfl, Nat.le_of_ble_eq_true rfl⟩ hl.1 (Nat.le_of_ble_eq_true rfl) ⟨Nat.zero_le _, Nat.zero_le _⟩ dL_refused_415 (fun H locs hP hS => ?_)
  refine xv_iconst T dL_refused_418 ?_
  refine xv_icmp_ne T (by omega) (tgt := 445) dL_refused_419 (by decide) (fun c37 => absurd c37 (by omega)) (fun _ => ?_)
  refine lv_aload_n T.1 T.2.1 dL_refused_422 rfl (lv_at hl 5 rfl) ?_
  refine xv_bipush T dL_refused_423 (by omega) ?_
  refine ly_type T hK hP hS (fun _ h => h) (by omega) (by omega) mw_3_165 ⟨Nat.le_of_ble_eq_true rfl, Nat.le_of_ble_eq_true rfl⟩ hl.1 (Nat.le_of_ble_eq_true rfl) ⟨Nat.zero_le _, Nat.zero_le _⟩ dL_refused_425 (fun H locs hP hS => ?_)
  refine xv_iconst T dL_refused_428 ?_
  refine xv_icmp_ne T (by omega) (tgt := 445) dL_refused_429 (by decide) (fun c38 => absurd c38 (by omega)) (fun _ => ?_)
  refine lv_aload_n T.1 T.2.1 dL_refused_432 rfl (lv_at hl 5 rfl) ?_
  refine xv_iconst T dL_refused_433 ?_
  refine ly_fault T hK hP hS (fun _ h => h) (by omega) (w := (-1)) (if_pos (by omega)) mw_3_91 ⟨Nat.le_of_ble_eq_true rfl, Nat.le_of_ble_eq_true rfl⟩ hl.1 (Nat.le_of_ble_eq_true rfl) ⟨Nat.zero_le _, Nat.zero_le _⟩ dL_refused_434 (fun H locs hP hS => ?_)
  refine xv_iconst T dL_refused_437 ?_
  refine xv_icmp_ne T (by omega) (tgt := 445) dL_refused_438 (by decide) (fun c39 => absurd c39 (by omega)) (fun _ => ?_)
  refine xv_iconst T dL_refused_441 ?_
  refine lv_goto T.1 T.2.1 (tgt := 446) dL_refused_442 (by decide) ?_
  refine lv_istore (lv' := [(6, .int (iI 1)), (5, .int (iI (st.length : Int))), (4, .int (iI (N 5))), (3, .int (iI (N 4))), (1, .long (lI (digF N))), (0, .ref o)]) T.1 T.2.1 dL_refused_446 hl (by decide) rfl (fun ls hl => ?_)
  have jn671 : ∀ (H : Heap) (locs : List Loc) (ls : Array Slot), LwY K o N st H → va_S (Blk o 153) s.heap H locs → lv_has ls 7 [(0, .ref o), (1, .long (lI (digF N))), (4, .int (iI (N 5))), (5, .int (iI (st.length : Int))), (6, .int (iI 1))] → W p l e (rmF 8 188) s m args below meth c H locs 0 0 (MQ below (qI K (fun z (u : YT) => (poS N st) z u.1 u.2.1 ∧ yOk u) (yW K o) (Blk o 153)) args s 0 0 (Blk o 153)) (F0 m 671 ls []) := by
    intro  H locs ls  hP hS hl
    by_cases h8 : N 5 = 8
    · skip
      refine lv_iload T.1 T.2.1 dL_refused_671 (lv_at hl 4 rfl) ?_
      refine xv_if_eq T (by omega) (tgt := 735) dL_refused_673 (by decide) (fun c40 => absurd c40 (by omega)) (fun _ => ?_)
      refine lv_iload T.1 T.2.1 dL_refused_676 (lv_at hl 2 rfl) ?_
      refine xv_bipush T dL_refused_678 (by omega) ?_
      refine xv_icmp_lt T (by omega) (tgt := 693) dL_refused_680 (by decide) (fun c41 => absurd c41 (by omega)) (fun _ => ?_)
      refine lv_aload_n T.1 T.2.1 dL_refused_683 rfl (lv_at hl 0 rfl) ?_
      refine xv_iconst T dL_refused_684 ?_
      refine lr_good T hK hP hS (fun _ h => h) (by omega) (z := (-3)) (by unfold sGood; rw [if_neg (by omega), if_pos (by omega)]) (by omega) mw_2_72 ⟨Nat.le_of_ble_eq_true rfl, Nat.le_of_ble_eq_true rfl⟩ hl.1 (Nat.le_of_ble_eq_true rfl) ⟨Nat.zero_le _, Nat.zero_le _⟩ dL_refused_685 (fun H locs hP hS => ?_)
      refine xv_bipush T dL_refused_688 (by omega) ?_
      refine xv_icmp_ne T (by omega) (tgt := 735) dL_refused_690 (by decide) (fun c42 => absurd c42 (by omega)) (fun _ => ?_)
      refine lv_iload T.1 T.2.1 dL_refused_693 (lv_at hl 2 rfl) ?_
      refine xv_bipush T dL_refused_695 (by omega) ?_
      refine xv_icmp_eq T (by omega) (tgt := 711) dL_refused_697 (by decide) (fun _ => ?_) (fun c43 => absurd c43 (by omega))
      refine lv_aload_n T.1 T.2.1 dL_refused_711 rfl (lv_at hl 0 rfl) ?_
      refine xv_bipush T dL_refused_712 (by omega) ?_
      refine ly_count T hK hP hS (fun _ h => h) (by omega) (w := (st.length : Int)) rfl mw_3_50 ⟨Nat.le_of_ble_eq_true rfl, Nat.le_of_ble_eq_true rfl⟩ hl.1 (Nat.le_of_ble_eq_true rfl) ⟨Nat.zero_le _, Nat.zero_le _⟩ dL_refused_714 (fun H locs hP hS => ?_)
      refine lv_iload T.1 T.2.1 dL_refused_717 (lv_at hl 3 rfl) ?_
      refine xv_icmp_ne T (by omega) (tgt := 735) dL_refused_719 (by decide) (fun c44 => absurd c44 (by omega)) (fun _ => ?_)
      refine lv_aload_n T.1 T.2.1 dL_refused_722 rfl (lv_at hl 0 rfl) ?_
      refine lyS_L T hK hP hS (fun _ h => h) (c_L_print l K o N st) iL_print mw_3_141 ⟨Nat.le_of_ble_eq_true rfl, Nat.le_of_ble_eq_true rfl⟩ hl.1 (Nat.le_of_ble_eq_true rfl) ⟨Nat.zero_le _, Nat.zero_le _⟩ dL_refused_723 (fun z9 N9 st9 H locs q9 hP hS => ?_)
      obtain ⟨hz9, hN9, hs9⟩ := q9
      subst hz9
      subst hN9
      subst hs9
      refine lv_lload_n T.1 T.2.1 dL_refused_726 rfl (lv_at hl 1 rfl) ?_
      refine xv_lcmp_ne T (tgt := 735) dL_refused_727 dL_refused_728 (by decide) (fun c => absurd (congrArg lI (rfl : digF N = digF N)) c) (fun _ => ?_)
      refine xv_iconst T dL_refused_731 ?_
      refine lv_goto T.1 T.2.1 (tgt := 736) dL_refused_732 (by decide) ?_
      exact ryB T hr hk hK hP hS (by omega) dL_refused_736 ⟨rfl, rfl, rfl⟩
    · skip
      refine lv_iload T.1 T.2.1 dL_refused_671 (lv_at hl 4 rfl) ?_
      refine xv_if_eq T (by omega) (tgt := 735) dL_refused_673 (by decide) (fun c45 => absurd c45 (by omega)) (fun _ => ?_)
      refine lv_iload T.1 T.2.1 dL_refused_676 (lv_at hl 2 rfl) ?_
      refine xv_bipush T dL_refused_678 (by omega) ?_
      refine xv_icmp_lt T (by omega) (tgt := 693) dL_refused_680 (by decide) (fun _ => ?_) (fun c46 => absurd c46 (by omega))
      refine lv_iload T.1 T.2.1 dL_refused_693 (lv_at hl 2 rfl) ?_
      refine xv_bipush T dL_refused_695 (by omega) ?_
      refine xv_icmp_eq T (by omega) (tgt := 711) dL_refused_697 (by decide) (fun c47 => absurd c47 (by omega)) (fun _ => ?_)
      refine lv_aload_n T.1 T.2.1 dL_refused_700 rfl (lv_at hl 0 rfl) ?_
      refine xv_iconst T dL_refused_701 ?_
      refine xv_bipush T dL_refused_702 (by omega) ?_
      refine ly_lockerOf T hK hP hS (fun _ h => h) (by omega) (by omega) (w := (-1)) (by unfold qLockerOf; rw [if_pos (by omega)]) mw_2_123 ⟨Nat.le_of_ble_eq_true rfl, Nat.le_of_ble_eq_true rfl⟩ hl.1 (Nat.le_of_ble_eq_true rfl) ⟨Nat.zero_le _, Nat.zero_le _⟩ dL_refused_704 (fun H locs hP hS => ?_)
      refine xv_iconst T dL_refused_707 ?_
      refine xv_icmp_ne T (by omega) (tgt := 735) dL_refused_708 (by decide) (fun c48 => absurd c48 (by omega)) (fun _ => ?_)
      refine lv_aload_n T.1 T.2.1 dL_refused_711 rfl (lv_at hl 0 rfl) ?_
      refine xv_bipush T dL_refused_712 (by omega) ?_
      refine ly_count T hK hP hS (fun _ h => h) (by omega) (w := (st.length : Int)) rfl mw_3_50 ⟨Nat.le_of_ble_eq_true rfl, Nat.le_of_ble_eq_true rfl⟩ hl.1 (Nat.le_of_ble_eq_true rfl) ⟨Nat.zero_le _, Nat.zero_le _⟩ dL_refused_714 (fun H locs hP hS => ?_)
      refine lv_iload T.1 T.2.1 dL_refused_717 (lv_at hl 3 rfl) ?_
      refine xv_icmp_ne T (by omega) (tgt := 735) dL_refused_719 (by decide) (fun c49 => absurd c49 (by omega)) (fun _ => ?_)
      refine lv_aload_n T.1 T.2.1 dL_refused_722 rfl (lv_at hl 0 rfl) ?_
      refine lyS_L T hK hP hS (fun _ h => h) (c_L_print l K o N st) iL_print mw_3_141 ⟨Nat.le_of_ble_eq_true rfl, Nat.le_of_ble_eq_true rfl⟩ hl.1 (Nat.le_of_ble_eq_true rfl) ⟨Nat.zero_le _, Nat.zero_le _⟩ dL_refused_723 (fun z9 N9 st9 H locs q9 hP hS => ?_)
      obtain ⟨hz9, hN9, hs9⟩ := q9
      subst hz9
      subst hN9
      subst hs9
      refine lv_lload_n T.1 T.2.1 dL_refused_726 rfl (lv_at hl 1 rfl) ?_
      refine xv_lcmp_ne T (tgt := 735) dL_refused_727 dL_refused_728 (by decide) (fun c => absurd (congrArg lI (rfl : digF N = digF N)) c) (fun _ => ?_)
      refine xv_iconst T dL_refused_731 ?_
      refine lv_goto T.1 T.2.1 (tgt := 736) dL_refused_732 (by decide) ?_
      exact ryB T hr hk hK hP hS (by omega) dL_refused_736 ⟨rfl, rfl, rfl⟩
  refine lv_iload_n T.1 T.2.1 dL_refused_448 rfl (lv_at hl 3 rfl) ?_
  refine xv_if_le T (by omega) (tgt := 671) dL_refused_449 (by decide) (fun c50 => ?_) (fun c50 => ?_)
  · skip
    exact jn671  _ _ ls  hP hS (lv_sub hl [5, 4, 2, 1, 0] rfl)
  · skip
    refine lv_iload T.1 T.2.1 dL_refused_452 (lv_at hl 2 rfl) ?_
    refine xv_if_le T (by omega) (tgt := 671) dL_refused_454 (by decide) (fun c51 => ?_) (fun c51 => ?_)
    · skip
      exact jn671  _ _ ls  hP hS (lv_sub hl [5, 4, 2, 1, 0] rfl)
    · skip
      refine lv_iload T.1 T.2.1 dL_refused_457 (lv_at hl 0 rfl) ?_
      refine xv_if_eq T (by omega) (tgt := 567) dL_refused_459 (by decide) (fun c52 => absurd c52 (by omega)) (fun _ => ?_)
      refine lv_aload_n T.1 T.2.1 dL_refused_462 rfl (lv_at hl 5 rfl) ?_
      refine xv_iconst T dL_refused_463 ?_
      refine xv_iconst T dL_refused_464 ?_
      refine xv_iconst T dL_refused_465 ?_
      refine lr_load T hK hP hS (fun _ h => h) (by omega) (by omega) (by omega) (z := (-1)) (by unfold sLoad; rw [if_pos (by omega)]) (by omega) mw_2_85 ⟨Nat.le_of_ble_eq_true rfl, Nat.le_of_ble_eq_true rfl⟩ hl.1 (Nat.le_of_ble_eq_true rfl) ⟨Nat.zero_le _, Nat.zero_le _⟩ dL_refused_466 (fun H locs hP hS => ?_)
      refine xv_iconst T dL_refused_469 ?_
      refine xv_icmp_ne T (by omega) (tgt := 567) dL_refused_470 (by decide) (fun c53 => absurd c53 (by omega)) (fun _ => ?_)
      refine lv_aload_n T.1 T.2.1 dL_refused_473 rfl (lv_at hl 5 rfl) ?_
      refine xv_iconst T dL_refused_474 ?_
      refine xv_iconst T dL_refused_475 ?_
      refine xv_sipush T dL_refused_476 (by omega) ?_
      refine lr_load T hK hP hS (fun _ h => h) (by omega) (by omega) (by omega) (z := (-1)) (by unfold sLoad; rw [if_pos (by omega)]) (by omega) mw_2_85 ⟨Nat.le_of_ble_eq_true rfl, Nat.le_of_ble_eq_true rfl⟩ hl.1 (Nat.le_of_ble_eq_true rfl) ⟨Nat.zero_le _, Nat.zero_le _⟩ dL_refused_479 (fun H locs hP hS => ?_)
      refine xv_iconst T dL_refused_482 ?_
      refine xv_icmp_ne T (by omega) (tgt := 567) dL_refused_483 (by decide) (fun c54 => absurd c54 (by omega)) (fun _ => ?_)
      refine lv_aload_n T.1 T.2.1 dL_refused_486 rfl (lv_at hl 5 rfl) ?_
      refine xv_iconst T dL_refused_487 ?_
      refine xv_iconst T dL_refused_488 ?_
      refine xv_iconst T dL_refused_489 ?_
      refine lr_use T hK hP hS (fun _ h => h) (by omega) (by omega) (by omega) (z := (-1)) (by unfold sUse; rw [if_pos (by omega)]) (by omega) mw_2_147 ⟨Nat.le_of_ble_eq_true rfl, Nat.le_of_ble_eq_true rfl⟩ hl.1 (Nat.le_of_ble_eq_true rfl) ⟨Nat.zero_le _, Nat.zero_le _⟩ dL_refused_490 (fun H locs hP hS => ?_)
      refine xv_iconst T dL_refused_493 ?_
      refine xv_icmp_ne T (by omega) (tgt := 567) dL_refused_494 (by decide) (fun c55 => absurd c55 (by omega)) (fun _ => ?_)
      refine lv_aload_n T.1 T.2.1 dL_refused_497 rfl (lv_at hl 5 rfl) ?_
      refine xv_iconst T dL_refused_498 ?_
      refine xv_iconst T dL_refused_499 ?_
      refine xv_iconst T dL_refused_500 ?_
      refine xv_bipush T dL_refused_501 (by omega) ?_
      refine lr_smash T hK hP hS (fun _ h => h) (by omega) (by omega) (by omega) (by omega) (z := (-1)) (by unfold sSmash; rw [if_pos (by omega)]) (by omega) mw_2_184 ⟨Nat.le_of_ble_eq_true rfl, Nat.le_of_ble_eq_true rfl⟩ hl.1 (Nat.le_of_ble_eq_true rfl) ⟨Nat.zero_le _, Nat.zero_le _⟩ dL_refused_503 (fun H locs hP hS => ?_)
      refine xv_iconst T dL_refused_506 ?_
      refine xv_icmp_ne T (by omega) (tgt := 567) dL_refused_507 (by decide) (fun c56 => absurd c56 (by omega)) (fun _ => ?_)
      refine lv_aload_n T.1 T.2.1 dL_refused_510 rfl (lv_at hl 5 rfl) ?_
      refine xv_iconst T dL_refused_511 ?_
      refine xv_bipush T dL_refused_512 (by omega) ?_
      refine ly_lockerOf T hK hP hS (fun _ h => h) (by omega) (by omega) (w := (-1)) (by unfold qLockerOf; rw [if_pos (by omega)]) mw_2_123 ⟨Nat.le_of_ble_eq_true rfl, Nat.le_of_ble_eq_true rfl⟩ hl.1 (Nat.le_of_ble_eq_true rfl) ⟨Nat.zero_le _, Nat.zero_le _⟩ dL_refused_514 (fun H locs hP hS => ?_)
      refine xv_iconst T dL_refused_517 ?_
      refine xv_icmp_ne T (by omega) (tgt := 567) dL_refused_518 (by decide) (fun c57 => absurd c57 (by omega)) (fun _ => ?_)
      refine lv_aload_n T.1 T.2.1 dL_refused_521 rfl (lv_at hl 5 rfl) ?_
      refine xv_iconst T dL_refused_522 ?_
      refine xv_bipush T dL_refused_523 (by omega) ?_
      refine ly_account T hK hP hS (fun _ h => h) (by omega) (by omega) (w := (-1)) (by unfold qAccount; rw [if_pos (by omega)]) mw_3_24 ⟨Nat.le_of_ble_eq_true rfl, Nat.le_of_ble_eq_true rfl⟩ hl.1 (Nat.le_of_ble_eq_true rfl) ⟨Nat.zero_le _, Nat.zero_le _⟩ dL_refused_525 (fun H locs hP hS => ?_)
      refine xv_iconst T dL_refused_528 ?_
      refine xv_icmp_ne T (by omega) (tgt := 567) dL_refused_529 (by decide) (fun c58 => absurd c58 (by omega)) (fun _ => ?_)
      refine lv_aload_n T.1 T.2.1 dL_refused_532 rfl (lv_at hl 5 rfl) ?_
      refine xv_iconst T dL_refused_533 ?_
      refine xv_iconst T dL_refused_534 ?_
      refine ly_worth T hK hP hS (fun _ h => h) (by omega) (by omega) (w := (-1)) (by unfold qWorth; rw [if_pos (by omega)]) mw_3_67 ⟨Nat.le_of_ble_eq_true rfl, Nat.le_of_ble_eq_true rfl⟩ hl.1 (Nat.le_of_ble_eq_true rfl) ⟨Nat.zero_le _, Nat.zero_le _⟩ dL_refused_535 (fun H locs hP hS => ?_)
      refine xv_iconst T dL_refused_538 ?_
      refine xv_icmp_ne T (by omega) (tgt := 567) dL_refused_539 (by decide) (fun c59 => absurd c59 (by omega)) (fun _ => ?_)
      refine lv_aload_n T.1 T.2.1 dL_refused_542 rfl (lv_at hl 5 rfl) ?_
      refine xv_iconst T dL_refused_543 ?_
      refine xv_ldc T mw_3_173 (n := 100000) (by decide +kernel) dL_refused_544 ?_
      refine ly_worth T hK hP hS (fun _ h => h) (by omega) (by omega) (w := (-1)) (by unfold qWorth; rw [if_pos (by omega)]) mw_3_67 ⟨Nat.le_of_ble_eq_true rfl, Nat.le_of_ble_eq_true rfl⟩ hl.1 (Nat.le_of_ble_eq_true rfl) ⟨Nat.zero_le _, Nat.zero_le _⟩ dL_refused_546 (fun H locs hP hS => ?_)
      refine xv_iconst T dL_refused_549 ?_
      refine xv_icmp_ne T (by omega) (tgt := 567) dL_refused_550 (by decide) (fun c60 => absurd c60 (by omega)) (fun _ => ?_)
      refine lv_aload_n T.1 T.2.1 dL_refused_553 rfl (lv_at hl 5 rfl) ?_
      refine xv_iconst T dL_refused_554 ?_
      refine xv_iconst T dL_refused_555 ?_
      refine lr_duty T hK hP hS (fun _ h => h) (by omega) (by omega) (z := (-1)) (by unfold sDuty; rw [if_pos (by omega)]) (by omega) mw_3_156 ⟨Nat.le_of_ble_eq_true rfl, Nat.le_of_ble_eq_true rfl⟩ hl.1 (Nat.le_of_ble_eq_true rfl) ⟨Nat.zero_le _, Nat.zero_le _⟩ dL_refused_556 (fun H locs hP hS => ?_)
      refine xv_iconst T dL_refused_559 ?_
      refine xv_icmp_ne T (by omega) (tgt := 567) dL_refused_560 (by decide) (fun c61 => absurd c61 (by omega)) (fun _ => ?_)
      refine xv_iconst T dL_refused_563 ?_
      refine lv_goto T.1 T.2.1 (tgt := 568) dL_refused_564 (by decide) ?_
      refine lv_istore (lv' := [(6, .int (iI 1)), (5, .int (iI (st.length : Int))), (4, .int (iI (N 5))), (3, .int (iI (N 4))), (1, .long (lI (digF N))), (0, .ref o)]) T.1 T.2.1 dL_refused_568 hl (by decide) rfl (fun ls hl => ?_)
      refine lv_iload T.1 T.2.1 dL_refused_570 (lv_at hl 0 rfl) ?_
      refine xv_if_eq T (by omega) (tgt := 668) dL_refused_572 (by decide) (fun c62 => absurd c62 (by omega)) (fun _ => ?_)
      refine lv_aload_n T.1 T.2.1 dL_refused_575 rfl (lv_at hl 5 rfl) ?_
      refine xv_iconst T dL_refused_576 ?_
      refine ly_count T hK hP hS (fun _ h => h) (by omega) (w := N 0) rfl mw_3_50 ⟨Nat.le_of_ble_eq_true rfl, Nat.le_of_ble_eq_true rfl⟩ hl.1 (Nat.le_of_ble_eq_true rfl) ⟨Nat.zero_le _, Nat.zero_le _⟩ dL_refused_577 (fun H locs hP hS => ?_)
      refine xv_if_ne T (by omega) (tgt := 639) dL_refused_580 (by decide) (fun c63 => ?_) (fun c63 => ?_)
      · skip
        refine lv_aload_n T.1 T.2.1 dL_refused_639 rfl (lv_at hl 5 rfl) ?_
        refine xv_iconst T dL_refused_640 ?_
        refine xv_iconst T dL_refused_641 ?_
        refine xv_iconst T dL_refused_642 ?_
        refine lr_use T hK hP hS (fun _ h => h) (by omega) (by omega) (by omega) (z := (-2)) (by unfold sUse; rw [if_neg (by omega), if_pos (by omega)]) (by omega) mw_2_147 ⟨Nat.le_of_ble_eq_true rfl, Nat.le_of_ble_eq_true rfl⟩ hl.1 (Nat.le_of_ble_eq_true rfl) ⟨Nat.zero_le _, Nat.zero_le _⟩ dL_refused_643 (fun H locs hP hS => ?_)
        refine xv_bipush T dL_refused_646 (by omega) ?_
        refine xv_icmp_ne T (by omega) (tgt := 668) dL_refused_648 (by decide) (fun c64 => absurd c64 (by omega)) (fun _ => ?_)
        refine lv_aload_n T.1 T.2.1 dL_refused_651 rfl (lv_at hl 5 rfl) ?_
        refine xv_iconst T dL_refused_652 ?_
        refine xv_iconst T dL_refused_653 ?_
        refine xv_iconst T dL_refused_654 ?_
        refine xv_iconst T dL_refused_655 ?_
        refine lr_smash T hK hP hS (fun _ h => h) (by omega) (by omega) (by omega) (by omega) (z := (-2)) (by unfold sSmash; rw [if_neg (by omega), if_pos (by omega)]) (by omega) mw_2_184 ⟨Nat.le_of_ble_eq_true rfl, Nat.le_of_ble_eq_true rfl⟩ hl.1 (Nat.le_of_ble_eq_true rfl) ⟨Nat.zero_le _, Nat.zero_le _⟩ dL_refused_656 (fun H locs hP hS => ?_)
        refine xv_bipush T dL_refused_659 (by omega) ?_
        refine xv_icmp_ne T (by omega) (tgt := 668) dL_refused_661 (by decide) (fun c65 => absurd c65 (by omega)) (fun _ => ?_)
        refine xv_iconst T dL_refused_664 ?_
        refine lv_goto T.1 T.2.1 (tgt := 669) dL_refused_665 (by decide) ?_
        refine lv_istore (lv' := [(6, .int (iI 1)), (5, .int (iI (st.length : Int))), (4, .int (iI (N 5))), (3, .int (iI (N 4))), (1, .long (lI (digF N))), (0, .ref o)]) T.1 T.2.1 dL_refused_669 hl (by decide) rfl (fun ls hl => ?_)
        exact jn671  _ _ ls  hP hS (lv_sub hl [5, 4, 2, 1, 0] rfl)
      · skip
        have h14 : N (14 + 0) = 0 := hZ c63 0 (by omega) (by omega)
        refine lv_aload_n T.1 T.2.1 dL_refused_583 rfl (lv_at hl 5 rfl) ?_
        refine xv_iconst T dL_refused_584 ?_
        refine xv_iconst T dL_refused_585 ?_
        refine xv_iconst T dL_refused_586 ?_
        refine lr_load T hK hP hS (fun _ h => h) (by omega) (by omega) (by omega) (z := (-2)) (by unfold sLoad; rw [if_neg (by omega), if_pos (by omega)]) (by omega) mw_2_85 ⟨Nat.le_of_ble_eq_true rfl, Nat.le_of_ble_eq_true rfl⟩ hl.1 (Nat.le_of_ble_eq_true rfl) ⟨Nat.zero_le _, Nat.zero_le _⟩ dL_refused_587 (fun H locs hP hS => ?_)
        refine xv_bipush T dL_refused_590 (by omega) ?_
        refine xv_icmp_ne T (by omega) (tgt := 668) dL_refused_592 (by decide) (fun c66 => absurd c66 (by omega)) (fun _ => ?_)
        refine lv_aload_n T.1 T.2.1 dL_refused_595 rfl (lv_at hl 5 rfl) ?_
        refine xv_iconst T dL_refused_596 ?_
        refine xv_iconst T dL_refused_597 ?_
        refine xv_iconst T dL_refused_598 ?_
        refine lr_bring T hK hP hS (fun _ h => h) (by omega) (by omega) (by omega) (z := (-2)) (by unfold sBring; rw [if_neg (by omega), if_pos (by omega)]) (by omega) mw_2_176 ⟨Nat.le_of_ble_eq_true rfl, Nat.le_of_ble_eq_true rfl⟩ hl.1 (Nat.le_of_ble_eq_true rfl) ⟨Nat.zero_le _, Nat.zero_le _⟩ dL_refused_599 (fun H locs hP hS => ?_)
        refine xv_bipush T dL_refused_602 (by omega) ?_
        refine xv_icmp_ne T (by omega) (tgt := 668) dL_refused_604 (by decide) (fun c67 => absurd c67 (by omega)) (fun _ => ?_)
        refine lv_aload_n T.1 T.2.1 dL_refused_607 rfl (lv_at hl 5 rfl) ?_
        refine xv_iconst T dL_refused_608 ?_
        refine lr_inspect T hK hP hS (fun _ h => h) (by omega) (z := (-2)) (by unfold sInspect; rw [if_neg (by omega), if_pos (by omega)]) (by omega) mw_2_200 ⟨Nat.le_of_ble_eq_true rfl, Nat.le_of_ble_eq_true rfl⟩ hl.1 (Nat.le_of_ble_eq_true rfl) ⟨Nat.zero_le _, Nat.zero_le _⟩ dL_refused_609 (fun H locs hP hS => ?_)
        refine xv_bipush T dL_refused_612 (by omega) ?_
        refine xv_icmp_ne T (by omega) (tgt := 668) dL_refused_614 (by decide) (fun c68 => absurd c68 (by omega)) (fun _ => ?_)
        refine lv_aload_n T.1 T.2.1 dL_refused_617 rfl (lv_at hl 5 rfl) ?_
        refine xv_iconst T dL_refused_618 ?_
        refine lr_tear T hK hP hS (fun _ h => h) (by omega) (z := (-2)) (by unfold sTear; rw [if_neg (by omega), if_pos (by omega)]) (by omega) mw_2_192 ⟨Nat.le_of_ble_eq_true rfl, Nat.le_of_ble_eq_true rfl⟩ hl.1 (Nat.le_of_ble_eq_true rfl) ⟨Nat.zero_le _, Nat.zero_le _⟩ dL_refused_619 (fun H locs hP hS => ?_)
        refine xv_bipush T dL_refused_622 (by omega) ?_
        refine xv_icmp_ne T (by omega) (tgt := 668) dL_refused_624 (by decide) (fun c69 => absurd c69 (by omega)) (fun _ => ?_)
        refine lv_aload_n T.1 T.2.1 dL_refused_627 rfl (lv_at hl 5 rfl) ?_
        refine lr_locker T hK hP hS (fun _ h => h) (z := (-2)) (by unfold sLocker; rw [if_pos (by omega)]) (by omega) mw_2_10 ⟨Nat.le_of_ble_eq_true rfl, Nat.le_of_ble_eq_true rfl⟩ hl.1 (Nat.le_of_ble_eq_true rfl) ⟨Nat.zero_le _, Nat.zero_le _⟩ dL_refused_628 (fun H locs hP hS => ?_)
        refine xv_bipush T dL_refused_631 (by omega) ?_
        refine xv_icmp_ne T (by omega) (tgt := 668) dL_refused_633 (by decide) (fun c70 => absurd c70 (by omega)) (fun _ => ?_)
        refine lv_goto T.1 T.2.1 (tgt := 664) dL_refused_636 (by decide) ?_
        refine xv_iconst T dL_refused_664 ?_
        refine lv_goto T.1 T.2.1 (tgt := 669) dL_refused_665 (by decide) ?_
        refine lv_istore (lv' := [(6, .int (iI 1)), (5, .int (iI (st.length : Int))), (4, .int (iI (N 5))), (3, .int (iI (N 4))), (1, .long (lI (digF N))), (0, .ref o)]) T.1 T.2.1 dL_refused_669 hl (by decide) rfl (fun ls hl => ?_)
        exact jn671  _ _ ls  hP hS (lv_sub hl [5, 4, 2, 1, 0] rfl)
