section XLC
variable {p : Program} {l : Launch} {e : Env} {s : State} {m : MethodId} {below : List Frame} {meth : Method} {c : Code} {cells slots : Nat} {Q : State → Prop} {b n o : Nat} {xs : Nat → Int32} {K : KT}
set_option maxHeartbeats 4000000 in
theorem lw_c0 (T : CF p m c cL_law 4 s #[.ref b] RL) (hK : xK K s) (hXs : va_X b n xs s s.heap) (hbl : b < s.heap.size) (ho : s.heap.size ≤ o) (hn : n ≤ 2560) {i : Int} (hi : 0 ≤ i ∧ i + 5 ≤ (n : Int)) {H : Heap} {locs : List Loc} (hW : LwX K o H) (hS : va_S (fun q => s.heap.size ≤ q) s.heap H locs) {ls : Array Slot} (hl : lv_has ls 4 [(3, .int (iI i)), (2, .ref (o + 153)), (1, .ref o), (0, .ref b)]) (hcs : cells ≤ room_1.cells ∧ slots ≤ room_1.slots) (again : ∀ (H1 : Heap) (locs1 : List Loc), LwX K o H1 → va_S (fun q => s.heap.size ≤ q) s.heap H1 locs1 → W p l e room_1 s m #[.ref b] below meth c H1 locs1 cells slots Q (F0 m 914 ls [])) : W p l e room_1 s m #[.ref b] below meth c H locs cells slots Q (F0 m 160 ls []) := by
  obtain ⟨N, M, R, G, L, NU, TT, B, SS, F, hR, hX, hY⟩ := hW
  obtain ⟨hI, hH, hL0, hF2, hT, hF4, hNU⟩ := id hR
  have hG : (0 ≤ G 0 ∧ G 0 ≤ 4) ∧ (0 ≤ G 1 ∧ G 1 ≤ 4) := ⟨hH.2.1, hH.2.2.1⟩
  have hF0 : 0 ≤ F 0 ∧ F 0 ≤ 4 := by rw [hH.1]; exact hG.1
  have hF1 : 0 ≤ F 1 ∧ F 1 < 4 := hH.2.2.2.1
  have hF80 : 0 ≤ F 2 ∧ F 2 ≤ 80 := by rw [hF2]; exact hL0
  have hTF : TxT TT (F 2) := by rw [hF2]; exact hT
  have hbA : ¬ (fun q : Nat => s.heap.size ≤ q) b := Nat.not_le.mpr hbl
  refine lv_aload_n T.1 T.2.1 dL_160 rfl (lv_at hl 2 rfl) ?_
  refine cI_V T hK hX hS 0 rfl rfl rfl (c_X7_locker l K o N M R G L NU TT hI hG) iX7_locker mw_2_12 ⟨Nat.le_of_ble_eq_true rfl, Nat.le_of_ble_eq_true rfl⟩ hX (fun q a => by have h9 := a.1; omega) rfl hl.1 rfl (Nat.le_of_ble_eq_true rfl) hcs dL_161 (fun z1 u1 H1 locs q1 hX1 _ hk1 hS => ?_)
  have hY := xP_out hY (m_D _ _ _ _ _ _ _) (fun _ a b => blk_x (by omega) a b) hk1
  refine lv_aload_n T.1 T.2.1 dL_164 rfl (lv_at hl 1 rfl) ?_
  refine cI_V T hK hY hS 0 rfl rfl rfl (c_X8_locker l K (o + 153) N B SS TT F hI hF0 hF1) iX8_locker mw_3_219 ⟨Nat.le_of_ble_eq_true rfl, Nat.le_of_ble_eq_true rfl⟩ hY (fun q a => by have h9 := a.1; omega) rfl hl.1 rfl (Nat.le_of_ble_eq_true rfl) hcs dL_165 (fun z2 u2 H2 locs q2 hY2 _ hk2 hS => ?_)
  have hX9 := xP_out hX1 (xW_D _ _ _ _ _ _ _ _ _) (fun _ a b => blk_x (by omega) a b) hk2
  obtain ⟨n1, t1, g1⟩ := u1
  obtain ⟨qa, qb, qc⟩ := q1
  dsimp only at qa qb qc hX9
  subst qb
  subst qc
  obtain ⟨n2, qd, qe⟩ := q2
  subst qe
  dsimp only at hY2
  have e0 := qa.trans qd.symm
  have ez : z1 = z2 := congrArg Prod.fst e0
  have en : n1 = n2 := congrArg Prod.snd e0
  subst ez
  subst en
  have hI2 : Inv n1 := by
    have h9 := sLocker_inv hI
    rw [← qa] at h9
    exact h9
  refine xl_same T (tgt := 914) (rfl) dL_168 (by decide) ?_
  exact again _ _ ⟨_, _, _, _, _, _, _, _, _, _, rel_chg hR hI2 z1, hX9, hY2⟩ hS
set_option maxHeartbeats 4000000 in
theorem lw_c1 (T : CF p m c cL_law 4 s #[.ref b] RL) (hK : xK K s) (hXs : va_X b n xs s s.heap) (hbl : b < s.heap.size) (ho : s.heap.size ≤ o) (hn : n ≤ 2560) {i : Int} (hi : 0 ≤ i ∧ i + 5 ≤ (n : Int)) {H : Heap} {locs : List Loc} (hW : LwX K o H) (hS : va_S (fun q => s.heap.size ≤ q) s.heap H locs) {ls : Array Slot} (hl : lv_has ls 4 [(3, .int (iI i)), (2, .ref (o + 153)), (1, .ref o), (0, .ref b)]) (hcs : cells ≤ room_1.cells ∧ slots ≤ room_1.slots) (again : ∀ (H1 : Heap) (locs1 : List Loc), LwX K o H1 → va_S (fun q => s.heap.size ≤ q) s.heap H1 locs1 → W p l e room_1 s m #[.ref b] below meth c H1 locs1 cells slots Q (F0 m 914 ls [])) : W p l e room_1 s m #[.ref b] below meth c H locs cells slots Q (F0 m 173 ls []) := by
  obtain ⟨N, M, R, G, L, NU, TT, B, SS, F, hR, hX, hY⟩ := hW
  obtain ⟨hI, hH, hL0, hF2, hT, hF4, hNU⟩ := id hR
  have hG : (0 ≤ G 0 ∧ G 0 ≤ 4) ∧ (0 ≤ G 1 ∧ G 1 ≤ 4) := ⟨hH.2.1, hH.2.2.1⟩
  have hF0 : 0 ≤ F 0 ∧ F 0 ≤ 4 := by rw [hH.1]; exact hG.1
  have hF1 : 0 ≤ F 1 ∧ F 1 < 4 := hH.2.2.2.1
  have hF80 : 0 ≤ F 2 ∧ F 2 ≤ 80 := by rw [hF2]; exact hL0
  have hTF : TxT TT (F 2) := by rw [hF2]; exact hT
  have hbA : ¬ (fun q : Nat => s.heap.size ≤ q) b := Nat.not_le.mpr hbl
  obtain ⟨v1, r1, x1⟩ := iI_ex (xs (i + 1).toNat)
  refine lv_aload_n T.1 T.2.1 dL_173 rfl (lv_at hl 2 rfl) ?_
  refine lv_aload_n T.1 T.2.1 dL_174 rfl (lv_at hl 3 rfl) ?_
  refine lv_iload_n T.1 T.2.1 dL_175 rfl (lv_at hl 0 rfl) ?_
  refine xv_iconst T dL_176 ?_
  refine xv_iadd T dL_177 ?_
  refine xl_sld T hXs hbl hbA hS (z := i + 1) (by omega) hn x1 dL_178 ?_
  refine cI_V T hK hX hS 0 rfl rfl rfl (c_X7_good l K o N M R G L NU TT v1 r1 hI hG) iX7_good mw_2_74 ⟨Nat.le_of_ble_eq_true rfl, Nat.le_of_ble_eq_true rfl⟩ hX (fun q a => by have h9 := a.1; omega) rfl hl.1 rfl (Nat.le_of_ble_eq_true rfl) hcs dL_179 (fun z1 u1 H1 locs q1 hX1 _ hk1 hS => ?_)
  have hY := xP_out hY (m_D _ _ _ _ _ _ _) (fun _ a b => blk_x (by omega) a b) hk1
  refine lv_aload_n T.1 T.2.1 dL_182 rfl (lv_at hl 1 rfl) ?_
  refine lv_aload_n T.1 T.2.1 dL_183 rfl (lv_at hl 3 rfl) ?_
  refine lv_iload_n T.1 T.2.1 dL_184 rfl (lv_at hl 0 rfl) ?_
  refine xv_iconst T dL_185 ?_
  refine xv_iadd T dL_186 ?_
  refine xl_sld T hXs hbl hbA hS (z := i + 1) (by omega) hn x1 dL_187 ?_
  refine cI_V T hK hY hS 0 rfl rfl rfl (c_X8_good l K (o + 153) N B SS TT F v1 r1 hI hF0 hF1) iX8_good mw_4_3 ⟨Nat.le_of_ble_eq_true rfl, Nat.le_of_ble_eq_true rfl⟩ hY (fun q a => by have h9 := a.1; omega) rfl hl.1 rfl (Nat.le_of_ble_eq_true rfl) hcs dL_188 (fun z2 u2 H2 locs q2 hY2 _ hk2 hS => ?_)
  have hX9 := xP_out hX1 (xW_D _ _ _ _ _ _ _ _ _) (fun _ a b => blk_x (by omega) a b) hk2
  obtain ⟨n1, t1, g1⟩ := u1
  obtain ⟨qa, qb, qc⟩ := q1
  dsimp only at qa qb qc hX9
  subst qb
  subst qc
  obtain ⟨n2, qd, qe⟩ := q2
  subst qe
  dsimp only at hY2
  have e0 := qa.trans qd.symm
  have ez : z1 = z2 := congrArg Prod.fst e0
  have en : n1 = n2 := congrArg Prod.snd e0
  subst ez
  subst en
  have hI2 : Inv n1 := by
    have h9 := sGood_inv hI v1
    rw [← qa] at h9
    exact h9
  refine xl_same T (tgt := 914) (rfl) dL_191 (by decide) ?_
  exact again _ _ ⟨_, _, _, _, _, _, _, _, _, _, rel_chg hR hI2 z1, hX9, hY2⟩ hS
set_option maxHeartbeats 4000000 in
theorem lw_c2 (T : CF p m c cL_law 4 s #[.ref b] RL) (hK : xK K s) (hXs : va_X b n xs s s.heap) (hbl : b < s.heap.size) (ho : s.heap.size ≤ o) (hn : n ≤ 2560) {i : Int} (hi : 0 ≤ i ∧ i + 5 ≤ (n : Int)) {H : Heap} {locs : List Loc} (hW : LwX K o H) (hS : va_S (fun q => s.heap.size ≤ q) s.heap H locs) {ls : Array Slot} (hl : lv_has ls 4 [(3, .int (iI i)), (2, .ref (o + 153)), (1, .ref o), (0, .ref b)]) (hcs : cells ≤ room_1.cells ∧ slots ≤ room_1.slots) (again : ∀ (H1 : Heap) (locs1 : List Loc), LwX K o H1 → va_S (fun q => s.heap.size ≤ q) s.heap H1 locs1 → W p l e room_1 s m #[.ref b] below meth c H1 locs1 cells slots Q (F0 m 914 ls [])) : W p l e room_1 s m #[.ref b] below meth c H locs cells slots Q (F0 m 196 ls []) := by
  obtain ⟨N, M, R, G, L, NU, TT, B, SS, F, hR, hX, hY⟩ := hW
  obtain ⟨hI, hH, hL0, hF2, hT, hF4, hNU⟩ := id hR
  have hG : (0 ≤ G 0 ∧ G 0 ≤ 4) ∧ (0 ≤ G 1 ∧ G 1 ≤ 4) := ⟨hH.2.1, hH.2.2.1⟩
  have hF0 : 0 ≤ F 0 ∧ F 0 ≤ 4 := by rw [hH.1]; exact hG.1
  have hF1 : 0 ≤ F 1 ∧ F 1 < 4 := hH.2.2.2.1
  have hF80 : 0 ≤ F 2 ∧ F 2 ≤ 80 := by rw [hF2]; exact hL0
  have hTF : TxT TT (F 2) := by rw [hF2]; exact hT
  have hbA : ¬ (fun q : Nat => s.heap.size ≤ q) b := Nat.not_le.mpr hbl
  obtain ⟨v1, r1, x1⟩ := iI_ex (xs (i + 1).toNat)
  obtain ⟨v2, r2, x2⟩ := iI_ex (xs (i + 2).toNat)
  refine lv_aload_n T.1 T.2.1 dL_196 rfl (lv_at hl 2 rfl) ?_
  refine lv_aload_n T.1 T.2.1 dL_197 rfl (lv_at hl 3 rfl) ?_
  refine lv_iload_n T.1 T.2.1 dL_198 rfl (lv_at hl 0 rfl) ?_
  refine xv_iconst T dL_199 ?_
  refine xv_iadd T dL_200 ?_
  refine xl_sld T hXs hbl hbA hS (z := i + 1) (by omega) hn x1 dL_201 ?_
  refine lv_aload_n T.1 T.2.1 dL_202 rfl (lv_at hl 3 rfl) ?_
  refine lv_iload_n T.1 T.2.1 dL_203 rfl (lv_at hl 0 rfl) ?_
  refine xv_iconst T dL_204 ?_
  refine xv_iadd T dL_205 ?_
  refine xl_sld T hXs hbl hbA hS (z := i + 2) (by omega) hn x2 dL_206 ?_
  refine cI_V T hK hX hS 0 rfl rfl rfl (c_X7_duty l K o N M R G L NU TT v1 v2 r1 r2 hI hG) iX7_duty mw_2_87 ⟨Nat.le_of_ble_eq_true rfl, Nat.le_of_ble_eq_true rfl⟩ hX (fun q a => by have h9 := a.1; omega) rfl hl.1 rfl (Nat.le_of_ble_eq_true rfl) hcs dL_207 (fun z1 u1 H1 locs q1 hX1 _ hk1 hS => ?_)
  have hY := xP_out hY (m_D _ _ _ _ _ _ _) (fun _ a b => blk_x (by omega) a b) hk1
  refine lv_aload_n T.1 T.2.1 dL_210 rfl (lv_at hl 1 rfl) ?_
  refine lv_aload_n T.1 T.2.1 dL_211 rfl (lv_at hl 3 rfl) ?_
  refine lv_iload_n T.1 T.2.1 dL_212 rfl (lv_at hl 0 rfl) ?_
  refine xv_iconst T dL_213 ?_
  refine xv_iadd T dL_214 ?_
  refine xl_sld T hXs hbl hbA hS (z := i + 1) (by omega) hn x1 dL_215 ?_
  refine lv_aload_n T.1 T.2.1 dL_216 rfl (lv_at hl 3 rfl) ?_
  refine lv_iload_n T.1 T.2.1 dL_217 rfl (lv_at hl 0 rfl) ?_
  refine xv_iconst T dL_218 ?_
  refine xv_iadd T dL_219 ?_
  refine xl_sld T hXs hbl hbA hS (z := i + 2) (by omega) hn x2 dL_220 ?_
  refine cI_V T hK hY hS 0 rfl rfl rfl (c_X8_duty l K (o + 153) N B SS TT F v1 v2 r1 r2 hI hF0 hF1) iX8_duty mw_4_18 ⟨Nat.le_of_ble_eq_true rfl, Nat.le_of_ble_eq_true rfl⟩ hY (fun q a => by have h9 := a.1; omega) rfl hl.1 rfl (Nat.le_of_ble_eq_true rfl) hcs dL_221 (fun z2 u2 H2 locs q2 hY2 _ hk2 hS => ?_)
  have hX9 := xP_out hX1 (xW_D _ _ _ _ _ _ _ _ _) (fun _ a b => blk_x (by omega) a b) hk2
  obtain ⟨n1, t1, g1⟩ := u1
  obtain ⟨qa, qb, qc⟩ := q1
  dsimp only at qa qb qc hX9
  subst qb
  subst qc
  obtain ⟨n2, b2, p2⟩ := u2
  obtain ⟨qd, qe⟩ := q2
  dsimp only at qd qe hY2
  subst qe
  have e0 := qa.trans qd.symm
  have ez : z1 = z2 := congrArg Prod.fst e0
  have en : n1 = n2 := congrArg Prod.snd e0
  subst ez
  subst en
  have hI2 : Inv n1 := by
    have h9 := sDuty_inv hI v1 v2
    rw [← qa] at h9
    exact h9
  refine xl_same T (tgt := 914) (rfl) dL_224 (by decide) ?_
  exact again _ _ ⟨_, _, _, _, _, _, _, _, _, _, rel_chg hR hI2 z1, hX9, hY2⟩ hS
set_option maxHeartbeats 4000000 in
theorem lw_c3 (T : CF p m c cL_law 4 s #[.ref b] RL) (hK : xK K s) (hXs : va_X b n xs s s.heap) (hbl : b < s.heap.size) (ho : s.heap.size ≤ o) (hn : n ≤ 2560) {i : Int} (hi : 0 ≤ i ∧ i + 5 ≤ (n : Int)) {H : Heap} {locs : List Loc} (hW : LwX K o H) (hS : va_S (fun q => s.heap.size ≤ q) s.heap H locs) {ls : Array Slot} (hl : lv_has ls 4 [(3, .int (iI i)), (2, .ref (o + 153)), (1, .ref o), (0, .ref b)]) (hcs : cells ≤ room_1.cells ∧ slots ≤ room_1.slots) (again : ∀ (H1 : Heap) (locs1 : List Loc), LwX K o H1 → va_S (fun q => s.heap.size ≤ q) s.heap H1 locs1 → W p l e room_1 s m #[.ref b] below meth c H1 locs1 cells slots Q (F0 m 914 ls [])) : W p l e room_1 s m #[.ref b] below meth c H locs cells slots Q (F0 m 229 ls []) := by
  obtain ⟨N, M, R, G, L, NU, TT, B, SS, F, hR, hX, hY⟩ := hW
  obtain ⟨hI, hH, hL0, hF2, hT, hF4, hNU⟩ := id hR
  have hG : (0 ≤ G 0 ∧ G 0 ≤ 4) ∧ (0 ≤ G 1 ∧ G 1 ≤ 4) := ⟨hH.2.1, hH.2.2.1⟩
  have hF0 : 0 ≤ F 0 ∧ F 0 ≤ 4 := by rw [hH.1]; exact hG.1
  have hF1 : 0 ≤ F 1 ∧ F 1 < 4 := hH.2.2.2.1
  have hF80 : 0 ≤ F 2 ∧ F 2 ≤ 80 := by rw [hF2]; exact hL0
  have hTF : TxT TT (F 2) := by rw [hF2]; exact hT
  have hbA : ¬ (fun q : Nat => s.heap.size ≤ q) b := Nat.not_le.mpr hbl
  obtain ⟨v1, r1, x1⟩ := iI_ex (xs (i + 1).toNat)
  obtain ⟨v2, r2, x2⟩ := iI_ex (xs (i + 2).toNat)
  obtain ⟨v3, r3, x3⟩ := iI_ex (xs (i + 3).toNat)
  refine lv_aload_n T.1 T.2.1 dL_229 rfl (lv_at hl 2 rfl) ?_
  refine lv_aload_n T.1 T.2.1 dL_230 rfl (lv_at hl 3 rfl) ?_
  refine lv_iload_n T.1 T.2.1 dL_231 rfl (lv_at hl 0 rfl) ?_
  refine xv_iconst T dL_232 ?_
  refine xv_iadd T dL_233 ?_
  refine xl_sld T hXs hbl hbA hS (z := i + 1) (by omega) hn x1 dL_234 ?_
  refine lv_aload_n T.1 T.2.1 dL_235 rfl (lv_at hl 3 rfl) ?_
  refine lv_iload_n T.1 T.2.1 dL_236 rfl (lv_at hl 0 rfl) ?_
  refine xv_iconst T dL_237 ?_
  refine xv_iadd T dL_238 ?_
  refine xl_sld T hXs hbl hbA hS (z := i + 2) (by omega) hn x2 dL_239 ?_
  refine lv_aload_n T.1 T.2.1 dL_240 rfl (lv_at hl 3 rfl) ?_
  refine lv_iload_n T.1 T.2.1 dL_241 rfl (lv_at hl 0 rfl) ?_
  refine xv_iconst T dL_242 ?_
  refine xv_iadd T dL_243 ?_
  refine xl_sld T hXs hbl hbA hS (z := i + 3) (by omega) hn x3 dL_244 ?_
  refine cI_V T hK hX hS 0 rfl rfl rfl (c_X7_load l K o N M R G L NU TT v1 v2 v3 r1 r2 r3 hI hG) iX7_load mw_2_99 ⟨Nat.le_of_ble_eq_true rfl, Nat.le_of_ble_eq_true rfl⟩ hX (fun q a => by have h9 := a.1; omega) rfl hl.1 rfl (Nat.le_of_ble_eq_true rfl) hcs dL_245 (fun z1 u1 H1 locs q1 hX1 _ hk1 hS => ?_)
  have hY := xP_out hY (m_D _ _ _ _ _ _ _) (fun _ a b => blk_x (by omega) a b) hk1
  refine lv_aload_n T.1 T.2.1 dL_248 rfl (lv_at hl 1 rfl) ?_
  refine lv_aload_n T.1 T.2.1 dL_249 rfl (lv_at hl 3 rfl) ?_
  refine lv_iload_n T.1 T.2.1 dL_250 rfl (lv_at hl 0 rfl) ?_
  refine xv_iconst T dL_251 ?_
  refine xv_iadd T dL_252 ?_
  refine xl_sld T hXs hbl hbA hS (z := i + 1) (by omega) hn x1 dL_253 ?_
  refine lv_aload_n T.1 T.2.1 dL_254 rfl (lv_at hl 3 rfl) ?_
  refine lv_iload_n T.1 T.2.1 dL_255 rfl (lv_at hl 0 rfl) ?_
  refine xv_iconst T dL_256 ?_
  refine xv_iadd T dL_257 ?_
  refine xl_sld T hXs hbl hbA hS (z := i + 2) (by omega) hn x2 dL_258 ?_
  refine lv_aload_n T.1 T.2.1 dL_259 rfl (lv_at hl 3 rfl) ?_
  refine lv_iload_n T.1 T.2.1 dL_260 rfl (lv_at hl 0 rfl) ?_
  refine xv_iconst T dL_261 ?_
  refine xv_iadd T dL_262 ?_
  refine xl_sld T hXs hbl hbA hS (z := i + 3) (by omega) hn x3 dL_263 ?_
  refine cI_V T hK hY hS 0 rfl rfl rfl (c_X8_load l K (o + 153) N B SS TT F v1 v2 v3 r1 r2 r3 hI hF0 hF1) iX8_load mw_4_26 ⟨Nat.le_of_ble_eq_true rfl, Nat.le_of_ble_eq_true rfl⟩ hY (fun q a => by have h9 := a.1; omega) rfl hl.1 rfl (Nat.le_of_ble_eq_true rfl) hcs dL_264 (fun z2 u2 H2 locs q2 hY2 _ hk2 hS => ?_)
  have hX9 := xP_out hX1 (xW_D _ _ _ _ _ _ _ _ _) (fun _ a b => blk_x (by omega) a b) hk2
  obtain ⟨n1, t1, g1⟩ := u1
  obtain ⟨qa, qb, qc⟩ := q1
  dsimp only at qa qb qc hX9
  subst qb
  subst qc
  obtain ⟨n2, qd, qe⟩ := q2
  subst qe
  dsimp only at hY2
  have e0 := qa.trans qd.symm
  have ez : z1 = z2 := congrArg Prod.fst e0
  have en : n1 = n2 := congrArg Prod.snd e0
  subst ez
  subst en
  have hI2 : Inv n1 := by
    have h9 := sLoad_inv hI v1 v2 v3
    rw [← qa] at h9
    exact h9
  refine xl_same T (tgt := 914) (rfl) dL_267 (by decide) ?_
  exact again _ _ ⟨_, _, _, _, _, _, _, _, _, _, rel_chg hR hI2 z1, hX9, hY2⟩ hS
set_option maxHeartbeats 4000000 in
theorem lw_c4 (T : CF p m c cL_law 4 s #[.ref b] RL) (hK : xK K s) (hXs : va_X b n xs s s.heap) (hbl : b < s.heap.size) (ho : s.heap.size ≤ o) (hn : n ≤ 2560) {i : Int} (hi : 0 ≤ i ∧ i + 5 ≤ (n : Int)) {H : Heap} {locs : List Loc} (hW : LwX K o H) (hS : va_S (fun q => s.heap.size ≤ q) s.heap H locs) {ls : Array Slot} (hl : lv_has ls 4 [(3, .int (iI i)), (2, .ref (o + 153)), (1, .ref o), (0, .ref b)]) (hcs : cells ≤ room_1.cells ∧ slots ≤ room_1.slots) (again : ∀ (H1 : Heap) (locs1 : List Loc), LwX K o H1 → va_S (fun q => s.heap.size ≤ q) s.heap H1 locs1 → W p l e room_1 s m #[.ref b] below meth c H1 locs1 cells slots Q (F0 m 914 ls [])) : W p l e room_1 s m #[.ref b] below meth c H locs cells slots Q (F0 m 272 ls []) := by
  obtain ⟨N, M, R, G, L, NU, TT, B, SS, F, hR, hX, hY⟩ := hW
  obtain ⟨hI, hH, hL0, hF2, hT, hF4, hNU⟩ := id hR
  have hG : (0 ≤ G 0 ∧ G 0 ≤ 4) ∧ (0 ≤ G 1 ∧ G 1 ≤ 4) := ⟨hH.2.1, hH.2.2.1⟩
  have hF0 : 0 ≤ F 0 ∧ F 0 ≤ 4 := by rw [hH.1]; exact hG.1
  have hF1 : 0 ≤ F 1 ∧ F 1 < 4 := hH.2.2.2.1
  have hF80 : 0 ≤ F 2 ∧ F 2 ≤ 80 := by rw [hF2]; exact hL0
  have hTF : TxT TT (F 2) := by rw [hF2]; exact hT
  have hbA : ¬ (fun q : Nat => s.heap.size ≤ q) b := Nat.not_le.mpr hbl
  obtain ⟨v1, r1, x1⟩ := iI_ex (xs (i + 1).toNat)
  obtain ⟨v2, r2, x2⟩ := iI_ex (xs (i + 2).toNat)
  refine lv_aload_n T.1 T.2.1 dL_272 rfl (lv_at hl 2 rfl) ?_
  refine lv_aload_n T.1 T.2.1 dL_273 rfl (lv_at hl 3 rfl) ?_
  refine lv_iload_n T.1 T.2.1 dL_274 rfl (lv_at hl 0 rfl) ?_
  refine xv_iconst T dL_275 ?_
  refine xv_iadd T dL_276 ?_
  refine xl_sld T hXs hbl hbA hS (z := i + 1) (by omega) hn x1 dL_277 ?_
  refine lv_aload_n T.1 T.2.1 dL_278 rfl (lv_at hl 3 rfl) ?_
  refine lv_iload_n T.1 T.2.1 dL_279 rfl (lv_at hl 0 rfl) ?_
  refine xv_iconst T dL_280 ?_
  refine xv_iadd T dL_281 ?_
  refine xl_sld T hXs hbl hbA hS (z := i + 2) (by omega) hn x2 dL_282 ?_
  refine cI_V T hK hX hS 0 rfl rfl rfl (c_X7_lockerOf l K o N M R G L NU TT v1 v2 r1 r2 hI) iX7_lockerOf mw_2_133 ⟨Nat.le_of_ble_eq_true rfl, Nat.le_of_ble_eq_true rfl⟩ hX noA rfl hl.1 rfl (Nat.le_of_ble_eq_true rfl) hcs dL_283 (fun z1 u1 H1 locs q1 hX1 _ hk1 hS => ?_)
  have hX : xP K (xW K o N M R G L NU TT) H1 := hX1
  have hY := xP_kept hY hk1
  refine lv_aload_n T.1 T.2.1 dL_286 rfl (lv_at hl 1 rfl) ?_
  refine lv_aload_n T.1 T.2.1 dL_287 rfl (lv_at hl 3 rfl) ?_
  refine lv_iload_n T.1 T.2.1 dL_288 rfl (lv_at hl 0 rfl) ?_
  refine xv_iconst T dL_289 ?_
  refine xv_iadd T dL_290 ?_
  refine xl_sld T hXs hbl hbA hS (z := i + 1) (by omega) hn x1 dL_291 ?_
  refine lv_aload_n T.1 T.2.1 dL_292 rfl (lv_at hl 3 rfl) ?_
  refine lv_iload_n T.1 T.2.1 dL_293 rfl (lv_at hl 0 rfl) ?_
  refine xv_iconst T dL_294 ?_
  refine xv_iadd T dL_295 ?_
  refine xl_sld T hXs hbl hbA hS (z := i + 2) (by omega) hn x2 dL_296 ?_
  refine cI_V T hK hY hS 0 rfl rfl rfl (c_X8_lockerOf l K (o + 153) N B SS TT F v1 v2 r1 r2 hI) iX8_lockerOf mw_4_48 ⟨Nat.le_of_ble_eq_true rfl, Nat.le_of_ble_eq_true rfl⟩ hY noA rfl hl.1 rfl (Nat.le_of_ble_eq_true rfl) hcs dL_297 (fun z2 u2 H2 locs q2 hY2 _ hk2 hS => ?_)
  have hY : xP K (mW K (o + 153) N B SS TT F) H2 := hY2
  have hX := xP_kept hX hk2
  refine xl_same T (tgt := 914) (q1.trans q2.symm) dL_300 (by decide) ?_
  exact again _ _ ⟨_, _, _, _, _, _, _, _, _, _, hR, hX, hY⟩ hS
set_option maxHeartbeats 4000000 in
theorem lw_c5 (T : CF p m c cL_law 4 s #[.ref b] RL) (hK : xK K s) (hXs : va_X b n xs s s.heap) (hbl : b < s.heap.size) (ho : s.heap.size ≤ o) (hn : n ≤ 2560) {i : Int} (hi : 0 ≤ i ∧ i + 5 ≤ (n : Int)) {H : Heap} {locs : List Loc} (hW : LwX K o H) (hS : va_S (fun q => s.heap.size ≤ q) s.heap H locs) {ls : Array Slot} (hl : lv_has ls 4 [(3, .int (iI i)), (2, .ref (o + 153)), (1, .ref o), (0, .ref b)]) (hcs : cells ≤ room_1.cells ∧ slots ≤ room_1.slots) (again : ∀ (H1 : Heap) (locs1 : List Loc), LwX K o H1 → va_S (fun q => s.heap.size ≤ q) s.heap H1 locs1 → W p l e room_1 s m #[.ref b] below meth c H1 locs1 cells slots Q (F0 m 914 ls [])) : W p l e room_1 s m #[.ref b] below meth c H locs cells slots Q (F0 m 305 ls []) := by
  obtain ⟨N, M, R, G, L, NU, TT, B, SS, F, hR, hX, hY⟩ := hW
  obtain ⟨hI, hH, hL0, hF2, hT, hF4, hNU⟩ := id hR
  have hG : (0 ≤ G 0 ∧ G 0 ≤ 4) ∧ (0 ≤ G 1 ∧ G 1 ≤ 4) := ⟨hH.2.1, hH.2.2.1⟩
  have hF0 : 0 ≤ F 0 ∧ F 0 ≤ 4 := by rw [hH.1]; exact hG.1
  have hF1 : 0 ≤ F 1 ∧ F 1 < 4 := hH.2.2.2.1
  have hF80 : 0 ≤ F 2 ∧ F 2 ≤ 80 := by rw [hF2]; exact hL0
  have hTF : TxT TT (F 2) := by rw [hF2]; exact hT
  have hbA : ¬ (fun q : Nat => s.heap.size ≤ q) b := Nat.not_le.mpr hbl
  obtain ⟨v1, r1, x1⟩ := iI_ex (xs (i + 1).toNat)
  obtain ⟨v2, r2, x2⟩ := iI_ex (xs (i + 2).toNat)
  refine lv_aload_n T.1 T.2.1 dL_305 rfl (lv_at hl 2 rfl) ?_
  refine lv_aload_n T.1 T.2.1 dL_306 rfl (lv_at hl 3 rfl) ?_
  refine lv_iload_n T.1 T.2.1 dL_307 rfl (lv_at hl 0 rfl) ?_
  refine xv_iconst T dL_308 ?_
  refine xv_iadd T dL_309 ?_
  refine xl_sld T hXs hbl hbA hS (z := i + 1) (by omega) hn x1 dL_310 ?_
  refine lv_aload_n T.1 T.2.1 dL_311 rfl (lv_at hl 3 rfl) ?_
  refine lv_iload_n T.1 T.2.1 dL_312 rfl (lv_at hl 0 rfl) ?_
  refine xv_iconst T dL_313 ?_
  refine xv_iadd T dL_314 ?_
  refine xl_sld T hXs hbl hbA hS (z := i + 2) (by omega) hn x2 dL_315 ?_
  refine cI_V T hK hX hS 0 rfl rfl rfl (c_X7_missing l K o N M R G L NU TT v1 v2 r1 r2 hI) iX7_missing mw_2_145 ⟨Nat.le_of_ble_eq_true rfl, Nat.le_of_ble_eq_true rfl⟩ hX noA rfl hl.1 rfl (Nat.le_of_ble_eq_true rfl) hcs dL_316 (fun z1 u1 H1 locs q1 hX1 _ hk1 hS => ?_)
  have hX : xP K (xW K o N M R G L NU TT) H1 := hX1
  have hY := xP_kept hY hk1
  refine lv_aload_n T.1 T.2.1 dL_319 rfl (lv_at hl 1 rfl) ?_
  refine lv_aload_n T.1 T.2.1 dL_320 rfl (lv_at hl 3 rfl) ?_
  refine lv_iload_n T.1 T.2.1 dL_321 rfl (lv_at hl 0 rfl) ?_
  refine xv_iconst T dL_322 ?_
  refine xv_iadd T dL_323 ?_
  refine xl_sld T hXs hbl hbA hS (z := i + 1) (by omega) hn x1 dL_324 ?_
  refine lv_aload_n T.1 T.2.1 dL_325 rfl (lv_at hl 3 rfl) ?_
  refine lv_iload_n T.1 T.2.1 dL_326 rfl (lv_at hl 0 rfl) ?_
  refine xv_iconst T dL_327 ?_
  refine xv_iadd T dL_328 ?_
  refine xl_sld T hXs hbl hbA hS (z := i + 2) (by omega) hn x2 dL_329 ?_
  refine cI_V T hK hY hS 0 rfl rfl rfl (c_X8_missing l K (o + 153) N B SS TT F v1 v2 r1 r2 hI) iX8_missing mw_4_56 ⟨Nat.le_of_ble_eq_true rfl, Nat.le_of_ble_eq_true rfl⟩ hY noA rfl hl.1 rfl (Nat.le_of_ble_eq_true rfl) hcs dL_330 (fun z2 u2 H2 locs q2 hY2 _ hk2 hS => ?_)
  have hY : xP K (mW K (o + 153) N B SS TT F) H2 := hY2
  have hX := xP_kept hX hk2
  refine xl_same T (tgt := 914) (q1.trans q2.symm) dL_333 (by decide) ?_
  exact again _ _ ⟨_, _, _, _, _, _, _, _, _, _, hR, hX, hY⟩ hS
set_option maxHeartbeats 4000000 in
theorem lw_c6 (T : CF p m c cL_law 4 s #[.ref b] RL) (hK : xK K s) (hXs : va_X b n xs s s.heap) (hbl : b < s.heap.size) (ho : s.heap.size ≤ o) (hn : n ≤ 2560) {i : Int} (hi : 0 ≤ i ∧ i + 5 ≤ (n : Int)) {H : Heap} {locs : List Loc} (hW : LwX K o H) (hS : va_S (fun q => s.heap.size ≤ q) s.heap H locs) {ls : Array Slot} (hl : lv_has ls 4 [(3, .int (iI i)), (2, .ref (o + 153)), (1, .ref o), (0, .ref b)]) (hcs : cells ≤ room_1.cells ∧ slots ≤ room_1.slots) (again : ∀ (H1 : Heap) (locs1 : List Loc), LwX K o H1 → va_S (fun q => s.heap.size ≤ q) s.heap H1 locs1 → W p l e room_1 s m #[.ref b] below meth c H1 locs1 cells slots Q (F0 m 914 ls [])) : W p l e room_1 s m #[.ref b] below meth c H locs cells slots Q (F0 m 338 ls []) := by
  obtain ⟨N, M, R, G, L, NU, TT, B, SS, F, hR, hX, hY⟩ := hW
  obtain ⟨hI, hH, hL0, hF2, hT, hF4, hNU⟩ := id hR
  have hG : (0 ≤ G 0 ∧ G 0 ≤ 4) ∧ (0 ≤ G 1 ∧ G 1 ≤ 4) := ⟨hH.2.1, hH.2.2.1⟩
  have hF0 : 0 ≤ F 0 ∧ F 0 ≤ 4 := by rw [hH.1]; exact hG.1
  have hF1 : 0 ≤ F 1 ∧ F 1 < 4 := hH.2.2.2.1
  have hF80 : 0 ≤ F 2 ∧ F 2 ≤ 80 := by rw [hF2]; exact hL0
  have hTF : TxT TT (F 2) := by rw [hF2]; exact hT
  have hbA : ¬ (fun q : Nat => s.heap.size ≤ q) b := Nat.not_le.mpr hbl
  obtain ⟨v1, r1, x1⟩ := iI_ex (xs (i + 1).toNat)
  obtain ⟨v2, r2, x2⟩ := iI_ex (xs (i + 2).toNat)
  refine lv_aload_n T.1 T.2.1 dL_338 rfl (lv_at hl 2 rfl) ?_
  refine lv_aload_n T.1 T.2.1 dL_339 rfl (lv_at hl 3 rfl) ?_
  refine lv_iload_n T.1 T.2.1 dL_340 rfl (lv_at hl 0 rfl) ?_
  refine xv_iconst T dL_341 ?_
  refine xv_iadd T dL_342 ?_
  refine xl_sld T hXs hbl hbA hS (z := i + 1) (by omega) hn x1 dL_343 ?_
  refine lv_aload_n T.1 T.2.1 dL_344 rfl (lv_at hl 3 rfl) ?_
  refine lv_iload_n T.1 T.2.1 dL_345 rfl (lv_at hl 0 rfl) ?_
  refine xv_iconst T dL_346 ?_
  refine xv_iadd T dL_347 ?_
  refine xl_sld T hXs hbl hbA hS (z := i + 2) (by omega) hn x2 dL_348 ?_
  refine cI_V T hK hX hS 0 rfl rfl rfl (c_X7_seal l K o N M R G L NU TT v1 v2 r1 r2 hI) iX7_seal mw_2_149 ⟨Nat.le_of_ble_eq_true rfl, Nat.le_of_ble_eq_true rfl⟩ hX noA rfl hl.1 rfl (Nat.le_of_ble_eq_true rfl) hcs dL_349 (fun z1 u1 H1 locs q1 hX1 _ hk1 hS => ?_)
  have hX : xP K (xW K o N M R G L NU TT) H1 := hX1
  have hY := xP_kept hY hk1
  refine lv_aload_n T.1 T.2.1 dL_352 rfl (lv_at hl 1 rfl) ?_
  refine lv_aload_n T.1 T.2.1 dL_353 rfl (lv_at hl 3 rfl) ?_
  refine lv_iload_n T.1 T.2.1 dL_354 rfl (lv_at hl 0 rfl) ?_
  refine xv_iconst T dL_355 ?_
  refine xv_iadd T dL_356 ?_
  refine xl_sld T hXs hbl hbA hS (z := i + 1) (by omega) hn x1 dL_357 ?_
  refine lv_aload_n T.1 T.2.1 dL_358 rfl (lv_at hl 3 rfl) ?_
  refine lv_iload_n T.1 T.2.1 dL_359 rfl (lv_at hl 0 rfl) ?_
  refine xv_iconst T dL_360 ?_
  refine xv_iadd T dL_361 ?_
  refine xl_sld T hXs hbl hbA hS (z := i + 2) (by omega) hn x2 dL_362 ?_
  refine cI_V T hK hY hS 0 rfl rfl rfl (c_X8_seal l K (o + 153) N B SS TT F v1 v2 r1 r2 hI) iX8_seal mw_4_60 ⟨Nat.le_of_ble_eq_true rfl, Nat.le_of_ble_eq_true rfl⟩ hY noA rfl hl.1 rfl (Nat.le_of_ble_eq_true rfl) hcs dL_363 (fun z2 u2 H2 locs q2 hY2 _ hk2 hS => ?_)
  have hY : xP K (mW K (o + 153) N B SS TT F) H2 := hY2
  have hX := xP_kept hX hk2
  refine xl_same T (tgt := 914) (q1.trans q2.symm) dL_366 (by decide) ?_
  exact again _ _ ⟨_, _, _, _, _, _, _, _, _, _, hR, hX, hY⟩ hS
set_option maxHeartbeats 4000000 in
theorem lw_c7 (T : CF p m c cL_law 4 s #[.ref b] RL) (hK : xK K s) (hXs : va_X b n xs s s.heap) (hbl : b < s.heap.size) (ho : s.heap.size ≤ o) (hn : n ≤ 2560) {i : Int} (hi : 0 ≤ i ∧ i + 5 ≤ (n : Int)) {H : Heap} {locs : List Loc} (hW : LwX K o H) (hS : va_S (fun q => s.heap.size ≤ q) s.heap H locs) {ls : Array Slot} (hl : lv_has ls 4 [(3, .int (iI i)), (2, .ref (o + 153)), (1, .ref o), (0, .ref b)]) (hcs : cells ≤ room_1.cells ∧ slots ≤ room_1.slots) (again : ∀ (H1 : Heap) (locs1 : List Loc), LwX K o H1 → va_S (fun q => s.heap.size ≤ q) s.heap H1 locs1 → W p l e room_1 s m #[.ref b] below meth c H1 locs1 cells slots Q (F0 m 914 ls [])) : W p l e room_1 s m #[.ref b] below meth c H locs cells slots Q (F0 m 371 ls []) := by
  obtain ⟨N, M, R, G, L, NU, TT, B, SS, F, hR, hX, hY⟩ := hW
  obtain ⟨hI, hH, hL0, hF2, hT, hF4, hNU⟩ := id hR
  have hG : (0 ≤ G 0 ∧ G 0 ≤ 4) ∧ (0 ≤ G 1 ∧ G 1 ≤ 4) := ⟨hH.2.1, hH.2.2.1⟩
  have hF0 : 0 ≤ F 0 ∧ F 0 ≤ 4 := by rw [hH.1]; exact hG.1
  have hF1 : 0 ≤ F 1 ∧ F 1 < 4 := hH.2.2.2.1
  have hF80 : 0 ≤ F 2 ∧ F 2 ≤ 80 := by rw [hF2]; exact hL0
  have hTF : TxT TT (F 2) := by rw [hF2]; exact hT
  have hbA : ¬ (fun q : Nat => s.heap.size ≤ q) b := Nat.not_le.mpr hbl
  obtain ⟨v1, r1, x1⟩ := iI_ex (xs (i + 1).toNat)
  obtain ⟨v2, r2, x2⟩ := iI_ex (xs (i + 2).toNat)
  refine lv_aload_n T.1 T.2.1 dL_371 rfl (lv_at hl 2 rfl) ?_
  refine lv_aload_n T.1 T.2.1 dL_372 rfl (lv_at hl 3 rfl) ?_
  refine lv_iload_n T.1 T.2.1 dL_373 rfl (lv_at hl 0 rfl) ?_
  refine xv_iconst T dL_374 ?_
  refine xv_iadd T dL_375 ?_
  refine xl_sld T hXs hbl hbA hS (z := i + 1) (by omega) hn x1 dL_376 ?_
  refine lv_aload_n T.1 T.2.1 dL_377 rfl (lv_at hl 3 rfl) ?_
  refine lv_iload_n T.1 T.2.1 dL_378 rfl (lv_at hl 0 rfl) ?_
  refine xv_iconst T dL_379 ?_
  refine xv_iadd T dL_380 ?_
  refine xl_sld T hXs hbl hbA hS (z := i + 2) (by omega) hn x2 dL_381 ?_
  refine cI_V T hK hX hS 0 rfl rfl rfl (c_X7_bond l K o N M R G L NU TT v1 v2 r1 r2 hI) iX7_bond mw_2_153 ⟨Nat.le_of_ble_eq_true rfl, Nat.le_of_ble_eq_true rfl⟩ hX noA rfl hl.1 rfl (Nat.le_of_ble_eq_true rfl) hcs dL_382 (fun z1 u1 H1 locs q1 hX1 _ hk1 hS => ?_)
  have hX : xP K (xW K o N M R G L NU TT) H1 := hX1
  have hY := xP_kept hY hk1
  refine lv_aload_n T.1 T.2.1 dL_385 rfl (lv_at hl 1 rfl) ?_
  refine lv_aload_n T.1 T.2.1 dL_386 rfl (lv_at hl 3 rfl) ?_
  refine lv_iload_n T.1 T.2.1 dL_387 rfl (lv_at hl 0 rfl) ?_
  refine xv_iconst T dL_388 ?_
  refine xv_iadd T dL_389 ?_
  refine xl_sld T hXs hbl hbA hS (z := i + 1) (by omega) hn x1 dL_390 ?_
  refine lv_aload_n T.1 T.2.1 dL_391 rfl (lv_at hl 3 rfl) ?_
  refine lv_iload_n T.1 T.2.1 dL_392 rfl (lv_at hl 0 rfl) ?_
  refine xv_iconst T dL_393 ?_
  refine xv_iadd T dL_394 ?_
  refine xl_sld T hXs hbl hbA hS (z := i + 2) (by omega) hn x2 dL_395 ?_
  refine cI_V T hK hY hS 0 rfl rfl rfl (c_X8_bond l K (o + 153) N B SS TT F v1 v2 r1 r2 hI) iX8_bond mw_4_64 ⟨Nat.le_of_ble_eq_true rfl, Nat.le_of_ble_eq_true rfl⟩ hY noA rfl hl.1 rfl (Nat.le_of_ble_eq_true rfl) hcs dL_396 (fun z2 u2 H2 locs q2 hY2 _ hk2 hS => ?_)
  have hY : xP K (mW K (o + 153) N B SS TT F) H2 := hY2
  have hX := xP_kept hX hk2
  refine xl_same T (tgt := 914) (q1.trans q2.symm) dL_399 (by decide) ?_
  exact again _ _ ⟨_, _, _, _, _, _, _, _, _, _, hR, hX, hY⟩ hS
set_option maxHeartbeats 4000000 in
theorem lw_c8 (T : CF p m c cL_law 4 s #[.ref b] RL) (hK : xK K s) (hXs : va_X b n xs s s.heap) (hbl : b < s.heap.size) (ho : s.heap.size ≤ o) (hn : n ≤ 2560) {i : Int} (hi : 0 ≤ i ∧ i + 5 ≤ (n : Int)) {H : Heap} {locs : List Loc} (hW : LwX K o H) (hS : va_S (fun q => s.heap.size ≤ q) s.heap H locs) {ls : Array Slot} (hl : lv_has ls 4 [(3, .int (iI i)), (2, .ref (o + 153)), (1, .ref o), (0, .ref b)]) (hcs : cells ≤ room_1.cells ∧ slots ≤ room_1.slots) (again : ∀ (H1 : Heap) (locs1 : List Loc), LwX K o H1 → va_S (fun q => s.heap.size ≤ q) s.heap H1 locs1 → W p l e room_1 s m #[.ref b] below meth c H1 locs1 cells slots Q (F0 m 914 ls [])) : W p l e room_1 s m #[.ref b] below meth c H locs cells slots Q (F0 m 404 ls []) := by
  obtain ⟨N, M, R, G, L, NU, TT, B, SS, F, hR, hX, hY⟩ := hW
  obtain ⟨hI, hH, hL0, hF2, hT, hF4, hNU⟩ := id hR
  have hG : (0 ≤ G 0 ∧ G 0 ≤ 4) ∧ (0 ≤ G 1 ∧ G 1 ≤ 4) := ⟨hH.2.1, hH.2.2.1⟩
  have hF0 : 0 ≤ F 0 ∧ F 0 ≤ 4 := by rw [hH.1]; exact hG.1
  have hF1 : 0 ≤ F 1 ∧ F 1 < 4 := hH.2.2.2.1
  have hF80 : 0 ≤ F 2 ∧ F 2 ≤ 80 := by rw [hF2]; exact hL0
  have hTF : TxT TT (F 2) := by rw [hF2]; exact hT
  have hbA : ¬ (fun q : Nat => s.heap.size ≤ q) b := Nat.not_le.mpr hbl
  obtain ⟨v1, r1, x1⟩ := iI_ex (xs (i + 1).toNat)
  refine lv_aload_n T.1 T.2.1 dL_404 rfl (lv_at hl 2 rfl) ?_
  refine lv_aload_n T.1 T.2.1 dL_405 rfl (lv_at hl 3 rfl) ?_
  refine lv_iload_n T.1 T.2.1 dL_406 rfl (lv_at hl 0 rfl) ?_
  refine xv_iconst T dL_407 ?_
  refine xv_iadd T dL_408 ?_
  refine xl_sld T hXs hbl hbA hS (z := i + 1) (by omega) hn x1 dL_409 ?_
  refine cI_V T hK hX hS 0 rfl rfl rfl (c_X7_nextBond l K o N M R G L NU TT v1 r1 hI) iX7_nextBond mw_2_161 ⟨Nat.le_of_ble_eq_true rfl, Nat.le_of_ble_eq_true rfl⟩ hX noA rfl hl.1 rfl (Nat.le_of_ble_eq_true rfl) hcs dL_410 (fun z1 u1 H1 locs q1 hX1 _ hk1 hS => ?_)
  have hX : xP K (xW K o N M R G L NU TT) H1 := hX1
  have hY := xP_kept hY hk1
  refine lv_aload_n T.1 T.2.1 dL_413 rfl (lv_at hl 1 rfl) ?_
  refine lv_aload_n T.1 T.2.1 dL_414 rfl (lv_at hl 3 rfl) ?_
  refine lv_iload_n T.1 T.2.1 dL_415 rfl (lv_at hl 0 rfl) ?_
  refine xv_iconst T dL_416 ?_
  refine xv_iadd T dL_417 ?_
  refine xl_sld T hXs hbl hbA hS (z := i + 1) (by omega) hn x1 dL_418 ?_
  refine cI_V T hK hY hS 0 rfl rfl rfl (c_X8_nextBond l K (o + 153) N B SS TT F v1 r1 hI) iX8_nextBond mw_4_68 ⟨Nat.le_of_ble_eq_true rfl, Nat.le_of_ble_eq_true rfl⟩ hY noA rfl hl.1 rfl (Nat.le_of_ble_eq_true rfl) hcs dL_419 (fun z2 u2 H2 locs q2 hY2 _ hk2 hS => ?_)
  have hY : xP K (mW K (o + 153) N B SS TT F) H2 := hY2
  have hX := xP_kept hX hk2
  refine xl_same T (tgt := 914) (q1.trans q2.symm) dL_422 (by decide) ?_
  exact again _ _ ⟨_, _, _, _, _, _, _, _, _, _, hR, hX, hY⟩ hS
set_option maxHeartbeats 4000000 in
theorem lw_c9 (T : CF p m c cL_law 4 s #[.ref b] RL) (hK : xK K s) (hXs : va_X b n xs s s.heap) (hbl : b < s.heap.size) (ho : s.heap.size ≤ o) (hn : n ≤ 2560) {i : Int} (hi : 0 ≤ i ∧ i + 5 ≤ (n : Int)) {H : Heap} {locs : List Loc} (hW : LwX K o H) (hS : va_S (fun q => s.heap.size ≤ q) s.heap H locs) {ls : Array Slot} (hl : lv_has ls 4 [(3, .int (iI i)), (2, .ref (o + 153)), (1, .ref o), (0, .ref b)]) (hcs : cells ≤ room_1.cells ∧ slots ≤ room_1.slots) (again : ∀ (H1 : Heap) (locs1 : List Loc), LwX K o H1 → va_S (fun q => s.heap.size ≤ q) s.heap H1 locs1 → W p l e room_1 s m #[.ref b] below meth c H1 locs1 cells slots Q (F0 m 914 ls [])) : W p l e room_1 s m #[.ref b] below meth c H locs cells slots Q (F0 m 427 ls []) := by
  obtain ⟨N, M, R, G, L, NU, TT, B, SS, F, hR, hX, hY⟩ := hW
  obtain ⟨hI, hH, hL0, hF2, hT, hF4, hNU⟩ := id hR
  have hG : (0 ≤ G 0 ∧ G 0 ≤ 4) ∧ (0 ≤ G 1 ∧ G 1 ≤ 4) := ⟨hH.2.1, hH.2.2.1⟩
  have hF0 : 0 ≤ F 0 ∧ F 0 ≤ 4 := by rw [hH.1]; exact hG.1
  have hF1 : 0 ≤ F 1 ∧ F 1 < 4 := hH.2.2.2.1
  have hF80 : 0 ≤ F 2 ∧ F 2 ≤ 80 := by rw [hF2]; exact hL0
  have hTF : TxT TT (F 2) := by rw [hF2]; exact hT
  have hbA : ¬ (fun q : Nat => s.heap.size ≤ q) b := Nat.not_le.mpr hbl
  obtain ⟨v1, r1, x1⟩ := iI_ex (xs (i + 1).toNat)
  obtain ⟨v2, r2, x2⟩ := iI_ex (xs (i + 2).toNat)
  obtain ⟨v3, r3, x3⟩ := iI_ex (xs (i + 3).toNat)
  refine lv_aload_n T.1 T.2.1 dL_427 rfl (lv_at hl 2 rfl) ?_
  refine lv_aload_n T.1 T.2.1 dL_428 rfl (lv_at hl 3 rfl) ?_
  refine lv_iload_n T.1 T.2.1 dL_429 rfl (lv_at hl 0 rfl) ?_
  refine xv_iconst T dL_430 ?_
  refine xv_iadd T dL_431 ?_
  refine xl_sld T hXs hbl hbA hS (z := i + 1) (by omega) hn x1 dL_432 ?_
  refine lv_aload_n T.1 T.2.1 dL_433 rfl (lv_at hl 3 rfl) ?_
  refine lv_iload_n T.1 T.2.1 dL_434 rfl (lv_at hl 0 rfl) ?_
  refine xv_iconst T dL_435 ?_
  refine xv_iadd T dL_436 ?_
  refine xl_sld T hXs hbl hbA hS (z := i + 2) (by omega) hn x2 dL_437 ?_
  refine lv_aload_n T.1 T.2.1 dL_438 rfl (lv_at hl 3 rfl) ?_
  refine lv_iload_n T.1 T.2.1 dL_439 rfl (lv_at hl 0 rfl) ?_
  refine xv_iconst T dL_440 ?_
  refine xv_iadd T dL_441 ?_
  refine xl_sld T hXs hbl hbA hS (z := i + 3) (by omega) hn x3 dL_442 ?_
  refine cI_V T hK hX hS 0 rfl rfl rfl (c_X7_use l K o N M R G L NU TT v1 v2 v3 r1 r2 r3 hI hG) iX7_use mw_2_169 ⟨Nat.le_of_ble_eq_true rfl, Nat.le_of_ble_eq_true rfl⟩ hX (fun q a => by have h9 := a.1; omega) rfl hl.1 rfl (Nat.le_of_ble_eq_true rfl) hcs dL_443 (fun z1 u1 H1 locs q1 hX1 _ hk1 hS => ?_)
  have hY := xP_out hY (m_D _ _ _ _ _ _ _) (fun _ a b => blk_x (by omega) a b) hk1
  refine lv_aload_n T.1 T.2.1 dL_446 rfl (lv_at hl 1 rfl) ?_
  refine lv_aload_n T.1 T.2.1 dL_447 rfl (lv_at hl 3 rfl) ?_
  refine lv_iload_n T.1 T.2.1 dL_448 rfl (lv_at hl 0 rfl) ?_
  refine xv_iconst T dL_449 ?_
  refine xv_iadd T dL_450 ?_
  refine xl_sld T hXs hbl hbA hS (z := i + 1) (by omega) hn x1 dL_451 ?_
  refine lv_aload_n T.1 T.2.1 dL_452 rfl (lv_at hl 3 rfl) ?_
  refine lv_iload_n T.1 T.2.1 dL_453 rfl (lv_at hl 0 rfl) ?_
  refine xv_iconst T dL_454 ?_
  refine xv_iadd T dL_455 ?_
  refine xl_sld T hXs hbl hbA hS (z := i + 2) (by omega) hn x2 dL_456 ?_
  refine lv_aload_n T.1 T.2.1 dL_457 rfl (lv_at hl 3 rfl) ?_
  refine lv_iload_n T.1 T.2.1 dL_458 rfl (lv_at hl 0 rfl) ?_
  refine xv_iconst T dL_459 ?_
  refine xv_iadd T dL_460 ?_
  refine xl_sld T hXs hbl hbA hS (z := i + 3) (by omega) hn x3 dL_461 ?_
  refine cI_V T hK hY hS 0 rfl rfl rfl (c_X8_use l K (o + 153) N B SS TT F v1 v2 v3 r1 r2 r3 hI hF0 hF1) iX8_use mw_4_76 ⟨Nat.le_of_ble_eq_true rfl, Nat.le_of_ble_eq_true rfl⟩ hY (fun q a => by have h9 := a.1; omega) rfl hl.1 rfl (Nat.le_of_ble_eq_true rfl) hcs dL_462 (fun z2 u2 H2 locs q2 hY2 _ hk2 hS => ?_)
  have hX9 := xP_out hX1 (xW_D _ _ _ _ _ _ _ _ _) (fun _ a b => blk_x (by omega) a b) hk2
  obtain ⟨n1, t1, g1⟩ := u1
  obtain ⟨qa, qb, qc⟩ := q1
  dsimp only at qa qb qc hX9
  subst qb
  subst qc
  obtain ⟨n2, qd, qe⟩ := q2
  subst qe
  dsimp only at hY2
  have e0 := qa.trans qd.symm
  have ez : z1 = z2 := congrArg Prod.fst e0
  have en : n1 = n2 := congrArg Prod.snd e0
  subst ez
  subst en
  have hI2 : Inv n1 := by
    have h9 := sUse_inv hI v1 v2 v3
    rw [← qa] at h9
    exact h9
  refine xl_same T (tgt := 914) (rfl) dL_465 (by decide) ?_
  exact again _ _ ⟨_, _, _, _, _, _, _, _, _, _, rel_chg hR hI2 z1, hX9, hY2⟩ hS
set_option maxHeartbeats 4000000 in
theorem lw_c10 (T : CF p m c cL_law 4 s #[.ref b] RL) (hK : xK K s) (hXs : va_X b n xs s s.heap) (hbl : b < s.heap.size) (ho : s.heap.size ≤ o) (hn : n ≤ 2560) {i : Int} (hi : 0 ≤ i ∧ i + 5 ≤ (n : Int)) {H : Heap} {locs : List Loc} (hW : LwX K o H) (hS : va_S (fun q => s.heap.size ≤ q) s.heap H locs) {ls : Array Slot} (hl : lv_has ls 4 [(3, .int (iI i)), (2, .ref (o + 153)), (1, .ref o), (0, .ref b)]) (hcs : cells ≤ room_1.cells ∧ slots ≤ room_1.slots) (again : ∀ (H1 : Heap) (locs1 : List Loc), LwX K o H1 → va_S (fun q => s.heap.size ≤ q) s.heap H1 locs1 → W p l e room_1 s m #[.ref b] below meth c H1 locs1 cells slots Q (F0 m 914 ls [])) : W p l e room_1 s m #[.ref b] below meth c H locs cells slots Q (F0 m 470 ls []) := by
  obtain ⟨N, M, R, G, L, NU, TT, B, SS, F, hR, hX, hY⟩ := hW
  obtain ⟨hI, hH, hL0, hF2, hT, hF4, hNU⟩ := id hR
  have hG : (0 ≤ G 0 ∧ G 0 ≤ 4) ∧ (0 ≤ G 1 ∧ G 1 ≤ 4) := ⟨hH.2.1, hH.2.2.1⟩
  have hF0 : 0 ≤ F 0 ∧ F 0 ≤ 4 := by rw [hH.1]; exact hG.1
  have hF1 : 0 ≤ F 1 ∧ F 1 < 4 := hH.2.2.2.1
  have hF80 : 0 ≤ F 2 ∧ F 2 ≤ 80 := by rw [hF2]; exact hL0
  have hTF : TxT TT (F 2) := by rw [hF2]; exact hT
  have hbA : ¬ (fun q : Nat => s.heap.size ≤ q) b := Nat.not_le.mpr hbl
  obtain ⟨v1, r1, x1⟩ := iI_ex (xs (i + 1).toNat)
  obtain ⟨v2, r2, x2⟩ := iI_ex (xs (i + 2).toNat)
  obtain ⟨v3, r3, x3⟩ := iI_ex (xs (i + 3).toNat)
  refine lv_aload_n T.1 T.2.1 dL_470 rfl (lv_at hl 2 rfl) ?_
  refine lv_aload_n T.1 T.2.1 dL_471 rfl (lv_at hl 3 rfl) ?_
  refine lv_iload_n T.1 T.2.1 dL_472 rfl (lv_at hl 0 rfl) ?_
  refine xv_iconst T dL_473 ?_
  refine xv_iadd T dL_474 ?_
  refine xl_sld T hXs hbl hbA hS (z := i + 1) (by omega) hn x1 dL_475 ?_
  refine lv_aload_n T.1 T.2.1 dL_476 rfl (lv_at hl 3 rfl) ?_
  refine lv_iload_n T.1 T.2.1 dL_477 rfl (lv_at hl 0 rfl) ?_
  refine xv_iconst T dL_478 ?_
  refine xv_iadd T dL_479 ?_
  refine xl_sld T hXs hbl hbA hS (z := i + 2) (by omega) hn x2 dL_480 ?_
  refine lv_aload_n T.1 T.2.1 dL_481 rfl (lv_at hl 3 rfl) ?_
  refine lv_iload_n T.1 T.2.1 dL_482 rfl (lv_at hl 0 rfl) ?_
  refine xv_iconst T dL_483 ?_
  refine xv_iadd T dL_484 ?_
  refine xl_sld T hXs hbl hbA hS (z := i + 3) (by omega) hn x3 dL_485 ?_
  refine cI_V T hK hX hS 0 rfl rfl rfl (c_X7_bring l K o N M R G L NU TT v1 v2 v3 r1 r2 r3 hI hG) iX7_bring mw_2_195 ⟨Nat.le_of_ble_eq_true rfl, Nat.le_of_ble_eq_true rfl⟩ hX (fun q a => by have h9 := a.1; omega) rfl hl.1 rfl (Nat.le_of_ble_eq_true rfl) hcs dL_486 (fun z1 u1 H1 locs q1 hX1 _ hk1 hS => ?_)
  have hY := xP_out hY (m_D _ _ _ _ _ _ _) (fun _ a b => blk_x (by omega) a b) hk1
  refine lv_aload_n T.1 T.2.1 dL_489 rfl (lv_at hl 1 rfl) ?_
  refine lv_aload_n T.1 T.2.1 dL_490 rfl (lv_at hl 3 rfl) ?_
  refine lv_iload_n T.1 T.2.1 dL_491 rfl (lv_at hl 0 rfl) ?_
  refine xv_iconst T dL_492 ?_
  refine xv_iadd T dL_493 ?_
  refine xl_sld T hXs hbl hbA hS (z := i + 1) (by omega) hn x1 dL_494 ?_
  refine lv_aload_n T.1 T.2.1 dL_495 rfl (lv_at hl 3 rfl) ?_
  refine lv_iload_n T.1 T.2.1 dL_496 rfl (lv_at hl 0 rfl) ?_
  refine xv_iconst T dL_497 ?_
  refine xv_iadd T dL_498 ?_
  refine xl_sld T hXs hbl hbA hS (z := i + 2) (by omega) hn x2 dL_499 ?_
  refine lv_aload_n T.1 T.2.1 dL_500 rfl (lv_at hl 3 rfl) ?_
  refine lv_iload_n T.1 T.2.1 dL_501 rfl (lv_at hl 0 rfl) ?_
  refine xv_iconst T dL_502 ?_
  refine xv_iadd T dL_503 ?_
  refine xl_sld T hXs hbl hbA hS (z := i + 3) (by omega) hn x3 dL_504 ?_
  refine cI_V T hK hY hS 0 rfl rfl rfl (c_X8_bring l K (o + 153) N B SS TT F v1 v2 v3 r1 r2 r3 hI hF0 hF1) iX8_bring mw_4_95 ⟨Nat.le_of_ble_eq_true rfl, Nat.le_of_ble_eq_true rfl⟩ hY (fun q a => by have h9 := a.1; omega) rfl hl.1 rfl (Nat.le_of_ble_eq_true rfl) hcs dL_505 (fun z2 u2 H2 locs q2 hY2 _ hk2 hS => ?_)
  have hX9 := xP_out hX1 (xW_D _ _ _ _ _ _ _ _ _) (fun _ a b => blk_x (by omega) a b) hk2
  obtain ⟨n1, t1, g1⟩ := u1
  obtain ⟨qa, qb, qc⟩ := q1
  dsimp only at qa qb qc hX9
  subst qb
  subst qc
  obtain ⟨n2, qd, qe⟩ := q2
  subst qe
  dsimp only at hY2
  have e0 := qa.trans qd.symm
  have ez : z1 = z2 := congrArg Prod.fst e0
  have en : n1 = n2 := congrArg Prod.snd e0
  subst ez
  subst en
  have hI2 : Inv n1 := by
    have h9 := sBring_inv hI v1 v2 v3
    rw [← qa] at h9
    exact h9
  refine xl_same T (tgt := 914) (rfl) dL_508 (by decide) ?_
  exact again _ _ ⟨_, _, _, _, _, _, _, _, _, _, rel_chg hR hI2 z1, hX9, hY2⟩ hS
set_option maxHeartbeats 4000000 in
theorem lw_c11 (T : CF p m c cL_law 4 s #[.ref b] RL) (hK : xK K s) (hXs : va_X b n xs s s.heap) (hbl : b < s.heap.size) (ho : s.heap.size ≤ o) (hn : n ≤ 2560) {i : Int} (hi : 0 ≤ i ∧ i + 5 ≤ (n : Int)) {H : Heap} {locs : List Loc} (hW : LwX K o H) (hS : va_S (fun q => s.heap.size ≤ q) s.heap H locs) {ls : Array Slot} (hl : lv_has ls 4 [(3, .int (iI i)), (2, .ref (o + 153)), (1, .ref o), (0, .ref b)]) (hcs : cells ≤ room_1.cells ∧ slots ≤ room_1.slots) (again : ∀ (H1 : Heap) (locs1 : List Loc), LwX K o H1 → va_S (fun q => s.heap.size ≤ q) s.heap H1 locs1 → W p l e room_1 s m #[.ref b] below meth c H1 locs1 cells slots Q (F0 m 914 ls [])) : W p l e room_1 s m #[.ref b] below meth c H locs cells slots Q (F0 m 513 ls []) := by
  obtain ⟨N, M, R, G, L, NU, TT, B, SS, F, hR, hX, hY⟩ := hW
  obtain ⟨hI, hH, hL0, hF2, hT, hF4, hNU⟩ := id hR
  have hG : (0 ≤ G 0 ∧ G 0 ≤ 4) ∧ (0 ≤ G 1 ∧ G 1 ≤ 4) := ⟨hH.2.1, hH.2.2.1⟩
  have hF0 : 0 ≤ F 0 ∧ F 0 ≤ 4 := by rw [hH.1]; exact hG.1
  have hF1 : 0 ≤ F 1 ∧ F 1 < 4 := hH.2.2.2.1
  have hF80 : 0 ≤ F 2 ∧ F 2 ≤ 80 := by rw [hF2]; exact hL0
  have hTF : TxT TT (F 2) := by rw [hF2]; exact hT
  have hbA : ¬ (fun q : Nat => s.heap.size ≤ q) b := Nat.not_le.mpr hbl
  obtain ⟨v1, r1, x1⟩ := iI_ex (xs (i + 1).toNat)
  obtain ⟨v2, r2, x2⟩ := iI_ex (xs (i + 2).toNat)
  obtain ⟨v3, r3, x3⟩ := iI_ex (xs (i + 3).toNat)
  obtain ⟨v4, r4, x4⟩ := iI_ex (xs (i + 4).toNat)
  refine lv_aload_n T.1 T.2.1 dL_513 rfl (lv_at hl 2 rfl) ?_
  refine lv_aload_n T.1 T.2.1 dL_514 rfl (lv_at hl 3 rfl) ?_
  refine lv_iload_n T.1 T.2.1 dL_515 rfl (lv_at hl 0 rfl) ?_
  refine xv_iconst T dL_516 ?_
  refine xv_iadd T dL_517 ?_
  refine xl_sld T hXs hbl hbA hS (z := i + 1) (by omega) hn x1 dL_518 ?_
  refine lv_aload_n T.1 T.2.1 dL_519 rfl (lv_at hl 3 rfl) ?_
  refine lv_iload_n T.1 T.2.1 dL_520 rfl (lv_at hl 0 rfl) ?_
  refine xv_iconst T dL_521 ?_
  refine xv_iadd T dL_522 ?_
  refine xl_sld T hXs hbl hbA hS (z := i + 2) (by omega) hn x2 dL_523 ?_
  refine lv_aload_n T.1 T.2.1 dL_524 rfl (lv_at hl 3 rfl) ?_
  refine lv_iload_n T.1 T.2.1 dL_525 rfl (lv_at hl 0 rfl) ?_
  refine xv_iconst T dL_526 ?_
  refine xv_iadd T dL_527 ?_
  refine xl_sld T hXs hbl hbA hS (z := i + 3) (by omega) hn x3 dL_528 ?_
  refine lv_aload_n T.1 T.2.1 dL_529 rfl (lv_at hl 3 rfl) ?_
  refine lv_iload_n T.1 T.2.1 dL_530 rfl (lv_at hl 0 rfl) ?_
  refine xv_iconst T dL_531 ?_
  refine xv_iadd T dL_532 ?_
  refine xl_sld T hXs hbl hbA hS (z := i + 4) (by omega) hn x4 dL_533 ?_
  refine cI_V T hK hX hS 0 rfl rfl rfl (c_X7_smash l K o N M R G L NU TT v1 v2 v3 v4 r1 r2 r3 r4 hI hG) iX7_smash mw_2_203 ⟨Nat.le_of_ble_eq_true rfl, Nat.le_of_ble_eq_true rfl⟩ hX (fun q a => by have h9 := a.1; omega) rfl hl.1 rfl (Nat.le_of_ble_eq_true rfl) hcs dL_534 (fun z1 u1 H1 locs q1 hX1 _ hk1 hS => ?_)
  have hY := xP_out hY (m_D _ _ _ _ _ _ _) (fun _ a b => blk_x (by omega) a b) hk1
  refine lv_aload_n T.1 T.2.1 dL_537 rfl (lv_at hl 1 rfl) ?_
  refine lv_aload_n T.1 T.2.1 dL_538 rfl (lv_at hl 3 rfl) ?_
  refine lv_iload_n T.1 T.2.1 dL_539 rfl (lv_at hl 0 rfl) ?_
  refine xv_iconst T dL_540 ?_
  refine xv_iadd T dL_541 ?_
  refine xl_sld T hXs hbl hbA hS (z := i + 1) (by omega) hn x1 dL_542 ?_
  refine lv_aload_n T.1 T.2.1 dL_543 rfl (lv_at hl 3 rfl) ?_
  refine lv_iload_n T.1 T.2.1 dL_544 rfl (lv_at hl 0 rfl) ?_
  refine xv_iconst T dL_545 ?_
  refine xv_iadd T dL_546 ?_
  refine xl_sld T hXs hbl hbA hS (z := i + 2) (by omega) hn x2 dL_547 ?_
  refine lv_aload_n T.1 T.2.1 dL_548 rfl (lv_at hl 3 rfl) ?_
  refine lv_iload_n T.1 T.2.1 dL_549 rfl (lv_at hl 0 rfl) ?_
  refine xv_iconst T dL_550 ?_
  refine xv_iadd T dL_551 ?_
  refine xl_sld T hXs hbl hbA hS (z := i + 3) (by omega) hn x3 dL_552 ?_
  refine lv_aload_n T.1 T.2.1 dL_553 rfl (lv_at hl 3 rfl) ?_
  refine lv_iload_n T.1 T.2.1 dL_554 rfl (lv_at hl 0 rfl) ?_
  refine xv_iconst T dL_555 ?_
  refine xv_iadd T dL_556 ?_
  refine xl_sld T hXs hbl hbA hS (z := i + 4) (by omega) hn x4 dL_557 ?_
  refine cI_V T hK hY hS 0 rfl rfl rfl (c_X8_smash l K (o + 153) N B SS TT F v1 v2 v3 v4 r1 r2 r3 r4 hI hF0 hF1) iX8_smash mw_4_103 ⟨Nat.le_of_ble_eq_true rfl, Nat.le_of_ble_eq_true rfl⟩ hY (fun q a => by have h9 := a.1; omega) rfl hl.1 rfl (Nat.le_of_ble_eq_true rfl) hcs dL_558 (fun z2 u2 H2 locs q2 hY2 _ hk2 hS => ?_)
  have hX9 := xP_out hX1 (xW_D _ _ _ _ _ _ _ _ _) (fun _ a b => blk_x (by omega) a b) hk2
  obtain ⟨n1, t1, g1⟩ := u1
  obtain ⟨qa, qb, qc⟩ := q1
  dsimp only at qa qb qc hX9
  subst qb
  subst qc
  obtain ⟨n2, qd, qe⟩ := q2
  subst qe
  dsimp only at hY2
  have e0 := qa.trans qd.symm
  have ez : z1 = z2 := congrArg Prod.fst e0
  have en : n1 = n2 := congrArg Prod.snd e0
  subst ez
  subst en
  have hI2 : Inv n1 := by
    have h9 := sSmash_inv hI v1 v2 v3 v4
    rw [← qa] at h9
    exact h9
  refine xl_same T (tgt := 914) (rfl) dL_561 (by decide) ?_
  exact again _ _ ⟨_, _, _, _, _, _, _, _, _, _, rel_chg hR hI2 z1, hX9, hY2⟩ hS
set_option maxHeartbeats 4000000 in
theorem lw_c12 (T : CF p m c cL_law 4 s #[.ref b] RL) (hK : xK K s) (hXs : va_X b n xs s s.heap) (hbl : b < s.heap.size) (ho : s.heap.size ≤ o) (hn : n ≤ 2560) {i : Int} (hi : 0 ≤ i ∧ i + 5 ≤ (n : Int)) {H : Heap} {locs : List Loc} (hW : LwX K o H) (hS : va_S (fun q => s.heap.size ≤ q) s.heap H locs) {ls : Array Slot} (hl : lv_has ls 4 [(3, .int (iI i)), (2, .ref (o + 153)), (1, .ref o), (0, .ref b)]) (hcs : cells ≤ room_1.cells ∧ slots ≤ room_1.slots) (again : ∀ (H1 : Heap) (locs1 : List Loc), LwX K o H1 → va_S (fun q => s.heap.size ≤ q) s.heap H1 locs1 → W p l e room_1 s m #[.ref b] below meth c H1 locs1 cells slots Q (F0 m 914 ls [])) : W p l e room_1 s m #[.ref b] below meth c H locs cells slots Q (F0 m 566 ls []) := by
  obtain ⟨N, M, R, G, L, NU, TT, B, SS, F, hR, hX, hY⟩ := hW
  obtain ⟨hI, hH, hL0, hF2, hT, hF4, hNU⟩ := id hR
  have hG : (0 ≤ G 0 ∧ G 0 ≤ 4) ∧ (0 ≤ G 1 ∧ G 1 ≤ 4) := ⟨hH.2.1, hH.2.2.1⟩
  have hF0 : 0 ≤ F 0 ∧ F 0 ≤ 4 := by rw [hH.1]; exact hG.1
  have hF1 : 0 ≤ F 1 ∧ F 1 < 4 := hH.2.2.2.1
  have hF80 : 0 ≤ F 2 ∧ F 2 ≤ 80 := by rw [hF2]; exact hL0
  have hTF : TxT TT (F 2) := by rw [hF2]; exact hT
  have hbA : ¬ (fun q : Nat => s.heap.size ≤ q) b := Nat.not_le.mpr hbl
  obtain ⟨v1, r1, x1⟩ := iI_ex (xs (i + 1).toNat)
  refine lv_aload_n T.1 T.2.1 dL_566 rfl (lv_at hl 2 rfl) ?_
  refine lv_aload_n T.1 T.2.1 dL_567 rfl (lv_at hl 3 rfl) ?_
  refine lv_iload_n T.1 T.2.1 dL_568 rfl (lv_at hl 0 rfl) ?_
  refine xv_iconst T dL_569 ?_
  refine xv_iadd T dL_570 ?_
  refine xl_sld T hXs hbl hbA hS (z := i + 1) (by omega) hn x1 dL_571 ?_
  refine cI_V T hK hX hS 0 rfl rfl rfl (c_X7_tear l K o N M R G L NU TT v1 r1 hI hG) iX7_tear mw_2_211 ⟨Nat.le_of_ble_eq_true rfl, Nat.le_of_ble_eq_true rfl⟩ hX (fun q a => by have h9 := a.1; omega) rfl hl.1 rfl (Nat.le_of_ble_eq_true rfl) hcs dL_572 (fun z1 u1 H1 locs q1 hX1 _ hk1 hS => ?_)
  have hY := xP_out hY (m_D _ _ _ _ _ _ _) (fun _ a b => blk_x (by omega) a b) hk1
  refine lv_aload_n T.1 T.2.1 dL_575 rfl (lv_at hl 1 rfl) ?_
  refine lv_aload_n T.1 T.2.1 dL_576 rfl (lv_at hl 3 rfl) ?_
  refine lv_iload_n T.1 T.2.1 dL_577 rfl (lv_at hl 0 rfl) ?_
  refine xv_iconst T dL_578 ?_
  refine xv_iadd T dL_579 ?_
  refine xl_sld T hXs hbl hbA hS (z := i + 1) (by omega) hn x1 dL_580 ?_
  refine cI_V T hK hY hS 0 rfl rfl rfl (c_X8_tear l K (o + 153) N B SS TT F v1 r1 hI hF0 hF1) iX8_tear mw_4_111 ⟨Nat.le_of_ble_eq_true rfl, Nat.le_of_ble_eq_true rfl⟩ hY (fun q a => by have h9 := a.1; omega) rfl hl.1 rfl (Nat.le_of_ble_eq_true rfl) hcs dL_581 (fun z2 u2 H2 locs q2 hY2 _ hk2 hS => ?_)
  have hX9 := xP_out hX1 (xW_D _ _ _ _ _ _ _ _ _) (fun _ a b => blk_x (by omega) a b) hk2
  obtain ⟨n1, t1, g1⟩ := u1
  obtain ⟨qa, qb, qc⟩ := q1
  dsimp only at qa qb qc hX9
  subst qb
  subst qc
  obtain ⟨n2, qd, qe⟩ := q2
  subst qe
  dsimp only at hY2
  have e0 := qa.trans qd.symm
  have ez : z1 = z2 := congrArg Prod.fst e0
  have en : n1 = n2 := congrArg Prod.snd e0
  subst ez
  subst en
  have hI2 : Inv n1 := by
    have h9 := sTear_inv hI v1
    rw [← qa] at h9
    exact h9
  refine xl_same T (tgt := 914) (rfl) dL_584 (by decide) ?_
  exact again _ _ ⟨_, _, _, _, _, _, _, _, _, _, rel_chg hR hI2 z1, hX9, hY2⟩ hS
set_option maxHeartbeats 4000000 in
theorem lw_c13 (T : CF p m c cL_law 4 s #[.ref b] RL) (hK : xK K s) (hXs : va_X b n xs s s.heap) (hbl : b < s.heap.size) (ho : s.heap.size ≤ o) (hn : n ≤ 2560) {i : Int} (hi : 0 ≤ i ∧ i + 5 ≤ (n : Int)) {H : Heap} {locs : List Loc} (hW : LwX K o H) (hS : va_S (fun q => s.heap.size ≤ q) s.heap H locs) {ls : Array Slot} (hl : lv_has ls 4 [(3, .int (iI i)), (2, .ref (o + 153)), (1, .ref o), (0, .ref b)]) (hcs : cells ≤ room_1.cells ∧ slots ≤ room_1.slots) (again : ∀ (H1 : Heap) (locs1 : List Loc), LwX K o H1 → va_S (fun q => s.heap.size ≤ q) s.heap H1 locs1 → W p l e room_1 s m #[.ref b] below meth c H1 locs1 cells slots Q (F0 m 914 ls [])) : W p l e room_1 s m #[.ref b] below meth c H locs cells slots Q (F0 m 589 ls []) := by
  obtain ⟨N, M, R, G, L, NU, TT, B, SS, F, hR, hX, hY⟩ := hW
  obtain ⟨hI, hH, hL0, hF2, hT, hF4, hNU⟩ := id hR
  have hG : (0 ≤ G 0 ∧ G 0 ≤ 4) ∧ (0 ≤ G 1 ∧ G 1 ≤ 4) := ⟨hH.2.1, hH.2.2.1⟩
  have hF0 : 0 ≤ F 0 ∧ F 0 ≤ 4 := by rw [hH.1]; exact hG.1
  have hF1 : 0 ≤ F 1 ∧ F 1 < 4 := hH.2.2.2.1
  have hF80 : 0 ≤ F 2 ∧ F 2 ≤ 80 := by rw [hF2]; exact hL0
  have hTF : TxT TT (F 2) := by rw [hF2]; exact hT
  have hbA : ¬ (fun q : Nat => s.heap.size ≤ q) b := Nat.not_le.mpr hbl
  obtain ⟨v1, r1, x1⟩ := iI_ex (xs (i + 1).toNat)
  refine lv_aload_n T.1 T.2.1 dL_589 rfl (lv_at hl 2 rfl) ?_
  refine lv_aload_n T.1 T.2.1 dL_590 rfl (lv_at hl 3 rfl) ?_
  refine lv_iload_n T.1 T.2.1 dL_591 rfl (lv_at hl 0 rfl) ?_
  refine xv_iconst T dL_592 ?_
  refine xv_iadd T dL_593 ?_
  refine xl_sld T hXs hbl hbA hS (z := i + 1) (by omega) hn x1 dL_594 ?_
  refine cI_V T hK hX hS 0 rfl rfl rfl (c_X7_inspect l K o N M R G L NU TT v1 r1 hI hG) iX7_inspect mw_2_219 ⟨Nat.le_of_ble_eq_true rfl, Nat.le_of_ble_eq_true rfl⟩ hX (fun q a => by have h9 := a.1; omega) rfl hl.1 rfl (Nat.le_of_ble_eq_true rfl) hcs dL_595 (fun z1 u1 H1 locs q1 hX1 _ hk1 hS => ?_)
  have hY := xP_out hY (m_D _ _ _ _ _ _ _) (fun _ a b => blk_x (by omega) a b) hk1
  refine lv_aload_n T.1 T.2.1 dL_598 rfl (lv_at hl 1 rfl) ?_
  refine lv_aload_n T.1 T.2.1 dL_599 rfl (lv_at hl 3 rfl) ?_
  refine lv_iload_n T.1 T.2.1 dL_600 rfl (lv_at hl 0 rfl) ?_
  refine xv_iconst T dL_601 ?_
  refine xv_iadd T dL_602 ?_
  refine xl_sld T hXs hbl hbA hS (z := i + 1) (by omega) hn x1 dL_603 ?_
  refine cI_V T hK hY hS 0 rfl rfl rfl (c_X8_inspect l K (o + 153) N B SS TT F v1 r1 hI hF0 hF1) iX8_inspect mw_4_119 ⟨Nat.le_of_ble_eq_true rfl, Nat.le_of_ble_eq_true rfl⟩ hY (fun q a => by have h9 := a.1; omega) rfl hl.1 rfl (Nat.le_of_ble_eq_true rfl) hcs dL_604 (fun z2 u2 H2 locs q2 hY2 _ hk2 hS => ?_)
  have hX9 := xP_out hX1 (xW_D _ _ _ _ _ _ _ _ _) (fun _ a b => blk_x (by omega) a b) hk2
  obtain ⟨n1, t1, g1⟩ := u1
  obtain ⟨qa, qb, qc⟩ := q1
  dsimp only at qa qb qc hX9
  subst qb
  subst qc
  obtain ⟨n2, qd, qe⟩ := q2
  subst qe
  dsimp only at hY2
  have e0 := qa.trans qd.symm
  have ez : z1 = z2 := congrArg Prod.fst e0
  have en : n1 = n2 := congrArg Prod.snd e0
  subst ez
  subst en
  have hI2 : Inv n1 := by
    have h9 := sInspect_inv hI v1
    rw [← qa] at h9
    exact h9
  refine xl_same T (tgt := 914) (rfl) dL_607 (by decide) ?_
  exact again _ _ ⟨_, _, _, _, _, _, _, _, _, _, rel_chg hR hI2 z1, hX9, hY2⟩ hS
set_option maxHeartbeats 4000000 in
theorem lw_c14 (T : CF p m c cL_law 4 s #[.ref b] RL) (hK : xK K s) (hXs : va_X b n xs s s.heap) (hbl : b < s.heap.size) (ho : s.heap.size ≤ o) (hn : n ≤ 2560) {i : Int} (hi : 0 ≤ i ∧ i + 5 ≤ (n : Int)) {H : Heap} {locs : List Loc} (hW : LwX K o H) (hS : va_S (fun q => s.heap.size ≤ q) s.heap H locs) {ls : Array Slot} (hl : lv_has ls 4 [(3, .int (iI i)), (2, .ref (o + 153)), (1, .ref o), (0, .ref b)]) (hcs : cells ≤ room_1.cells ∧ slots ≤ room_1.slots) (again : ∀ (H1 : Heap) (locs1 : List Loc), LwX K o H1 → va_S (fun q => s.heap.size ≤ q) s.heap H1 locs1 → W p l e room_1 s m #[.ref b] below meth c H1 locs1 cells slots Q (F0 m 914 ls [])) : W p l e room_1 s m #[.ref b] below meth c H locs cells slots Q (F0 m 612 ls []) := by
  obtain ⟨N, M, R, G, L, NU, TT, B, SS, F, hR, hX, hY⟩ := hW
  obtain ⟨hI, hH, hL0, hF2, hT, hF4, hNU⟩ := id hR
  have hG : (0 ≤ G 0 ∧ G 0 ≤ 4) ∧ (0 ≤ G 1 ∧ G 1 ≤ 4) := ⟨hH.2.1, hH.2.2.1⟩
  have hF0 : 0 ≤ F 0 ∧ F 0 ≤ 4 := by rw [hH.1]; exact hG.1
  have hF1 : 0 ≤ F 1 ∧ F 1 < 4 := hH.2.2.2.1
  have hF80 : 0 ≤ F 2 ∧ F 2 ≤ 80 := by rw [hF2]; exact hL0
  have hTF : TxT TT (F 2) := by rw [hF2]; exact hT
  have hbA : ¬ (fun q : Nat => s.heap.size ≤ q) b := Nat.not_le.mpr hbl
  obtain ⟨v1, r1, x1⟩ := iI_ex (xs (i + 1).toNat)
  refine lv_aload_n T.1 T.2.1 dL_612 rfl (lv_at hl 2 rfl) ?_
  refine lv_aload_n T.1 T.2.1 dL_613 rfl (lv_at hl 3 rfl) ?_
  refine lv_iload_n T.1 T.2.1 dL_614 rfl (lv_at hl 0 rfl) ?_
  refine xv_iconst T dL_615 ?_
  refine xv_iadd T dL_616 ?_
  refine xl_sld T hXs hbl hbA hS (z := i + 1) (by omega) hn x1 dL_617 ?_
  refine cI_V T hK hX hS 0 rfl rfl rfl (c_X7_cross l K o N M R G L NU TT v1 r1 hI hG) iX7_cross mw_2_231 ⟨Nat.le_of_ble_eq_true rfl, Nat.le_of_ble_eq_true rfl⟩ hX (fun q a => by have h9 := a.1; omega) rfl hl.1 rfl (Nat.le_of_ble_eq_true rfl) hcs dL_618 (fun z1 u1 H1 locs q1 hX1 _ hk1 hS => ?_)
  have hY := xP_out hY (m_D _ _ _ _ _ _ _) (fun _ a b => blk_x (by omega) a b) hk1
  refine lv_aload_n T.1 T.2.1 dL_621 rfl (lv_at hl 1 rfl) ?_
  refine lv_aload_n T.1 T.2.1 dL_622 rfl (lv_at hl 3 rfl) ?_
  refine lv_iload_n T.1 T.2.1 dL_623 rfl (lv_at hl 0 rfl) ?_
  refine xv_iconst T dL_624 ?_
  refine xv_iadd T dL_625 ?_
  refine xl_sld T hXs hbl hbA hS (z := i + 1) (by omega) hn x1 dL_626 ?_
  refine cI_V T hK hY hS 0 rfl rfl rfl (c_X8_cross l K (o + 153) N B SS TT F v1 r1 hI hF0 hF1) iX8_cross mw_4_132 ⟨Nat.le_of_ble_eq_true rfl, Nat.le_of_ble_eq_true rfl⟩ hY (fun q a => by have h9 := a.1; omega) rfl hl.1 rfl (Nat.le_of_ble_eq_true rfl) hcs dL_627 (fun z2 u2 H2 locs q2 hY2 _ hk2 hS => ?_)
  have hX9 := xP_out hX1 (xW_D _ _ _ _ _ _ _ _ _) (fun _ a b => blk_x (by omega) a b) hk2
  obtain ⟨n1, t1, g1⟩ := u1
  obtain ⟨qa, qb, qc⟩ := q1
  dsimp only at qa qb qc hX9
  subst qb
  subst qc
  obtain ⟨n2, qd, qe⟩ := q2
  subst qe
  dsimp only at hY2
  have e0 := qa.trans qd.symm
  have ez : z1 = z2 := congrArg Prod.fst e0
  have en : n1 = n2 := congrArg Prod.snd e0
  subst ez
  subst en
  have hI2 : Inv n1 := by
    have h9 := sCross_inv hI v1
    rw [← qa] at h9
    exact h9
  refine xl_same T (tgt := 914) (rfl) dL_630 (by decide) ?_
  exact again _ _ ⟨_, _, _, _, _, _, _, _, _, _, rel_chg hR hI2 z1, hX9, hY2⟩ hS
set_option maxHeartbeats 4000000 in
theorem lw_c15 (T : CF p m c cL_law 4 s #[.ref b] RL) (hK : xK K s) (hXs : va_X b n xs s s.heap) (hbl : b < s.heap.size) (ho : s.heap.size ≤ o) (hn : n ≤ 2560) {i : Int} (hi : 0 ≤ i ∧ i + 5 ≤ (n : Int)) {H : Heap} {locs : List Loc} (hW : LwX K o H) (hS : va_S (fun q => s.heap.size ≤ q) s.heap H locs) {ls : Array Slot} (hl : lv_has ls 4 [(3, .int (iI i)), (2, .ref (o + 153)), (1, .ref o), (0, .ref b)]) (hcs : cells ≤ room_1.cells ∧ slots ≤ room_1.slots) (again : ∀ (H1 : Heap) (locs1 : List Loc), LwX K o H1 → va_S (fun q => s.heap.size ≤ q) s.heap H1 locs1 → W p l e room_1 s m #[.ref b] below meth c H1 locs1 cells slots Q (F0 m 914 ls [])) : W p l e room_1 s m #[.ref b] below meth c H locs cells slots Q (F0 m 635 ls []) := by
  obtain ⟨N, M, R, G, L, NU, TT, B, SS, F, hR, hX, hY⟩ := hW
  obtain ⟨hI, hH, hL0, hF2, hT, hF4, hNU⟩ := id hR
  have hG : (0 ≤ G 0 ∧ G 0 ≤ 4) ∧ (0 ≤ G 1 ∧ G 1 ≤ 4) := ⟨hH.2.1, hH.2.2.1⟩
  have hF0 : 0 ≤ F 0 ∧ F 0 ≤ 4 := by rw [hH.1]; exact hG.1
  have hF1 : 0 ≤ F 1 ∧ F 1 < 4 := hH.2.2.2.1
  have hF80 : 0 ≤ F 2 ∧ F 2 ≤ 80 := by rw [hF2]; exact hL0
  have hTF : TxT TT (F 2) := by rw [hF2]; exact hT
  have hbA : ¬ (fun q : Nat => s.heap.size ≤ q) b := Nat.not_le.mpr hbl
  obtain ⟨v1, r1, x1⟩ := iI_ex (xs (i + 1).toNat)
  refine lv_aload_n T.1 T.2.1 dL_635 rfl (lv_at hl 2 rfl) ?_
  refine lv_aload_n T.1 T.2.1 dL_636 rfl (lv_at hl 3 rfl) ?_
  refine lv_iload_n T.1 T.2.1 dL_637 rfl (lv_at hl 0 rfl) ?_
  refine xv_iconst T dL_638 ?_
  refine xv_iadd T dL_639 ?_
  refine xl_sld T hXs hbl hbA hS (z := i + 1) (by omega) hn x1 dL_640 ?_
  refine cI_V T hK hX hS 0 rfl rfl rfl (c_X7_pass l K o N M R G L NU TT v1 r1 hI hG) iX7_pass mw_3_11 ⟨Nat.le_of_ble_eq_true rfl, Nat.le_of_ble_eq_true rfl⟩ hX (fun q a => by have h9 := a.1; omega) rfl hl.1 rfl (Nat.le_of_ble_eq_true rfl) hcs dL_641 (fun z1 u1 H1 locs q1 hX1 _ hk1 hS => ?_)
  have hY := xP_out hY (m_D _ _ _ _ _ _ _) (fun _ a b => blk_x (by omega) a b) hk1
  refine lv_aload_n T.1 T.2.1 dL_644 rfl (lv_at hl 1 rfl) ?_
  refine lv_aload_n T.1 T.2.1 dL_645 rfl (lv_at hl 3 rfl) ?_
  refine lv_iload_n T.1 T.2.1 dL_646 rfl (lv_at hl 0 rfl) ?_
  refine xv_iconst T dL_647 ?_
  refine xv_iadd T dL_648 ?_
  refine xl_sld T hXs hbl hbA hS (z := i + 1) (by omega) hn x1 dL_649 ?_
  refine cI_V T hK hY hS 0 rfl rfl rfl (c_X8_pass l K (o + 153) N B SS TT F v1 r1 hI hF0 hF1) iX8_pass mw_4_144 ⟨Nat.le_of_ble_eq_true rfl, Nat.le_of_ble_eq_true rfl⟩ hY (fun q a => by have h9 := a.1; omega) rfl hl.1 rfl (Nat.le_of_ble_eq_true rfl) hcs dL_650 (fun z2 u2 H2 locs q2 hY2 _ hk2 hS => ?_)
  have hX9 := xP_out hX1 (xW_D _ _ _ _ _ _ _ _ _) (fun _ a b => blk_x (by omega) a b) hk2
  obtain ⟨n1, t1, g1⟩ := u1
  obtain ⟨qa, qb, qc⟩ := q1
  dsimp only at qa qb qc hX9
  subst qb
  subst qc
  obtain ⟨n2, qd, qe⟩ := q2
  subst qe
  dsimp only at hY2
  have e0 := qa.trans qd.symm
  have ez : z1 = z2 := congrArg Prod.fst e0
  have en : n1 = n2 := congrArg Prod.snd e0
  subst ez
  subst en
  have hI2 : Inv n1 := by
    have h9 := sPass_inv hI v1
    rw [← qa] at h9
    exact h9
  refine xl_same T (tgt := 914) (rfl) dL_653 (by decide) ?_
  exact again _ _ ⟨_, _, _, _, _, _, _, _, _, _, rel_chg hR hI2 z1, hX9, hY2⟩ hS
set_option maxHeartbeats 4000000 in
theorem lw_c16 (T : CF p m c cL_law 4 s #[.ref b] RL) (hK : xK K s) (hXs : va_X b n xs s s.heap) (hbl : b < s.heap.size) (ho : s.heap.size ≤ o) (hn : n ≤ 2560) {i : Int} (hi : 0 ≤ i ∧ i + 5 ≤ (n : Int)) {H : Heap} {locs : List Loc} (hW : LwX K o H) (hS : va_S (fun q => s.heap.size ≤ q) s.heap H locs) {ls : Array Slot} (hl : lv_has ls 4 [(3, .int (iI i)), (2, .ref (o + 153)), (1, .ref o), (0, .ref b)]) (hcs : cells ≤ room_1.cells ∧ slots ≤ room_1.slots) (again : ∀ (H1 : Heap) (locs1 : List Loc), LwX K o H1 → va_S (fun q => s.heap.size ≤ q) s.heap H1 locs1 → W p l e room_1 s m #[.ref b] below meth c H1 locs1 cells slots Q (F0 m 914 ls [])) : W p l e room_1 s m #[.ref b] below meth c H locs cells slots Q (F0 m 658 ls []) := by
  obtain ⟨N, M, R, G, L, NU, TT, B, SS, F, hR, hX, hY⟩ := hW
  obtain ⟨hI, hH, hL0, hF2, hT, hF4, hNU⟩ := id hR
  have hG : (0 ≤ G 0 ∧ G 0 ≤ 4) ∧ (0 ≤ G 1 ∧ G 1 ≤ 4) := ⟨hH.2.1, hH.2.2.1⟩
  have hF0 : 0 ≤ F 0 ∧ F 0 ≤ 4 := by rw [hH.1]; exact hG.1
  have hF1 : 0 ≤ F 1 ∧ F 1 < 4 := hH.2.2.2.1
  have hF80 : 0 ≤ F 2 ∧ F 2 ≤ 80 := by rw [hF2]; exact hL0
  have hTF : TxT TT (F 2) := by rw [hF2]; exact hT
  have hbA : ¬ (fun q : Nat => s.heap.size ≤ q) b := Nat.not_le.mpr hbl
  obtain ⟨v1, r1, x1⟩ := iI_ex (xs (i + 1).toNat)
  obtain ⟨v2, r2, x2⟩ := iI_ex (xs (i + 2).toNat)
  refine lv_aload_n T.1 T.2.1 dL_658 rfl (lv_at hl 2 rfl) ?_
  refine lv_aload_n T.1 T.2.1 dL_659 rfl (lv_at hl 3 rfl) ?_
  refine lv_iload_n T.1 T.2.1 dL_660 rfl (lv_at hl 0 rfl) ?_
  refine xv_iconst T dL_661 ?_
  refine xv_iadd T dL_662 ?_
  refine xl_sld T hXs hbl hbA hS (z := i + 1) (by omega) hn x1 dL_663 ?_
  refine lv_aload_n T.1 T.2.1 dL_664 rfl (lv_at hl 3 rfl) ?_
  refine lv_iload_n T.1 T.2.1 dL_665 rfl (lv_at hl 0 rfl) ?_
  refine xv_iconst T dL_666 ?_
  refine xv_iadd T dL_667 ?_
  refine xl_sld T hXs hbl hbA hS (z := i + 2) (by omega) hn x2 dL_668 ?_
  refine cI_V T hK hX hS 0 rfl rfl rfl (c_X7_set l K o N M R G L NU TT v1 v2 r1 r2 hI hG) iX7_set mw_3_34 ⟨Nat.le_of_ble_eq_true rfl, Nat.le_of_ble_eq_true rfl⟩ hX (fun q a => by have h9 := a.1; omega) rfl hl.1 rfl (Nat.le_of_ble_eq_true rfl) hcs dL_669 (fun z1 u1 H1 locs q1 hX1 _ hk1 hS => ?_)
  have hY := xP_out hY (m_D _ _ _ _ _ _ _) (fun _ a b => blk_x (by omega) a b) hk1
  refine lv_aload_n T.1 T.2.1 dL_672 rfl (lv_at hl 1 rfl) ?_
  refine lv_aload_n T.1 T.2.1 dL_673 rfl (lv_at hl 3 rfl) ?_
  refine lv_iload_n T.1 T.2.1 dL_674 rfl (lv_at hl 0 rfl) ?_
  refine xv_iconst T dL_675 ?_
  refine xv_iadd T dL_676 ?_
  refine xl_sld T hXs hbl hbA hS (z := i + 1) (by omega) hn x1 dL_677 ?_
  refine lv_aload_n T.1 T.2.1 dL_678 rfl (lv_at hl 3 rfl) ?_
  refine lv_iload_n T.1 T.2.1 dL_679 rfl (lv_at hl 0 rfl) ?_
  refine xv_iconst T dL_680 ?_
  refine xv_iadd T dL_681 ?_
  refine xl_sld T hXs hbl hbA hS (z := i + 2) (by omega) hn x2 dL_682 ?_
  refine cI_V T hK hY hS 0 rfl rfl rfl (c_X8_set l K (o + 153) N B SS TT F v1 v2 r1 r2 hI hF0 hF1) iX8_set mw_4_156 ⟨Nat.le_of_ble_eq_true rfl, Nat.le_of_ble_eq_true rfl⟩ hY (fun q a => by have h9 := a.1; omega) rfl hl.1 rfl (Nat.le_of_ble_eq_true rfl) hcs dL_683 (fun z2 u2 H2 locs q2 hY2 _ hk2 hS => ?_)
  have hX9 := xP_out hX1 (xW_D _ _ _ _ _ _ _ _ _) (fun _ a b => blk_x (by omega) a b) hk2
  obtain ⟨n1, t1, g1⟩ := u1
  obtain ⟨qa, qb, qc⟩ := q1
  dsimp only at qa qb qc hX9
  subst qb
  subst qc
  obtain ⟨n2, b2, p2⟩ := u2
  obtain ⟨qd, qe⟩ := q2
  dsimp only at qd qe hY2
  subst qe
  have e0 := qa.trans qd.symm
  have ez : z1 = z2 := congrArg Prod.fst e0
  have en : n1 = n2 := congrArg Prod.snd e0
  subst ez
  subst en
  have hI2 : Inv n1 := by
    have h9 := sSet_inv hI v1 v2
    rw [← qa] at h9
    exact h9
  refine xl_same T (tgt := 914) (rfl) dL_686 (by decide) ?_
  exact again _ _ ⟨_, _, _, _, _, _, _, _, _, _, rel_chg hR hI2 z1, hX9, hY2⟩ hS
set_option maxHeartbeats 4000000 in
theorem lw_c17 (T : CF p m c cL_law 4 s #[.ref b] RL) (hK : xK K s) (hXs : va_X b n xs s s.heap) (hbl : b < s.heap.size) (ho : s.heap.size ≤ o) (hn : n ≤ 2560) {i : Int} (hi : 0 ≤ i ∧ i + 5 ≤ (n : Int)) {H : Heap} {locs : List Loc} (hW : LwX K o H) (hS : va_S (fun q => s.heap.size ≤ q) s.heap H locs) {ls : Array Slot} (hl : lv_has ls 4 [(3, .int (iI i)), (2, .ref (o + 153)), (1, .ref o), (0, .ref b)]) (hcs : cells ≤ room_1.cells ∧ slots ≤ room_1.slots) (again : ∀ (H1 : Heap) (locs1 : List Loc), LwX K o H1 → va_S (fun q => s.heap.size ≤ q) s.heap H1 locs1 → W p l e room_1 s m #[.ref b] below meth c H1 locs1 cells slots Q (F0 m 914 ls [])) : W p l e room_1 s m #[.ref b] below meth c H locs cells slots Q (F0 m 691 ls []) := by
  obtain ⟨N, M, R, G, L, NU, TT, B, SS, F, hR, hX, hY⟩ := hW
  obtain ⟨hI, hH, hL0, hF2, hT, hF4, hNU⟩ := id hR
  have hG : (0 ≤ G 0 ∧ G 0 ≤ 4) ∧ (0 ≤ G 1 ∧ G 1 ≤ 4) := ⟨hH.2.1, hH.2.2.1⟩
  have hF0 : 0 ≤ F 0 ∧ F 0 ≤ 4 := by rw [hH.1]; exact hG.1
  have hF1 : 0 ≤ F 1 ∧ F 1 < 4 := hH.2.2.2.1
  have hF80 : 0 ≤ F 2 ∧ F 2 ≤ 80 := by rw [hF2]; exact hL0
  have hTF : TxT TT (F 2) := by rw [hF2]; exact hT
  have hbA : ¬ (fun q : Nat => s.heap.size ≤ q) b := Nat.not_le.mpr hbl
  obtain ⟨v1, r1, x1⟩ := iI_ex (xs (i + 1).toNat)
  obtain ⟨v2, r2, x2⟩ := iI_ex (xs (i + 2).toNat)
  refine lv_aload_n T.1 T.2.1 dL_691 rfl (lv_at hl 2 rfl) ?_
  refine lv_aload_n T.1 T.2.1 dL_692 rfl (lv_at hl 3 rfl) ?_
  refine lv_iload_n T.1 T.2.1 dL_693 rfl (lv_at hl 0 rfl) ?_
  refine xv_iconst T dL_694 ?_
  refine xv_iadd T dL_695 ?_
  refine xl_sld T hXs hbl hbA hS (z := i + 1) (by omega) hn x1 dL_696 ?_
  refine lv_aload_n T.1 T.2.1 dL_697 rfl (lv_at hl 3 rfl) ?_
  refine lv_iload_n T.1 T.2.1 dL_698 rfl (lv_at hl 0 rfl) ?_
  refine xv_iconst T dL_699 ?_
  refine xv_iadd T dL_700 ?_
  refine xl_sld T hXs hbl hbA hS (z := i + 2) (by omega) hn x2 dL_701 ?_
  refine cI_V T hK hX hS 0 rfl rfl rfl (c_X7_account l K o N M R G L NU TT v1 v2 r1 r2 hI) iX7_account mw_3_43 ⟨Nat.le_of_ble_eq_true rfl, Nat.le_of_ble_eq_true rfl⟩ hX noA rfl hl.1 rfl (Nat.le_of_ble_eq_true rfl) hcs dL_702 (fun z1 u1 H1 locs q1 hX1 _ hk1 hS => ?_)
  have hX : xP K (xW K o N M R G L NU TT) H1 := hX1
  have hY := xP_kept hY hk1
  refine lv_aload_n T.1 T.2.1 dL_705 rfl (lv_at hl 1 rfl) ?_
  refine lv_aload_n T.1 T.2.1 dL_706 rfl (lv_at hl 3 rfl) ?_
  refine lv_iload_n T.1 T.2.1 dL_707 rfl (lv_at hl 0 rfl) ?_
  refine xv_iconst T dL_708 ?_
  refine xv_iadd T dL_709 ?_
  refine xl_sld T hXs hbl hbA hS (z := i + 1) (by omega) hn x1 dL_710 ?_
  refine lv_aload_n T.1 T.2.1 dL_711 rfl (lv_at hl 3 rfl) ?_
  refine lv_iload_n T.1 T.2.1 dL_712 rfl (lv_at hl 0 rfl) ?_
  refine xv_iconst T dL_713 ?_
  refine xv_iadd T dL_714 ?_
  refine xl_sld T hXs hbl hbA hS (z := i + 2) (by omega) hn x2 dL_715 ?_
  refine cI_V T hK hY hS 0 rfl rfl rfl (c_X8_account l K (o + 153) N B SS TT F v1 v2 r1 r2 hI) iX8_account mw_4_161 ⟨Nat.le_of_ble_eq_true rfl, Nat.le_of_ble_eq_true rfl⟩ hY noA rfl hl.1 rfl (Nat.le_of_ble_eq_true rfl) hcs dL_716 (fun z2 u2 H2 locs q2 hY2 _ hk2 hS => ?_)
  have hY : xP K (mW K (o + 153) N B SS TT F) H2 := hY2
  have hX := xP_kept hX hk2
  refine xl_same T (tgt := 914) (q1.trans q2.symm) dL_719 (by decide) ?_
  exact again _ _ ⟨_, _, _, _, _, _, _, _, _, _, hR, hX, hY⟩ hS
set_option maxHeartbeats 4000000 in
theorem lw_c18 (T : CF p m c cL_law 4 s #[.ref b] RL) (hK : xK K s) (hXs : va_X b n xs s s.heap) (hbl : b < s.heap.size) (ho : s.heap.size ≤ o) (hn : n ≤ 2560) {i : Int} (hi : 0 ≤ i ∧ i + 5 ≤ (n : Int)) {H : Heap} {locs : List Loc} (hW : LwX K o H) (hS : va_S (fun q => s.heap.size ≤ q) s.heap H locs) {ls : Array Slot} (hl : lv_has ls 4 [(3, .int (iI i)), (2, .ref (o + 153)), (1, .ref o), (0, .ref b)]) (hcs : cells ≤ room_1.cells ∧ slots ≤ room_1.slots) (again : ∀ (H1 : Heap) (locs1 : List Loc), LwX K o H1 → va_S (fun q => s.heap.size ≤ q) s.heap H1 locs1 → W p l e room_1 s m #[.ref b] below meth c H1 locs1 cells slots Q (F0 m 914 ls [])) : W p l e room_1 s m #[.ref b] below meth c H locs cells slots Q (F0 m 724 ls []) := by
  obtain ⟨N, M, R, G, L, NU, TT, B, SS, F, hR, hX, hY⟩ := hW
  obtain ⟨hI, hH, hL0, hF2, hT, hF4, hNU⟩ := id hR
  have hG : (0 ≤ G 0 ∧ G 0 ≤ 4) ∧ (0 ≤ G 1 ∧ G 1 ≤ 4) := ⟨hH.2.1, hH.2.2.1⟩
  have hF0 : 0 ≤ F 0 ∧ F 0 ≤ 4 := by rw [hH.1]; exact hG.1
  have hF1 : 0 ≤ F 1 ∧ F 1 < 4 := hH.2.2.2.1
  have hF80 : 0 ≤ F 2 ∧ F 2 ≤ 80 := by rw [hF2]; exact hL0
  have hTF : TxT TT (F 2) := by rw [hF2]; exact hT
  have hbA : ¬ (fun q : Nat => s.heap.size ≤ q) b := Nat.not_le.mpr hbl
  obtain ⟨v1, r1, x1⟩ := iI_ex (xs (i + 1).toNat)
  refine lv_aload_n T.1 T.2.1 dL_724 rfl (lv_at hl 2 rfl) ?_
  refine lv_aload_n T.1 T.2.1 dL_725 rfl (lv_at hl 3 rfl) ?_
  refine lv_iload_n T.1 T.2.1 dL_726 rfl (lv_at hl 0 rfl) ?_
  refine xv_iconst T dL_727 ?_
  refine xv_iadd T dL_728 ?_
  refine xl_sld T hXs hbl hbA hS (z := i + 1) (by omega) hn x1 dL_729 ?_
  refine cI_V T hK hX hS 0 rfl rfl rfl (c_X7_cents l K o N M R G L NU TT v1 r1 hI) iX7_cents mw_3_56 ⟨Nat.le_of_ble_eq_true rfl, Nat.le_of_ble_eq_true rfl⟩ hX noA rfl hl.1 rfl (Nat.le_of_ble_eq_true rfl) hcs dL_730 (fun z1 u1 H1 locs q1 hX1 _ hk1 hS => ?_)
  have hX : xP K (xW K o N M R G L NU TT) H1 := hX1
  have hY := xP_kept hY hk1
  refine lv_aload_n T.1 T.2.1 dL_733 rfl (lv_at hl 1 rfl) ?_
  refine lv_aload_n T.1 T.2.1 dL_734 rfl (lv_at hl 3 rfl) ?_
  refine lv_iload_n T.1 T.2.1 dL_735 rfl (lv_at hl 0 rfl) ?_
  refine xv_iconst T dL_736 ?_
  refine xv_iadd T dL_737 ?_
  refine xl_sld T hXs hbl hbA hS (z := i + 1) (by omega) hn x1 dL_738 ?_
  refine cI_V T hK hY hS 0 rfl rfl rfl (c_X8_cents l K (o + 153) N B SS TT F v1 r1 hI) iX8_cents mw_4_169 ⟨Nat.le_of_ble_eq_true rfl, Nat.le_of_ble_eq_true rfl⟩ hY noA rfl hl.1 rfl (Nat.le_of_ble_eq_true rfl) hcs dL_739 (fun z2 u2 H2 locs q2 hY2 _ hk2 hS => ?_)
  have hY : xP K (mW K (o + 153) N B SS TT F) H2 := hY2
  have hX := xP_kept hX hk2
  refine xl_same T (tgt := 914) (q1.trans q2.symm) dL_742 (by decide) ?_
  exact again _ _ ⟨_, _, _, _, _, _, _, _, _, _, hR, hX, hY⟩ hS
set_option maxHeartbeats 4000000 in
theorem lw_c19 (T : CF p m c cL_law 4 s #[.ref b] RL) (hK : xK K s) (hXs : va_X b n xs s s.heap) (hbl : b < s.heap.size) (ho : s.heap.size ≤ o) (hn : n ≤ 2560) {i : Int} (hi : 0 ≤ i ∧ i + 5 ≤ (n : Int)) {H : Heap} {locs : List Loc} (hW : LwX K o H) (hS : va_S (fun q => s.heap.size ≤ q) s.heap H locs) {ls : Array Slot} (hl : lv_has ls 4 [(3, .int (iI i)), (2, .ref (o + 153)), (1, .ref o), (0, .ref b)]) (hcs : cells ≤ room_1.cells ∧ slots ≤ room_1.slots) (again : ∀ (H1 : Heap) (locs1 : List Loc), LwX K o H1 → va_S (fun q => s.heap.size ≤ q) s.heap H1 locs1 → W p l e room_1 s m #[.ref b] below meth c H1 locs1 cells slots Q (F0 m 914 ls [])) : W p l e room_1 s m #[.ref b] below meth c H locs cells slots Q (F0 m 747 ls []) := by
  obtain ⟨N, M, R, G, L, NU, TT, B, SS, F, hR, hX, hY⟩ := hW
  obtain ⟨hI, hH, hL0, hF2, hT, hF4, hNU⟩ := id hR
  have hG : (0 ≤ G 0 ∧ G 0 ≤ 4) ∧ (0 ≤ G 1 ∧ G 1 ≤ 4) := ⟨hH.2.1, hH.2.2.1⟩
  have hF0 : 0 ≤ F 0 ∧ F 0 ≤ 4 := by rw [hH.1]; exact hG.1
  have hF1 : 0 ≤ F 1 ∧ F 1 < 4 := hH.2.2.2.1
  have hF80 : 0 ≤ F 2 ∧ F 2 ≤ 80 := by rw [hF2]; exact hL0
  have hTF : TxT TT (F 2) := by rw [hF2]; exact hT
  have hbA : ¬ (fun q : Nat => s.heap.size ≤ q) b := Nat.not_le.mpr hbl
  obtain ⟨v1, r1, x1⟩ := iI_ex (xs (i + 1).toNat)
  refine lv_aload_n T.1 T.2.1 dL_747 rfl (lv_at hl 2 rfl) ?_
  refine lv_aload_n T.1 T.2.1 dL_748 rfl (lv_at hl 3 rfl) ?_
  refine lv_iload_n T.1 T.2.1 dL_749 rfl (lv_at hl 0 rfl) ?_
  refine xv_iconst T dL_750 ?_
  refine xv_iadd T dL_751 ?_
  refine xl_sld T hXs hbl hbA hS (z := i + 1) (by omega) hn x1 dL_752 ?_
  refine cI_V T hK hX hS 0 rfl rfl rfl (c_X7_count l K o N M R G L NU TT v1 r1 hI) iX7_count mw_3_69 ⟨Nat.le_of_ble_eq_true rfl, Nat.le_of_ble_eq_true rfl⟩ hX noA rfl hl.1 rfl (Nat.le_of_ble_eq_true rfl) hcs dL_753 (fun z1 u1 H1 locs q1 hX1 _ hk1 hS => ?_)
  have hX : xP K (xW K o N M R G L NU TT) H1 := hX1
  have hY := xP_kept hY hk1
  refine lv_aload_n T.1 T.2.1 dL_756 rfl (lv_at hl 1 rfl) ?_
  refine lv_aload_n T.1 T.2.1 dL_757 rfl (lv_at hl 3 rfl) ?_
  refine lv_iload_n T.1 T.2.1 dL_758 rfl (lv_at hl 0 rfl) ?_
  refine xv_iconst T dL_759 ?_
  refine xv_iadd T dL_760 ?_
  refine xl_sld T hXs hbl hbA hS (z := i + 1) (by omega) hn x1 dL_761 ?_
  refine cI_V T hK hY hS 0 rfl rfl rfl (c_X8_count l K (o + 153) N B SS TT F v1 r1 hI) iX8_count mw_4_173 ⟨Nat.le_of_ble_eq_true rfl, Nat.le_of_ble_eq_true rfl⟩ hY noA rfl hl.1 rfl (Nat.le_of_ble_eq_true rfl) hcs dL_762 (fun z2 u2 H2 locs q2 hY2 _ hk2 hS => ?_)
  have hY : xP K (mW K (o + 153) N B SS TT F) H2 := hY2
  have hX := xP_kept hX hk2
  refine xl_same T (tgt := 914) (by rw [q1, q2, hH.1, hF2]) dL_765 (by decide) ?_
  exact again _ _ ⟨_, _, _, _, _, _, _, _, _, _, hR, hX, hY⟩ hS
set_option maxHeartbeats 4000000 in
theorem lw_c20 (T : CF p m c cL_law 4 s #[.ref b] RL) (hK : xK K s) (hXs : va_X b n xs s s.heap) (hbl : b < s.heap.size) (ho : s.heap.size ≤ o) (hn : n ≤ 2560) {i : Int} (hi : 0 ≤ i ∧ i + 5 ≤ (n : Int)) {H : Heap} {locs : List Loc} (hW : LwX K o H) (hS : va_S (fun q => s.heap.size ≤ q) s.heap H locs) {ls : Array Slot} (hl : lv_has ls 4 [(3, .int (iI i)), (2, .ref (o + 153)), (1, .ref o), (0, .ref b)]) (hcs : cells ≤ room_1.cells ∧ slots ≤ room_1.slots) (again : ∀ (H1 : Heap) (locs1 : List Loc), LwX K o H1 → va_S (fun q => s.heap.size ≤ q) s.heap H1 locs1 → W p l e room_1 s m #[.ref b] below meth c H1 locs1 cells slots Q (F0 m 914 ls [])) : W p l e room_1 s m #[.ref b] below meth c H locs cells slots Q (F0 m 770 ls []) := by
  obtain ⟨N, M, R, G, L, NU, TT, B, SS, F, hR, hX, hY⟩ := hW
  obtain ⟨hI, hH, hL0, hF2, hT, hF4, hNU⟩ := id hR
  have hG : (0 ≤ G 0 ∧ G 0 ≤ 4) ∧ (0 ≤ G 1 ∧ G 1 ≤ 4) := ⟨hH.2.1, hH.2.2.1⟩
  have hF0 : 0 ≤ F 0 ∧ F 0 ≤ 4 := by rw [hH.1]; exact hG.1
  have hF1 : 0 ≤ F 1 ∧ F 1 < 4 := hH.2.2.2.1
  have hF80 : 0 ≤ F 2 ∧ F 2 ≤ 80 := by rw [hF2]; exact hL0
  have hTF : TxT TT (F 2) := by rw [hF2]; exact hT
  have hbA : ¬ (fun q : Nat => s.heap.size ≤ q) b := Nat.not_le.mpr hbl
  refine lv_aload_n T.1 T.2.1 dL_770 rfl (lv_at hl 2 rfl) ?_
  refine cI_V T hK hX hS 0 rfl rfl rfl (c_X7_undo l K o N M R G L NU TT hG) iX7_undo mw_3_78 ⟨Nat.le_of_ble_eq_true rfl, Nat.le_of_ble_eq_true rfl⟩ hX (fun q a => by have h9 := a.1; omega) rfl hl.1 rfl (Nat.le_of_ble_eq_true rfl) hcs dL_771 (fun z1 u1 H1 locs q1 hX1 _ hk1 hS => ?_)
  have hY := xP_out hY (m_D _ _ _ _ _ _ _) (fun _ a b => blk_x (by omega) a b) hk1
  refine lv_aload_n T.1 T.2.1 dL_774 rfl (lv_at hl 1 rfl) ?_
  refine cI_V T hK hY hS 0 rfl rfl rfl (c_X8_undo l K (o + 153) N B SS TT F hF0 hF1) iX8_undo mw_3_215 ⟨Nat.le_of_ble_eq_true rfl, Nat.le_of_ble_eq_true rfl⟩ hY (fun q a => by have h9 := a.1; omega) rfl hl.1 rfl (Nat.le_of_ble_eq_true rfl) hcs dL_775 (fun z2 u2 H2 locs q2 hY2 _ hk2 hS => ?_)
  have hX9 := xP_out hX1 (xW_D _ _ _ _ _ _ _ _ _) (fun _ a b => blk_x (by omega) a b) hk2
  obtain ⟨n1, g1⟩ := u1
  obtain ⟨n2, f2⟩ := u2
  dsimp only at hX9 hY2
  unfold resP at q1
  unfold undP at q2
  by_cases h0 : G 0 = 0
  · rw [if_pos h0] at q1
    rw [if_pos (hH.1.trans h0)] at q2
    cases q1
    cases q2
    refine xl_same T (tgt := 914) rfl dL_778 (by decide) ?_
    exact again _ _ ⟨_, _, _, _, _, _, _, _, _, _, hR, hX9, hY2⟩ hS
  · rw [if_neg h0] at q1
    rw [if_neg (fun q => h0 (hH.1.symm.trans q))] at q2
    cases q1
    cases q2
    have hu := (his_und (N := N) hH h0).2.2
    have hY3 : xP K (mW K (o + 153) (R (G 1).toNat) B SS TT (uZ (uZ F 1 ((F 1 + 4 - 1) % 4)) 0 (F 0 - 1))) H2 := m_mk hY2 rfl rfl rfl rfl rfl rfl rfl rfl rfl (vI_eq 1055 fun k a c => hu k (by omega) (by omega)) (fun _ _ => rfl) (fun _ _ => rfl) (fun _ _ => rfl)
    refine xl_same T (tgt := 914) (by rw [hH.1]) dL_778 (by decide) ?_
    exact again _ _ ⟨_, _, _, _, _, _, _, _, _, _, rel_undo hR h0, hX9, hY3⟩ hS
set_option maxHeartbeats 4000000 in
theorem lw_c21 (T : CF p m c cL_law 4 s #[.ref b] RL) (hK : xK K s) (hXs : va_X b n xs s s.heap) (hbl : b < s.heap.size) (ho : s.heap.size ≤ o) (hn : n ≤ 2560) {i : Int} (hi : 0 ≤ i ∧ i + 5 ≤ (n : Int)) {H : Heap} {locs : List Loc} (hW : LwX K o H) (hS : va_S (fun q => s.heap.size ≤ q) s.heap H locs) {ls : Array Slot} (hl : lv_has ls 4 [(3, .int (iI i)), (2, .ref (o + 153)), (1, .ref o), (0, .ref b)]) (hcs : cells ≤ room_1.cells ∧ slots ≤ room_1.slots) (again : ∀ (H1 : Heap) (locs1 : List Loc), LwX K o H1 → va_S (fun q => s.heap.size ≤ q) s.heap H1 locs1 → W p l e room_1 s m #[.ref b] below meth c H1 locs1 cells slots Q (F0 m 914 ls [])) : W p l e room_1 s m #[.ref b] below meth c H locs cells slots Q (F0 m 783 ls []) := by
  obtain ⟨N, M, R, G, L, NU, TT, B, SS, F, hR, hX, hY⟩ := hW
  obtain ⟨hI, hH, hL0, hF2, hT, hF4, hNU⟩ := id hR
  have hG : (0 ≤ G 0 ∧ G 0 ≤ 4) ∧ (0 ≤ G 1 ∧ G 1 ≤ 4) := ⟨hH.2.1, hH.2.2.1⟩
  have hF0 : 0 ≤ F 0 ∧ F 0 ≤ 4 := by rw [hH.1]; exact hG.1
  have hF1 : 0 ≤ F 1 ∧ F 1 < 4 := hH.2.2.2.1
  have hF80 : 0 ≤ F 2 ∧ F 2 ≤ 80 := by rw [hF2]; exact hL0
  have hTF : TxT TT (F 2) := by rw [hF2]; exact hT
  have hbA : ¬ (fun q : Nat => s.heap.size ≤ q) b := Nat.not_le.mpr hbl
  obtain ⟨v1, r1, x1⟩ := iI_ex (xs (i + 1).toNat)
  obtain ⟨v2, r2, x2⟩ := iI_ex (xs (i + 2).toNat)
  refine lv_aload_n T.1 T.2.1 dL_783 rfl (lv_at hl 2 rfl) ?_
  refine lv_aload_n T.1 T.2.1 dL_784 rfl (lv_at hl 3 rfl) ?_
  refine lv_iload_n T.1 T.2.1 dL_785 rfl (lv_at hl 0 rfl) ?_
  refine xv_iconst T dL_786 ?_
  refine xv_iadd T dL_787 ?_
  refine xl_sld T hXs hbl hbA hS (z := i + 1) (by omega) hn x1 dL_788 ?_
  refine lv_aload_n T.1 T.2.1 dL_789 rfl (lv_at hl 3 rfl) ?_
  refine lv_iload_n T.1 T.2.1 dL_790 rfl (lv_at hl 0 rfl) ?_
  refine xv_iconst T dL_791 ?_
  refine xv_iadd T dL_792 ?_
  refine xl_sld T hXs hbl hbA hS (z := i + 2) (by omega) hn x2 dL_793 ?_
  refine cI_V T hK hX hS 0 rfl rfl rfl (c_X7_worth l K o N M R G L NU TT v1 v2 r1 r2 hI) iX7_worth mw_3_86 ⟨Nat.le_of_ble_eq_true rfl, Nat.le_of_ble_eq_true rfl⟩ hX noA rfl hl.1 rfl (Nat.le_of_ble_eq_true rfl) hcs dL_794 (fun z1 u1 H1 locs q1 hX1 _ hk1 hS => ?_)
  have hX : xP K (xW K o N M R G L NU TT) H1 := hX1
  have hY := xP_kept hY hk1
  refine lv_aload_n T.1 T.2.1 dL_797 rfl (lv_at hl 1 rfl) ?_
  refine lv_aload_n T.1 T.2.1 dL_798 rfl (lv_at hl 3 rfl) ?_
  refine lv_iload_n T.1 T.2.1 dL_799 rfl (lv_at hl 0 rfl) ?_
  refine xv_iconst T dL_800 ?_
  refine xv_iadd T dL_801 ?_
  refine xl_sld T hXs hbl hbA hS (z := i + 1) (by omega) hn x1 dL_802 ?_
  refine lv_aload_n T.1 T.2.1 dL_803 rfl (lv_at hl 3 rfl) ?_
  refine lv_iload_n T.1 T.2.1 dL_804 rfl (lv_at hl 0 rfl) ?_
  refine xv_iconst T dL_805 ?_
  refine xv_iadd T dL_806 ?_
  refine xl_sld T hXs hbl hbA hS (z := i + 2) (by omega) hn x2 dL_807 ?_
  refine cI_V T hK hY hS 0 rfl rfl rfl (c_X8_worth l K (o + 153) N B SS TT F v1 v2 r1 r2 hI) iX8_worth mw_4_177 ⟨Nat.le_of_ble_eq_true rfl, Nat.le_of_ble_eq_true rfl⟩ hY noA rfl hl.1 rfl (Nat.le_of_ble_eq_true rfl) hcs dL_808 (fun z2 u2 H2 locs q2 hY2 _ hk2 hS => ?_)
  have hY : xP K (mW K (o + 153) N B SS TT F) H2 := hY2
  have hX := xP_kept hX hk2
  refine xl_same T (tgt := 914) (q1.trans q2.symm) dL_811 (by decide) ?_
  exact again _ _ ⟨_, _, _, _, _, _, _, _, _, _, hR, hX, hY⟩ hS
set_option maxHeartbeats 4000000 in
theorem lw_c22 (T : CF p m c cL_law 4 s #[.ref b] RL) (hK : xK K s) (hXs : va_X b n xs s s.heap) (hbl : b < s.heap.size) (ho : s.heap.size ≤ o) (hn : n ≤ 2560) {i : Int} (hi : 0 ≤ i ∧ i + 5 ≤ (n : Int)) {H : Heap} {locs : List Loc} (hW : LwX K o H) (hS : va_S (fun q => s.heap.size ≤ q) s.heap H locs) {ls : Array Slot} (hl : lv_has ls 4 [(3, .int (iI i)), (2, .ref (o + 153)), (1, .ref o), (0, .ref b)]) (hcs : cells ≤ room_1.cells ∧ slots ≤ room_1.slots) (again : ∀ (H1 : Heap) (locs1 : List Loc), LwX K o H1 → va_S (fun q => s.heap.size ≤ q) s.heap H1 locs1 → W p l e room_1 s m #[.ref b] below meth c H1 locs1 cells slots Q (F0 m 914 ls [])) : W p l e room_1 s m #[.ref b] below meth c H locs cells slots Q (F0 m 816 ls []) := by
  obtain ⟨N, M, R, G, L, NU, TT, B, SS, F, hR, hX, hY⟩ := hW
  obtain ⟨hI, hH, hL0, hF2, hT, hF4, hNU⟩ := id hR
  have hG : (0 ≤ G 0 ∧ G 0 ≤ 4) ∧ (0 ≤ G 1 ∧ G 1 ≤ 4) := ⟨hH.2.1, hH.2.2.1⟩
  have hF0 : 0 ≤ F 0 ∧ F 0 ≤ 4 := by rw [hH.1]; exact hG.1
  have hF1 : 0 ≤ F 1 ∧ F 1 < 4 := hH.2.2.2.1
  have hF80 : 0 ≤ F 2 ∧ F 2 ≤ 80 := by rw [hF2]; exact hL0
  have hTF : TxT TT (F 2) := by rw [hF2]; exact hT
  have hbA : ¬ (fun q : Nat => s.heap.size ≤ q) b := Nat.not_le.mpr hbl
  refine lv_aload_n T.1 T.2.1 dL_816 rfl (lv_at hl 2 rfl) ?_
  refine cI_V T hK hX hS 0 rfl rfl rfl (c_X7_toPay l K o N M R G L NU TT hI) iX7_toPay mw_3_96 ⟨Nat.le_of_ble_eq_true rfl, Nat.le_of_ble_eq_true rfl⟩ hX noA rfl hl.1 rfl (Nat.le_of_ble_eq_true rfl) hcs dL_817 (fun z1 u1 H1 locs q1 hX1 _ hk1 hS => ?_)
  have hX : xP K (xW K o N M R G L NU TT) H1 := hX1
  have hY := xP_kept hY hk1
  refine lv_aload_n T.1 T.2.1 dL_820 rfl (lv_at hl 1 rfl) ?_
  refine cI_V T hK hY hS 0 rfl rfl rfl (c_X8_toPay l K (o + 153) N B SS TT F hI) iX8_toPay mw_4_181 ⟨Nat.le_of_ble_eq_true rfl, Nat.le_of_ble_eq_true rfl⟩ hY noA rfl hl.1 rfl (Nat.le_of_ble_eq_true rfl) hcs dL_821 (fun z2 u2 H2 locs q2 hY2 _ hk2 hS => ?_)
  have hY : xP K (mW K (o + 153) N B SS TT F) H2 := hY2
  have hX := xP_kept hX hk2
  refine xl_same T (tgt := 914) (q1.trans q2.symm) dL_824 (by decide) ?_
  exact again _ _ ⟨_, _, _, _, _, _, _, _, _, _, hR, hX, hY⟩ hS
set_option maxHeartbeats 4000000 in
theorem lw_c23 (T : CF p m c cL_law 4 s #[.ref b] RL) (hK : xK K s) (hXs : va_X b n xs s s.heap) (hbl : b < s.heap.size) (ho : s.heap.size ≤ o) (hn : n ≤ 2560) {i : Int} (hi : 0 ≤ i ∧ i + 5 ≤ (n : Int)) {H : Heap} {locs : List Loc} (hW : LwX K o H) (hS : va_S (fun q => s.heap.size ≤ q) s.heap H locs) {ls : Array Slot} (hl : lv_has ls 4 [(3, .int (iI i)), (2, .ref (o + 153)), (1, .ref o), (0, .ref b)]) (hcs : cells ≤ room_1.cells ∧ slots ≤ room_1.slots) (again : ∀ (H1 : Heap) (locs1 : List Loc), LwX K o H1 → va_S (fun q => s.heap.size ≤ q) s.heap H1 locs1 → W p l e room_1 s m #[.ref b] below meth c H1 locs1 cells slots Q (F0 m 914 ls [])) : W p l e room_1 s m #[.ref b] below meth c H locs cells slots Q (F0 m 829 ls []) := by
  obtain ⟨N, M, R, G, L, NU, TT, B, SS, F, hR, hX, hY⟩ := hW
  obtain ⟨hI, hH, hL0, hF2, hT, hF4, hNU⟩ := id hR
  have hG : (0 ≤ G 0 ∧ G 0 ≤ 4) ∧ (0 ≤ G 1 ∧ G 1 ≤ 4) := ⟨hH.2.1, hH.2.2.1⟩
  have hF0 : 0 ≤ F 0 ∧ F 0 ≤ 4 := by rw [hH.1]; exact hG.1
  have hF1 : 0 ≤ F 1 ∧ F 1 < 4 := hH.2.2.2.1
  have hF80 : 0 ≤ F 2 ∧ F 2 ≤ 80 := by rw [hF2]; exact hL0
  have hTF : TxT TT (F 2) := by rw [hF2]; exact hT
  have hbA : ¬ (fun q : Nat => s.heap.size ≤ q) b := Nat.not_le.mpr hbl
  refine lv_aload_n T.1 T.2.1 dL_829 rfl (lv_at hl 2 rfl) ?_
  refine cI_V T hK hX hS 0 rfl rfl rfl (c_X7_runsOut l K o N M R G L NU TT hI) iX7_runsOut mw_3_105 ⟨Nat.le_of_ble_eq_true rfl, Nat.le_of_ble_eq_true rfl⟩ hX noA rfl hl.1 rfl (Nat.le_of_ble_eq_true rfl) hcs dL_830 (fun z1 u1 H1 locs q1 hX1 _ hk1 hS => ?_)
  have hX : xP K (xW K o N M R G L NU TT) H1 := hX1
  have hY := xP_kept hY hk1
  refine lv_aload_n T.1 T.2.1 dL_833 rfl (lv_at hl 1 rfl) ?_
  refine cI_V T hK hY hS 0 rfl rfl rfl (c_X8_runsOut l K (o + 153) N B SS TT F hI) iX8_runsOut mw_4_185 ⟨Nat.le_of_ble_eq_true rfl, Nat.le_of_ble_eq_true rfl⟩ hY noA rfl hl.1 rfl (Nat.le_of_ble_eq_true rfl) hcs dL_834 (fun z2 u2 H2 locs q2 hY2 _ hk2 hS => ?_)
  have hY : xP K (mW K (o + 153) N B SS TT F) H2 := hY2
  have hX := xP_kept hX hk2
  refine xl_same T (tgt := 914) (q1.trans q2.symm) dL_837 (by decide) ?_
  exact again _ _ ⟨_, _, _, _, _, _, _, _, _, _, hR, hX, hY⟩ hS
set_option maxHeartbeats 4000000 in
theorem lw_c24 (T : CF p m c cL_law 4 s #[.ref b] RL) (hK : xK K s) (hXs : va_X b n xs s s.heap) (hbl : b < s.heap.size) (ho : s.heap.size ≤ o) (hn : n ≤ 2560) {i : Int} (hi : 0 ≤ i ∧ i + 5 ≤ (n : Int)) {H : Heap} {locs : List Loc} (hW : LwX K o H) (hS : va_S (fun q => s.heap.size ≤ q) s.heap H locs) {ls : Array Slot} (hl : lv_has ls 4 [(3, .int (iI i)), (2, .ref (o + 153)), (1, .ref o), (0, .ref b)]) (hcs : cells ≤ room_1.cells ∧ slots ≤ room_1.slots) (again : ∀ (H1 : Heap) (locs1 : List Loc), LwX K o H1 → va_S (fun q => s.heap.size ≤ q) s.heap H1 locs1 → W p l e room_1 s m #[.ref b] below meth c H1 locs1 cells slots Q (F0 m 914 ls [])) : W p l e room_1 s m #[.ref b] below meth c H locs cells slots Q (F0 m 842 ls []) := by
  obtain ⟨N, M, R, G, L, NU, TT, B, SS, F, hR, hX, hY⟩ := hW
  obtain ⟨hI, hH, hL0, hF2, hT, hF4, hNU⟩ := id hR
  have hG : (0 ≤ G 0 ∧ G 0 ≤ 4) ∧ (0 ≤ G 1 ∧ G 1 ≤ 4) := ⟨hH.2.1, hH.2.2.1⟩
  have hF0 : 0 ≤ F 0 ∧ F 0 ≤ 4 := by rw [hH.1]; exact hG.1
  have hF1 : 0 ≤ F 1 ∧ F 1 < 4 := hH.2.2.2.1
  have hF80 : 0 ≤ F 2 ∧ F 2 ≤ 80 := by rw [hF2]; exact hL0
  have hTF : TxT TT (F 2) := by rw [hF2]; exact hT
  have hbA : ¬ (fun q : Nat => s.heap.size ≤ q) b := Nat.not_le.mpr hbl
  obtain ⟨v1, r1, x1⟩ := iI_ex (xs (i + 1).toNat)
  refine lv_aload_n T.1 T.2.1 dL_842 rfl (lv_at hl 2 rfl) ?_
  refine lv_aload_n T.1 T.2.1 dL_843 rfl (lv_at hl 3 rfl) ?_
  refine lv_iload_n T.1 T.2.1 dL_844 rfl (lv_at hl 0 rfl) ?_
  refine xv_iconst T dL_845 ?_
  refine xv_iadd T dL_846 ?_
  refine xl_sld T hXs hbl hbA hS (z := i + 1) (by omega) hn x1 dL_847 ?_
  refine cI_V T hK hX hS 0 rfl rfl rfl (c_X7_type l K o N M R G L NU TT v1 r1 hL0 hT) iX7_type mw_3_109 ⟨Nat.le_of_ble_eq_true rfl, Nat.le_of_ble_eq_true rfl⟩ hX (fun q a => by have h9 := a.1; omega) rfl hl.1 rfl (Nat.le_of_ble_eq_true rfl) hcs dL_848 (fun z1 u1 H1 locs q1 hX1 _ hk1 hS => ?_)
  have hY := xP_out hY (m_D _ _ _ _ _ _ _) (fun _ a b => blk_x (by omega) a b) hk1
  refine lv_aload_n T.1 T.2.1 dL_851 rfl (lv_at hl 1 rfl) ?_
  refine lv_aload_n T.1 T.2.1 dL_852 rfl (lv_at hl 3 rfl) ?_
  refine lv_iload_n T.1 T.2.1 dL_853 rfl (lv_at hl 0 rfl) ?_
  refine xv_iconst T dL_854 ?_
  refine xv_iadd T dL_855 ?_
  refine xl_sld T hXs hbl hbA hS (z := i + 1) (by omega) hn x1 dL_856 ?_
  refine cI_V T hK hY hS 0 rfl rfl rfl (c_X8_type l K (o + 153) N B SS TT F v1 r1 hF80) iX8_type mw_4_189 ⟨Nat.le_of_ble_eq_true rfl, Nat.le_of_ble_eq_true rfl⟩ hY (fun q a => by have h9 := a.1; omega) rfl hl.1 rfl (Nat.le_of_ble_eq_true rfl) hcs dL_857 (fun z2 u2 H2 locs q2 hY2 _ hk2 hS => ?_)
  have hX9 := xP_out hX1 (xW_D _ _ _ _ _ _ _ _ _) (fun _ a b => blk_x (by omega) a b) hk2
  obtain ⟨l1, t1⟩ := u1
  obtain ⟨t2, f2⟩ := u2
  dsimp only at hX9 hY2
  unfold typP at q2
  rw [hF2] at q2
  rcases q1 with ⟨c1, q1, q3⟩ | ⟨c1, c2, q1, q3⟩ | ⟨c1, c2, q1, q3⟩
  · rw [if_pos c1] at q2
    cases q2
    cases q3
    refine xl_same T (tgt := 914) q1 dL_860 (by decide) ?_
    exact again _ _ ⟨_, _, _, _, _, _, _, _, _, _, hR, hX9, hY2⟩ hS
  · rw [if_neg (not_not_intro c1), if_pos c2] at q2
    cases q2
    cases q3
    refine xl_same T (tgt := 914) q1 dL_860 (by decide) ?_
    exact again _ _ ⟨_, _, _, _, _, _, _, _, _, _, hR, hX9, hY2⟩ hS
  · rw [if_neg (not_not_intro c1), if_neg c2] at q2
    cases q2
    cases q3
    refine xl_same T (tgt := 914) q1 dL_860 (by decide) ?_
    exact again _ _ ⟨_, _, _, _, _, _, _, _, _, _, rel_type hR c1 c2, hX9, hY2⟩ hS
set_option maxHeartbeats 4000000 in
theorem lw_c25 (T : CF p m c cL_law 4 s #[.ref b] RL) (hK : xK K s) (hXs : va_X b n xs s s.heap) (hbl : b < s.heap.size) (ho : s.heap.size ≤ o) (hn : n ≤ 2560) {i : Int} (hi : 0 ≤ i ∧ i + 5 ≤ (n : Int)) {H : Heap} {locs : List Loc} (hW : LwX K o H) (hS : va_S (fun q => s.heap.size ≤ q) s.heap H locs) {ls : Array Slot} (hl : lv_has ls 4 [(3, .int (iI i)), (2, .ref (o + 153)), (1, .ref o), (0, .ref b)]) (hcs : cells ≤ room_1.cells ∧ slots ≤ room_1.slots) (again : ∀ (H1 : Heap) (locs1 : List Loc), LwX K o H1 → va_S (fun q => s.heap.size ≤ q) s.heap H1 locs1 → W p l e room_1 s m #[.ref b] below meth c H1 locs1 cells slots Q (F0 m 914 ls [])) : W p l e room_1 s m #[.ref b] below meth c H locs cells slots Q (F0 m 865 ls []) := by
  obtain ⟨N, M, R, G, L, NU, TT, B, SS, F, hR, hX, hY⟩ := hW
  obtain ⟨hI, hH, hL0, hF2, hT, hF4, hNU⟩ := id hR
  have hG : (0 ≤ G 0 ∧ G 0 ≤ 4) ∧ (0 ≤ G 1 ∧ G 1 ≤ 4) := ⟨hH.2.1, hH.2.2.1⟩
  have hF0 : 0 ≤ F 0 ∧ F 0 ≤ 4 := by rw [hH.1]; exact hG.1
  have hF1 : 0 ≤ F 1 ∧ F 1 < 4 := hH.2.2.2.1
  have hF80 : 0 ≤ F 2 ∧ F 2 ≤ 80 := by rw [hF2]; exact hL0
  have hTF : TxT TT (F 2) := by rw [hF2]; exact hT
  have hbA : ¬ (fun q : Nat => s.heap.size ≤ q) b := Nat.not_le.mpr hbl
  refine lv_aload_n T.1 T.2.1 dL_865 rfl (lv_at hl 2 rfl) ?_
  refine cI_V T hK hX hS 0 rfl rfl rfl (c_X7_clearText l K o N M R G L NU TT hL0 hT) iX7_clearText mw_3_117 ⟨Nat.le_of_ble_eq_true rfl, Nat.le_of_ble_eq_true rfl⟩ hX (fun q a => by have h9 := a.1; omega) rfl hl.1 rfl (Nat.le_of_ble_eq_true rfl) hcs dL_866 (fun z1 u1 H1 locs q1 hX1 _ hk1 hS => ?_)
  have hY := xP_out hY (m_D _ _ _ _ _ _ _) (fun _ a b => blk_x (by omega) a b) hk1
  refine lv_aload_n T.1 T.2.1 dL_869 rfl (lv_at hl 1 rfl) ?_
  refine cI_V T hK hY hS 0 rfl rfl rfl (c_X8_clearText l K (o + 153) N B SS TT F) iX8_clearText mw_4_193 ⟨Nat.le_of_ble_eq_true rfl, Nat.le_of_ble_eq_true rfl⟩ hY (fun q a => by have h9 := a.1; omega) rfl hl.1 rfl (Nat.le_of_ble_eq_true rfl) hcs dL_870 (fun z2 u2 H2 locs q2 hY2 _ hk2 hS => ?_)
  have hX9 := xP_out hX1 (xW_D _ _ _ _ _ _ _ _ _) (fun _ a b => blk_x (by omega) a b) hk2
  obtain ⟨qa, qb⟩ := q1
  obtain ⟨qc, qd⟩ := q2
  subst qb
  subst qd
  refine xl_same T (tgt := 914) (by rw [qa, qc, hF2]) dL_873 (by decide) ?_
  exact again _ _ ⟨_, _, _, _, _, _, _, _, _, _, rel_clear hR, hX9, hY2⟩ hS
set_option maxHeartbeats 4000000 in
theorem lw_c26 (T : CF p m c cL_law 4 s #[.ref b] RL) (hK : xK K s) (hXs : va_X b n xs s s.heap) (hbl : b < s.heap.size) (ho : s.heap.size ≤ o) (hn : n ≤ 2560) {i : Int} (hi : 0 ≤ i ∧ i + 5 ≤ (n : Int)) {H : Heap} {locs : List Loc} (hW : LwX K o H) (hS : va_S (fun q => s.heap.size ≤ q) s.heap H locs) {ls : Array Slot} (hl : lv_has ls 4 [(3, .int (iI i)), (2, .ref (o + 153)), (1, .ref o), (0, .ref b)]) (hcs : cells ≤ room_1.cells ∧ slots ≤ room_1.slots) (again : ∀ (H1 : Heap) (locs1 : List Loc), LwX K o H1 → va_S (fun q => s.heap.size ≤ q) s.heap H1 locs1 → W p l e room_1 s m #[.ref b] below meth c H1 locs1 cells slots Q (F0 m 914 ls [])) : W p l e room_1 s m #[.ref b] below meth c H locs cells slots Q (F0 m 878 ls []) := by
  obtain ⟨N, M, R, G, L, NU, TT, B, SS, F, hR, hX, hY⟩ := hW
  obtain ⟨hI, hH, hL0, hF2, hT, hF4, hNU⟩ := id hR
  have hG : (0 ≤ G 0 ∧ G 0 ≤ 4) ∧ (0 ≤ G 1 ∧ G 1 ≤ 4) := ⟨hH.2.1, hH.2.2.1⟩
  have hF0 : 0 ≤ F 0 ∧ F 0 ≤ 4 := by rw [hH.1]; exact hG.1
  have hF1 : 0 ≤ F 1 ∧ F 1 < 4 := hH.2.2.2.1
  have hF80 : 0 ≤ F 2 ∧ F 2 ≤ 80 := by rw [hF2]; exact hL0
  have hTF : TxT TT (F 2) := by rw [hF2]; exact hT
  have hbA : ¬ (fun q : Nat => s.heap.size ≤ q) b := Nat.not_le.mpr hbl
  obtain ⟨v1, r1, x1⟩ := iI_ex (xs (i + 1).toNat)
  refine lv_aload_n T.1 T.2.1 dL_878 rfl (lv_at hl 2 rfl) ?_
  refine lv_aload_n T.1 T.2.1 dL_879 rfl (lv_at hl 3 rfl) ?_
  refine lv_iload_n T.1 T.2.1 dL_880 rfl (lv_at hl 0 rfl) ?_
  refine xv_iconst T dL_881 ?_
  refine xv_iadd T dL_882 ?_
  refine xl_sld T hXs hbl hbA hS (z := i + 1) (by omega) hn x1 dL_883 ?_
  refine cI_V T hK hX hS 0 rfl rfl rfl (c_X7_fault l K o N M R G L NU TT F v1 r1 hI hL0 hT hNU hF2) iX7_fault mw_3_125 ⟨Nat.le_of_ble_eq_true rfl, Nat.le_of_ble_eq_true rfl⟩ hX (fun q a => by have h9 := a.1; omega) rfl hl.1 rfl (Nat.le_of_ble_eq_true rfl) hcs dL_884 (fun z1 u1 H1 locs q1 hX1 _ hk1 hS => ?_)
  have hY := xP_out hY (m_D _ _ _ _ _ _ _) (fun _ a b => blk_x (by omega) a b) hk1
  refine lv_aload_n T.1 T.2.1 dL_887 rfl (lv_at hl 1 rfl) ?_
  refine lv_aload_n T.1 T.2.1 dL_888 rfl (lv_at hl 3 rfl) ?_
  refine lv_iload_n T.1 T.2.1 dL_889 rfl (lv_at hl 0 rfl) ?_
  refine xv_iconst T dL_890 ?_
  refine xv_iadd T dL_891 ?_
  refine xl_sld T hXs hbl hbA hS (z := i + 1) (by omega) hn x1 dL_892 ?_
  refine cI_V T hK hY hS 0 rfl rfl rfl (c_X8_fault l K (o + 153) N B SS TT F v1 r1 hI hF80 hF4 hTF) iX8_fault mw_4_197 ⟨Nat.le_of_ble_eq_true rfl, Nat.le_of_ble_eq_true rfl⟩ hY (fun q a => by have h9 := a.1; omega) rfl hl.1 rfl (Nat.le_of_ble_eq_true rfl) hcs dL_893 (fun z2 u2 H2 locs q2 hY2 _ hk2 hS => ?_)
  have hX9 := xP_out hX1 (xW_D _ _ _ _ _ _ _ _ _) (fun _ a b => blk_x (by omega) a b) hk2
  obtain ⟨m1, l1, n1⟩ := u1
  obtain ⟨b2, f2⟩ := u2
  obtain ⟨qa, qb, qc⟩ := q1
  obtain ⟨qd, qe⟩ := q2
  dsimp only at qb qc qe hX9 hY2
  refine xl_same T (tgt := 914) (qa.trans qd.symm) dL_896 (by decide) ?_
  have ht := triP_f (TT := TT) (N := N) hF4
  rcases qe with qe | qe
  · subst qe
    exact again _ _ ⟨_, _, _, _, _, _, _, _, _, _, rel_F hR (fun k _ => rfl) hF4 qb qc, hX9, hY2⟩ hS
  · subst qe
    exact again _ _ ⟨_, _, _, _, _, _, _, _, _, _, rel_F hR ht.1 ht.2.1 qb qc, hX9, hY2⟩ hS
set_option maxHeartbeats 4000000 in
theorem lw_c27 (T : CF p m c cL_law 4 s #[.ref b] RL) (hK : xK K s) (hXs : va_X b n xs s s.heap) (hbl : b < s.heap.size) (ho : s.heap.size ≤ o) (hn : n ≤ 2560) {i : Int} (hi : 0 ≤ i ∧ i + 5 ≤ (n : Int)) {H : Heap} {locs : List Loc} (hW : LwX K o H) (hS : va_S (fun q => s.heap.size ≤ q) s.heap H locs) {ls : Array Slot} (hl : lv_has ls 4 [(3, .int (iI i)), (2, .ref (o + 153)), (1, .ref o), (0, .ref b)]) (hcs : cells ≤ room_1.cells ∧ slots ≤ room_1.slots) (again : ∀ (H1 : Heap) (locs1 : List Loc), LwX K o H1 → va_S (fun q => s.heap.size ≤ q) s.heap H1 locs1 → W p l e room_1 s m #[.ref b] below meth c H1 locs1 cells slots Q (F0 m 914 ls [])) : W p l e room_1 s m #[.ref b] below meth c H locs cells slots Q (F0 m 901 ls []) := by
  obtain ⟨N, M, R, G, L, NU, TT, B, SS, F, hR, hX, hY⟩ := hW
  obtain ⟨hI, hH, hL0, hF2, hT, hF4, hNU⟩ := id hR
  have hG : (0 ≤ G 0 ∧ G 0 ≤ 4) ∧ (0 ≤ G 1 ∧ G 1 ≤ 4) := ⟨hH.2.1, hH.2.2.1⟩
  have hF0 : 0 ≤ F 0 ∧ F 0 ≤ 4 := by rw [hH.1]; exact hG.1
  have hF1 : 0 ≤ F 1 ∧ F 1 < 4 := hH.2.2.2.1
  have hF80 : 0 ≤ F 2 ∧ F 2 ≤ 80 := by rw [hF2]; exact hL0
  have hTF : TxT TT (F 2) := by rw [hF2]; exact hT
  have hbA : ¬ (fun q : Nat => s.heap.size ≤ q) b := Nat.not_le.mpr hbl
  refine lv_aload_n T.1 T.2.1 dL_901 rfl (lv_at hl 2 rfl) ?_
  refine cI_V T hK hX hS 0 rfl rfl rfl (c_X7_play l K o N M R G L NU TT F hI hL0 hT hNU hF2 hG) iX7_play mw_3_164 ⟨Nat.le_of_ble_eq_true rfl, Nat.le_of_ble_eq_true rfl⟩ hX (fun q a => by have h9 := a.1; omega) rfl hl.1 rfl (Nat.le_of_ble_eq_true rfl) hcs dL_902 (fun z1 u1 H1 locs q1 hX1 _ hk1 hS => ?_)
  have hY := xP_out hY (m_D _ _ _ _ _ _ _) (fun _ a b => blk_x (by omega) a b) hk1
  refine lv_aload_n T.1 T.2.1 dL_905 rfl (lv_at hl 1 rfl) ?_
  refine cI_V T hK hY hS 0 rfl rfl rfl (c_X8_play l K (o + 153) N B SS TT F hI hF80 hF4 hTF hF0 hF1) iX8_play mw_4_225 ⟨Nat.le_of_ble_eq_true rfl, Nat.le_of_ble_eq_true rfl⟩ hY (fun q a => by have h9 := a.1; omega) rfl hl.1 rfl (Nat.le_of_ble_eq_true rfl) hcs dL_906 (fun z2 u2 H2 locs q2 hY2 _ hk2 hS => ?_)
  have hX9 := xP_out hX1 (xW_D _ _ _ _ _ _ _ _ _) (fun _ a b => blk_x (by omega) a b) hk2
  obtain ⟨n1, m1, t1, g1, l1, nu1⟩ := u1
  obtain ⟨n2, s2, f2⟩ := u2
  obtain ⟨qa, qb, qc⟩ := q1
  dsimp only at qa qb qc hX9 hY2
  have ht := triP_f (TT := TT) (N := N) hF4
  unfold plaP at q2
  have hR2 := rel_F hR ht.1 ht.2.1 qb qc
  rcases qa with ⟨c1, q1, q3, q4, q5⟩ | ⟨c1, q1, q3, q4, q5⟩
  · rw [if_pos c1] at q2
    obtain ⟨q6, q7⟩ := Prod.mk.inj q2
    obtain ⟨q8, q9⟩ := Prod.mk.inj q7
    have q10 := congrArg Prod.fst q9
    have q11 := congrArg Prod.snd q9
    dsimp only at q10 q11
    subst q6
    subst q8
    subst q10
    subst q11
    subst q3
    subst q4
    subst q5
    refine xl_same T (tgt := 914) q1 dL_909 (by decide) ?_
    exact again _ _ ⟨_, _, _, _, _, _, _, _, _, _, rel_chg hR2 (triP_inv hI) _, hX9, hY2⟩ hS
  · rw [if_neg c1] at q2
    cases q2
    subst q3
    subst q4
    subst q5
    refine xl_same T (tgt := 914) q1 dL_909 (by decide) ?_
    exact again _ _ ⟨_, _, _, _, _, _, _, _, _, _, hR2, hX9, hY2⟩ hS
end XLC
