set_option maxHeartbeats 4000000 in
set_option maxRecDepth 100000 in
theorem sg_L_isAhead_229 {p : Program} {l : Launch} {e : Env} {s : State} {m : MethodId} {args : Array Value} {below : List Frame} {meth : Method} {c : Code} {K : KT} {o : Nat} {N : Int → Int} {st : List (Int → Int)} (T : CF p m c cL_isAhead 9 s args RL) (hr : meth.sig.returnType = some .boolean) (hk : meth.locks = false) (hK : xK K s) (hX : InX N) : ∀ (st1 : List (Int → Int)) (H : Heap) (locs : List Loc) (ls : Array Slot), LwY K o N st1 H → va_S (Blk o 153) s.heap H locs → lv_has ls 9 [(0, .ref o), (1, .long (lI (digF N))), (3, .int (iI 1))] → W p l e (rmF 6 142) s m args below meth c H locs 0 0 (MQ below (qI K (fun z (u : YT) => (poA N) z u.1 u.2.1 ∧ yOk u) (yW K o) (Blk o 153)) args s 0 0 (Blk o 153)) (F0 m 229 ls []) := by
  have hR := inY_R (inY hX.1)
  obtain ⟨b0, b1, b2, b3, b4, b5, b6, b7, b8, b9⟩ := inY_b (inY hX.1)
  intro st1 H locs ls  hP hS hl
  refine lv_iload_n T.1 T.2.1 dL_isAhead_229 rfl (lv_at hl 2 rfl) ?_
  refine xv_if_eq T (by omega) (tgt := 246) dL_isAhead_230 (by decide) (fun c1 => absurd c1 (by omega)) (fun _ => ?_)
  refine lv_aload_n T.1 T.2.1 dL_isAhead_233 rfl (lv_at hl 0 rfl) ?_
  refine lyS_L T hK hP hS (fun _ h => h) (c_L_print l K o N st1) iL_print mw_3_141 ⟨Nat.le_of_ble_eq_true rfl, Nat.le_of_ble_eq_true rfl⟩ hl.1 (Nat.le_of_ble_eq_true rfl) ⟨Nat.zero_le _, Nat.zero_le _⟩ dL_isAhead_234 (fun z9 N9 st9 H locs q9 hP hS => ?_)
  obtain ⟨hz9, hN9, hs9⟩ := q9
  subst hz9
  subst hN9
  subst hs9
  refine lv_lload_n T.1 T.2.1 dL_isAhead_237 rfl (lv_at hl 1 rfl) ?_
  refine xv_lcmp_ne T (tgt := 246) dL_isAhead_238 dL_isAhead_239 (by decide) (fun c => absurd (congrArg lI (rfl : digF N = digF N)) c) (fun _ => ?_)
  refine xv_iconst T dL_isAhead_242 ?_
  refine lv_goto T.1 T.2.1 (tgt := 247) dL_isAhead_243 (by decide) ?_
  exact ryB T hr hk hK hP hS (by omega) dL_isAhead_247 ⟨rfl, rfl⟩
set_option maxHeartbeats 4000000 in
set_option maxRecDepth 100000 in
theorem sg_L_isAhead_199 {p : Program} {l : Launch} {e : Env} {s : State} {m : MethodId} {args : Array Value} {below : List Frame} {meth : Method} {c : Code} {K : KT} {o : Nat} {N : Int → Int} {st : List (Int → Int)} (T : CF p m c cL_isAhead 9 s args RL) (hr : meth.sig.returnType = some .boolean) (hk : meth.locks = false) (hK : xK K s) (hX : InX N) : ∀ (fuel : Nat) (i : Int) (M : Int → Int) (st1 : List (Int → Int)) (H : Heap) (locs : List Loc) (ls : Array Slot), (0 ≤ i ∧ i ≤ N 4) → (BK N (N 4 - i).toNat M st1) → N 4 - i < (fuel : Int) → LwY K o M st1 H → va_S (Blk o 153) s.heap H locs → lv_has ls 9 [(0, .ref o), (1, .long (lI (digF N))), (3, .int (iI 1)), (5, .int (iI (N 4))), (8, .int (iI i))] → W p l e (rmF 6 142) s m args below meth c H locs 0 0 (MQ below (qI K (fun z (u : YT) => (poA N) z u.1 u.2.1 ∧ yOk u) (yW K o) (Blk o 153)) args s 0 0 (Blk o 153)) (F0 m 199 ls []) := by
  have hR := inY_R (inY hX.1)
  obtain ⟨b0, b1, b2, b3, b4, b5, b6, b7, b8, b9⟩ := inY_b (inY hX.1)
  intro fuel
  induction fuel with
  | zero =>
    intro i M st1 H locs ls hi hbk hm hP hS hl
    exact absurd hm (by omega)
  | succ fuel ih199 =>
    intro i M st1 H locs ls hi hbk hm hP hS hl
    refine lv_iload T.1 T.2.1 dL_isAhead_199 (lv_at hl 4 rfl) ?_
    refine lv_iload T.1 T.2.1 dL_isAhead_201 (lv_at hl 3 rfl) ?_
    refine xv_icmp_ge T (by omega) (tgt := 229) dL_isAhead_203 (by decide) (fun c1 => ?_) (fun c1 => ?_)
    · skip
      rw [show N 4 - i = 0 by omega] at hbk
      have hMN : N = M := hbk
      rw [← hMN] at hP
      exact sg_L_isAhead_229 (st := st) T hr hk hK hX  st1 _ _ ls   hP hS (lv_sub hl [0, 1, 2] rfl)
    · skip
      obtain ⟨S2, st2, hse, hbs⟩ := BK_back hbk (by omega)
      refine lv_iload_n T.1 T.2.1 dL_isAhead_206 rfl (lv_at hl 2 rfl) ?_
      refine xv_if_eq T (by omega) (tgt := 221) dL_isAhead_207 (by decide) (fun c2 => absurd c2 (by omega)) (fun _ => ?_)
      refine lv_aload_n T.1 T.2.1 dL_isAhead_210 rfl (lv_at hl 0 rfl) ?_
      refine ly_undo1 T hK hP hS (fun _ h => h) (S := S2) (st2 := st2) hse mw_3_59 ⟨Nat.le_of_ble_eq_true rfl, Nat.le_of_ble_eq_true rfl⟩ hl.1 (Nat.le_of_ble_eq_true rfl) ⟨Nat.zero_le _, Nat.zero_le _⟩ dL_isAhead_211 (fun H locs hP hS => ?_)
      have hq2 := lwY_st hP
      refine xv_if_lt T (by omega) (tgt := 221) dL_isAhead_214 (by decide) (fun c3 => absurd c3 (by omega)) (fun _ => ?_)
      refine xv_iconst T dL_isAhead_217 ?_
      refine lv_goto T.1 T.2.1 (tgt := 222) dL_isAhead_218 (by decide) ?_
      refine lv_istore_n (lv' := [(3, .int (iI 1)), (0, .ref o), (1, .long (lI (digF N))), (5, .int (iI (N 4))), (8, .int (iI i))]) T.1 T.2.1 dL_isAhead_222 rfl hl (by decide) rfl (fun ls hl => ?_)
      refine xv_iinc T (y := i + 1) (lv' := [(8, .int (iI (i + 1))), (3, .int (iI 1)), (0, .ref o), (1, .long (lI (digF N))), (5, .int (iI (N 4)))]) dL_isAhead_223 hl (q := 4) rfl (by omega) (by decide) rfl (fun ls hl => ?_)
      refine lv_goto T.1 T.2.1 (tgt := 199) dL_isAhead_226 (by decide) ?_
      exact ih199 (i + 1) S2 st2 _ _ ls (by omega) (by rw [show N 4 - (i + 1) = N 4 - i - 1 by omega]; exact hbs) (by omega) hP hS (lv_sub hl [2, 3, 1, 4, 0] rfl)
set_option maxHeartbeats 4000000 in
set_option maxRecDepth 100000 in
theorem sg_L_isAhead_152 {p : Program} {l : Launch} {e : Env} {s : State} {m : MethodId} {args : Array Value} {below : List Frame} {meth : Method} {c : Code} {K : KT} {o : Nat} {N : Int → Int} {st : List (Int → Int)} (T : CF p m c cL_isAhead 9 s args RL) (hr : meth.sig.returnType = some .boolean) (hk : meth.locks = false) (hK : xK K s) (hX : InX N) : ∀ (fuel : Nat) (sm : Int) (l1 : Int) (M : Int → Int) (st1 : List (Int → Int)) (H : Heap) (locs : List Loc) (ls : Array Slot), (0 < N 4 ∧ N 4 < 4) → (N 7 + N 4 ≤ 200) → (payF N ≤ 2147483647) → (0 ≤ l1 ∧ l1 ≤ N 4) → (BK N l1.toNat M st1) → (0 ≤ sm ∧ sm + payF M = payF N) → (M 4 = N 4 ∧ M 0 = 2 ∧ M 7 = N 7 + l1) → (∀ k : Int, 0 ≤ k → k < l1 → M (14 + k) = 1) → (∀ k g : Int, 0 ≤ k → k < l1 → 0 ≤ g → g < 8 → M (64 + 8 * k + g) = 0) → N 4 - l1 < (fuel : Int) → LwY K o M st1 H → va_S (Blk o 153) s.heap H locs → lv_has ls 9 [(0, .ref o), (1, .long (lI (digF N))), (3, .int (iI 1)), (5, .int (iI (N 4))), (6, .int (iI (payF N))), (7, .int (iI sm)), (8, .int (iI l1))] → W p l e (rmF 6 142) s m args below meth c H locs 0 0 (MQ below (qI K (fun z (u : YT) => (poA N) z u.1 u.2.1 ∧ yOk u) (yW K o) (Blk o 153)) args s 0 0 (Blk o 153)) (F0 m 152 ls []) := by
  have hR := inY_R (inY hX.1)
  obtain ⟨b0, b1, b2, b3, b4, b5, b6, b7, b8, b9⟩ := inY_b (inY hX.1)
  intro fuel
  induction fuel with
  | zero =>
    intro sm l1 M st1 H locs ls hn4 hn7 hpm hl1 hbk hsm hm ht hz hm hP hS hl
    exact absurd hm (by omega)
  | succ fuel ih152 =>
    intro sm l1 M st1 H locs ls hn4 hn7 hpm hl1 hbk hsm hm ht hz hm hP hS hl
    have hXM := lwY_X hP
    have hpy := payF_in hXM
    refine lv_iload T.1 T.2.1 dL_isAhead_152 (lv_at hl 6 rfl) ?_
    refine lv_iload T.1 T.2.1 dL_isAhead_154 (lv_at hl 3 rfl) ?_
    refine xv_icmp_ge T (by omega) (tgt := 176) dL_isAhead_156 (by decide) (fun c1 => ?_) (fun c1 => ?_)
    · skip
      have hp0 := pay_0 hXM (fun k a b => ht k a (by omega)) (fun k g a b c d => hz k g a (by omega) c d)
      have htp : qToPay M = 0 := by
        rcases toPay_eq hXM with ⟨x1, x2⟩ | ⟨x1, x2⟩
        · rw [x2, hp0]
        · omega
      refine lv_iload T.1 T.2.1 dL_isAhead_176 (lv_at hl 5 rfl) ?_
      refine lv_iload T.1 T.2.1 dL_isAhead_178 (lv_at hl 4 rfl) ?_
      refine xv_icmp_ne T (by omega) (tgt := 194) dL_isAhead_180 (by decide) (fun c2 => absurd c2 (by omega)) (fun _ => ?_)
      refine lv_aload_n T.1 T.2.1 dL_isAhead_183 rfl (lv_at hl 0 rfl) ?_
      refine ly_toPay T hK hP hS (fun _ h => h) (w := 0) htp mw_3_77 ⟨Nat.le_of_ble_eq_true rfl, Nat.le_of_ble_eq_true rfl⟩ hl.1 (Nat.le_of_ble_eq_true rfl) ⟨Nat.zero_le _, Nat.zero_le _⟩ dL_isAhead_184 (fun H locs hP hS => ?_)
      refine xv_if_ne T (by omega) (tgt := 194) dL_isAhead_187 (by decide) (fun c3 => absurd c3 (by omega)) (fun _ => ?_)
      refine xv_iconst T dL_isAhead_190 ?_
      refine lv_goto T.1 T.2.1 (tgt := 195) dL_isAhead_191 (by decide) ?_
      refine lv_istore_n (lv' := [(3, .int (iI 1)), (0, .ref o), (1, .long (lI (digF N))), (5, .int (iI (N 4))), (6, .int (iI (payF N))), (7, .int (iI sm)), (8, .int (iI l1))]) T.1 T.2.1 dL_isAhead_195 rfl hl (by decide) rfl (fun ls hl => ?_)
      refine xv_iconst T dL_isAhead_196 ?_
      refine lv_istore (lv' := [(8, .int (iI 0)), (3, .int (iI 1)), (0, .ref o), (1, .long (lI (digF N))), (5, .int (iI (N 4))), (6, .int (iI (payF N))), (7, .int (iI sm))]) T.1 T.2.1 dL_isAhead_197 hl (by decide) rfl (fun ls hl => ?_)
      exact sg_L_isAhead_199 (st := st) T hr hk hK hX 7 0 M st1 _ _ ls (by omega) (by have h9 := hbk; rw [show l1 = N 4 by omega] at h9; rw [Int.sub_zero]; exact h9) (by omega) hP hS (lv_sub hl [2, 3, 1, 4, 0] rfl)
    · skip
      have hdo := inspect_does hXM (l := l1) (by omega) (by omega) (by omega) (by omega)
      obtain ⟨-, -, q3, q4, q5, q6, q7, q8, q9, q10, q11⟩ := inspect_ok hXM (l := l1) hdo.1.symm hdo.2.1
      refine lv_iload T.1 T.2.1 dL_isAhead_159 (lv_at hl 5 rfl) ?_
      refine lv_aload_n T.1 T.2.1 dL_isAhead_161 rfl (lv_at hl 0 rfl) ?_
      refine lv_iload T.1 T.2.1 dL_isAhead_162 (lv_at hl 6 rfl) ?_
      refine ly_inspect T hK hP hS (fun _ h => h) (by omega) (z := dueF M l1) (N2 := (sInspect M l1).2) hdo.1 mw_2_200 ⟨Nat.le_of_ble_eq_true rfl, Nat.le_of_ble_eq_true rfl⟩ hl.1 (Nat.le_of_ble_eq_true rfl) ⟨Nat.zero_le _, Nat.zero_le _⟩ dL_isAhead_164 (fun H locs hP hS => ?_)
      rw [chS_pos (by omega)] at hP
      refine xv_iadd T dL_isAhead_167 ?_
      refine lv_istore (lv' := [(7, .int (iI (sm + (dueF M l1)))), (0, .ref o), (1, .long (lI (digF N))), (3, .int (iI 1)), (5, .int (iI (N 4))), (6, .int (iI (payF N))), (8, .int (iI l1))]) T.1 T.2.1 dL_isAhead_168 hl (by decide) rfl (fun ls hl => ?_)
      refine xv_iinc T (y := l1 + 1) (lv' := [(8, .int (iI (l1 + 1))), (7, .int (iI (sm + (dueF M l1)))), (0, .ref o), (1, .long (lI (digF N))), (3, .int (iI 1)), (5, .int (iI (N 4))), (6, .int (iI (payF N)))]) dL_isAhead_170 hl (q := 6) rfl (by omega) (by decide) rfl (fun ls hl => ?_)
      refine lv_goto T.1 T.2.1 (tgt := 152) dL_isAhead_173 (by decide) ?_
      exact ih152 (sm + (dueF M l1)) (l1 + 1) ((sInspect M l1).2) ((M :: st1).take 4) _ _ ls hn4 hn7 hpm (by omega) (BK_step hbk (by omega)) ⟨by omega, by omega⟩ ⟨by omega, by omega, by omega⟩ (fun k a b => if e : k = l1 then (by rw [e]; exact q6) else (by rw [q7 k a (by omega) e]; exact ht k a (by omega))) (fun k g a b c d => if e : k = l1 then (by rw [e]; exact q4 g c d) else (by rw [q5 k g a (by omega) e c d]; exact hz k g a (by omega) c d)) (by omega) hP hS (lv_sub hl [2, 3, 4, 5, 6, 1, 0] rfl)
set_option maxHeartbeats 4000000 in
set_option maxRecDepth 100000 in
theorem sg_L_isAhead_90 {p : Program} {l : Launch} {e : Env} {s : State} {m : MethodId} {args : Array Value} {below : List Frame} {meth : Method} {c : Code} {K : KT} {o : Nat} {N : Int → Int} {st : List (Int → Int)} (T : CF p m c cL_isAhead 9 s args RL) (hr : meth.sig.returnType = some .boolean) (hk : meth.locks = false) (hK : xK K s) (hX : InX N) : ∀ (st1 : List (Int → Int)) (H : Heap) (locs : List Loc) (ls : Array Slot), LwY K o N st1 H → va_S (Blk o 153) s.heap H locs → lv_has ls 9 [(0, .ref o), (1, .long (lI (digF N))), (3, .int (iI 1))] → W p l e (rmF 6 142) s m args below meth c H locs 0 0 (MQ below (qI K (fun z (u : YT) => (poA N) z u.1 u.2.1 ∧ yOk u) (yW K o) (Blk o 153)) args s 0 0 (Blk o 153)) (F0 m 90 ls []) := by
  have hR := inY_R (inY hX.1)
  obtain ⟨b0, b1, b2, b3, b4, b5, b6, b7, b8, b9⟩ := inY_b (inY hX.1)
  intro st1 H locs ls  hP hS hl
  have hpi := payF_in hX
  rcases toPay_eq hX with ⟨hpl, hpy⟩ | ⟨hpl, hpy⟩
  · skip
    refine lv_aload_n T.1 T.2.1 dL_isAhead_90 rfl (lv_at hl 0 rfl) ?_
    refine xv_iconst T dL_isAhead_91 ?_
    refine ly_count T hK hP hS (fun _ h => h) (by omega) (w := N 4) rfl mw_3_50 ⟨Nat.le_of_ble_eq_true rfl, Nat.le_of_ble_eq_true rfl⟩ hl.1 (Nat.le_of_ble_eq_true rfl) ⟨Nat.zero_le _, Nat.zero_le _⟩ dL_isAhead_92 (fun H locs hP hS => ?_)
    refine lv_istore (lv' := [(5, .int (iI (N 4))), (0, .ref o), (1, .long (lI (digF N))), (3, .int (iI 1))]) T.1 T.2.1 dL_isAhead_95 hl (by decide) rfl (fun ls hl => ?_)
    refine lv_aload_n T.1 T.2.1 dL_isAhead_97 rfl (lv_at hl 1 rfl) ?_
    refine ly_toPay T hK hP hS (fun _ h => h) (w := payF N) hpy mw_3_77 ⟨Nat.le_of_ble_eq_true rfl, Nat.le_of_ble_eq_true rfl⟩ hl.1 (Nat.le_of_ble_eq_true rfl) ⟨Nat.zero_le _, Nat.zero_le _⟩ dL_isAhead_98 (fun H locs hP hS => ?_)
    refine lv_istore (lv' := [(6, .int (iI (payF N))), (5, .int (iI (N 4))), (0, .ref o), (1, .long (lI (digF N))), (3, .int (iI 1))]) T.1 T.2.1 dL_isAhead_101 hl (by decide) rfl (fun ls hl => ?_)
    refine lv_iload_n T.1 T.2.1 dL_isAhead_103 rfl (lv_at hl 4 rfl) ?_
    refine xv_if_eq T (by omega) (tgt := 229) dL_isAhead_104 (by decide) (fun c1 => absurd c1 (by omega)) (fun _ => ?_)
    refine lv_aload_n T.1 T.2.1 dL_isAhead_107 rfl (lv_at hl 2 rfl) ?_
    refine xv_iconst T dL_isAhead_108 ?_
    refine ly_count T hK hP hS (fun _ h => h) (by omega) (w := N 0) rfl mw_3_50 ⟨Nat.le_of_ble_eq_true rfl, Nat.le_of_ble_eq_true rfl⟩ hl.1 (Nat.le_of_ble_eq_true rfl) ⟨Nat.zero_le _, Nat.zero_le _⟩ dL_isAhead_109 (fun H locs hP hS => ?_)
    refine xv_iconst T dL_isAhead_112 ?_
    refine xv_icmp_ne T (by omega) (tgt := 229) dL_isAhead_113 (by decide) (fun c2 => ?_) (fun c2 => ?_)
    · skip
      exact sg_L_isAhead_229 (st := st) T hr hk hK hX  st1 _ _ ls   hP hS (lv_sub hl [2, 3, 4] rfl)
    · skip
      refine lv_iload T.1 T.2.1 dL_isAhead_116 (lv_at hl 0 rfl) ?_
      refine xv_if_lt T (by omega) (tgt := 229) dL_isAhead_118 (by decide) (fun c3 => absurd c3 (by omega)) (fun _ => ?_)
      refine lv_iload T.1 T.2.1 dL_isAhead_121 (lv_at hl 1 rfl) ?_
      refine xv_iconst T dL_isAhead_123 ?_
      refine xv_icmp_ge T (by omega) (tgt := 229) dL_isAhead_124 (by decide) (fun c4 => ?_) (fun c4 => ?_)
      · skip
        exact sg_L_isAhead_229 (st := st) T hr hk hK hX  st1 _ _ ls   hP hS (lv_sub hl [2, 3, 4] rfl)
      · skip
        refine lv_iload T.1 T.2.1 dL_isAhead_127 (lv_at hl 1 rfl) ?_
        refine xv_if_le T (by omega) (tgt := 229) dL_isAhead_129 (by decide) (fun c5 => ?_) (fun c5 => ?_)
        · skip
          exact sg_L_isAhead_229 (st := st) T hr hk hK hX  st1 _ _ ls   hP hS (lv_sub hl [2, 3, 4] rfl)
        · skip
          refine lv_aload_n T.1 T.2.1 dL_isAhead_132 rfl (lv_at hl 2 rfl) ?_
          refine xv_iconst T dL_isAhead_133 ?_
          refine ly_count T hK hP hS (fun _ h => h) (by omega) (w := N 7) rfl mw_3_50 ⟨Nat.le_of_ble_eq_true rfl, Nat.le_of_ble_eq_true rfl⟩ hl.1 (Nat.le_of_ble_eq_true rfl) ⟨Nat.zero_le _, Nat.zero_le _⟩ dL_isAhead_134 (fun H locs hP hS => ?_)
          refine lv_iload T.1 T.2.1 dL_isAhead_137 (lv_at hl 1 rfl) ?_
          refine xv_iadd T dL_isAhead_139 ?_
          refine xv_sipush T dL_isAhead_140 (by omega) ?_
          refine xv_icmp_gt T (by omega) (tgt := 229) dL_isAhead_143 (by decide) (fun c6 => ?_) (fun c6 => ?_)
          · skip
            exact sg_L_isAhead_229 (st := st) T hr hk hK hX  st1 _ _ ls   hP hS (lv_sub hl [2, 3, 4] rfl)
          · skip
            refine xv_iconst T dL_isAhead_146 ?_
            refine lv_istore (lv' := [(7, .int (iI 0)), (6, .int (iI (payF N))), (5, .int (iI (N 4))), (0, .ref o), (1, .long (lI (digF N))), (3, .int (iI 1))]) T.1 T.2.1 dL_isAhead_147 hl (by decide) rfl (fun ls hl => ?_)
            refine xv_iconst T dL_isAhead_149 ?_
            refine lv_istore (lv' := [(8, .int (iI 0)), (7, .int (iI 0)), (6, .int (iI (payF N))), (5, .int (iI (N 4))), (0, .ref o), (1, .long (lI (digF N))), (3, .int (iI 1))]) T.1 T.2.1 dL_isAhead_150 hl (by decide) rfl (fun ls hl => ?_)
            exact sg_L_isAhead_152 (st := st) T hr hk hK hX 7 0 0 N st1 _ _ ls (by omega) (by omega) (by omega) (by omega) rfl ⟨Int.le_refl 0, Int.zero_add _⟩ ⟨rfl, by omega, (Int.add_zero _).symm⟩ (fun k a b => by omega) (fun k g a b => by omega) (by omega) hP hS (lv_sub hl [4, 5, 6, 3, 2, 1, 0] rfl)
  · skip
    refine lv_aload_n T.1 T.2.1 dL_isAhead_90 rfl (lv_at hl 0 rfl) ?_
    refine xv_iconst T dL_isAhead_91 ?_
    refine ly_count T hK hP hS (fun _ h => h) (by omega) (w := N 4) rfl mw_3_50 ⟨Nat.le_of_ble_eq_true rfl, Nat.le_of_ble_eq_true rfl⟩ hl.1 (Nat.le_of_ble_eq_true rfl) ⟨Nat.zero_le _, Nat.zero_le _⟩ dL_isAhead_92 (fun H locs hP hS => ?_)
    refine lv_istore (lv' := [(5, .int (iI (N 4))), (0, .ref o), (1, .long (lI (digF N))), (3, .int (iI 1))]) T.1 T.2.1 dL_isAhead_95 hl (by decide) rfl (fun ls hl => ?_)
    refine lv_aload_n T.1 T.2.1 dL_isAhead_97 rfl (lv_at hl 1 rfl) ?_
    refine ly_toPay T hK hP hS (fun _ h => h) (w := (-3)) hpy mw_3_77 ⟨Nat.le_of_ble_eq_true rfl, Nat.le_of_ble_eq_true rfl⟩ hl.1 (Nat.le_of_ble_eq_true rfl) ⟨Nat.zero_le _, Nat.zero_le _⟩ dL_isAhead_98 (fun H locs hP hS => ?_)
    refine lv_istore (lv' := [(6, .int (iI (-3))), (5, .int (iI (N 4))), (0, .ref o), (1, .long (lI (digF N))), (3, .int (iI 1))]) T.1 T.2.1 dL_isAhead_101 hl (by decide) rfl (fun ls hl => ?_)
    refine lv_iload_n T.1 T.2.1 dL_isAhead_103 rfl (lv_at hl 4 rfl) ?_
    refine xv_if_eq T (by omega) (tgt := 229) dL_isAhead_104 (by decide) (fun c7 => absurd c7 (by omega)) (fun _ => ?_)
    refine lv_aload_n T.1 T.2.1 dL_isAhead_107 rfl (lv_at hl 2 rfl) ?_
    refine xv_iconst T dL_isAhead_108 ?_
    refine ly_count T hK hP hS (fun _ h => h) (by omega) (w := N 0) rfl mw_3_50 ⟨Nat.le_of_ble_eq_true rfl, Nat.le_of_ble_eq_true rfl⟩ hl.1 (Nat.le_of_ble_eq_true rfl) ⟨Nat.zero_le _, Nat.zero_le _⟩ dL_isAhead_109 (fun H locs hP hS => ?_)
    refine xv_iconst T dL_isAhead_112 ?_
    refine xv_icmp_ne T (by omega) (tgt := 229) dL_isAhead_113 (by decide) (fun c8 => ?_) (fun c8 => ?_)
    · skip
      exact sg_L_isAhead_229 (st := st) T hr hk hK hX  st1 _ _ ls   hP hS (lv_sub hl [2, 3, 4] rfl)
    · skip
      refine lv_iload T.1 T.2.1 dL_isAhead_116 (lv_at hl 0 rfl) ?_
      refine xv_if_lt T (by omega) (tgt := 229) dL_isAhead_118 (by decide) (fun _ => ?_) (fun c9 => absurd c9 (by omega))
      exact sg_L_isAhead_229 (st := st) T hr hk hK hX  st1 _ _ ls   hP hS (lv_sub hl [2, 3, 4] rfl)
set_option maxHeartbeats 4000000 in
set_option maxRecDepth 100000 in
theorem c_L_isAhead (l : Launch) (K : KT) (o : Nat) (N : Int → Int) (st : List (Int → Int)) : CyI l yL_isAhead cL_isAhead 9 .boolean 6 142 K o N st (poA N) := by
  refine CyI_of (by decide) (Nat.le_of_ble_eq_true rfl) ?_
  intro p e s m args below meth c T hr hk hP hK ls hl
  have T : CF p m c cL_isAhead 9 s args RL := T
  have hS : va_S (Blk o 153) s.heap s.heap [] := va_S.rf
  have hX := lwY_X hP
  have hR := inY_R (inY hX.1)
  obtain ⟨b0, b1, b2, b3, b4, b5, b6, b7, b8, b9⟩ := inY_b (inY hX.1)
  obtain ⟨dy, hdy⟩ : ∃ d : Int, qRunsOut N = d := ⟨_, rfl⟩
  have hro : -4 ≤ dy ∧ dy ≤ 5100 := by
    have hbo := nxt_or N (-1) (-1)
    have hpu : ∀ k : Int, 0 ≤ k → k < N 6 → _ := fun k a b => (hR.2 k a b).2.2.2.2
    unfold qRunsOut at hdy
    split at hdy
    · omega
    · have h9 := hpu (nxt N (-1) (-1)) (by omega) (by omega)
      have h8 := hX.2.2.2.1 (nxt N (-1) (-1)) (by omega) (by omega) (isNx_pos (nxt_is N (-1) (-1)) (by omega))
      omega
  refine lv_aload_n T.1 T.2.1 dL_isAhead_0 rfl (lv_at hl 0 rfl) ?_
  refine lyS_L T hK hP hS (fun _ h => h) (c_L_print l K o N st) iL_print mw_3_141 ⟨Nat.le_of_ble_eq_true rfl, Nat.le_of_ble_eq_true rfl⟩ hl.1 (Nat.le_of_ble_eq_true rfl) ⟨Nat.zero_le _, Nat.zero_le _⟩ dL_isAhead_1 (fun z9 N9 st9 H locs q9 hP hS => ?_)
  obtain ⟨hz9, hN9, hs9⟩ := q9
  subst hz9
  subst hN9
  subst hs9
  refine lv_lstore_n (lv' := [(1, .long (lI (digF N))), (0, .ref o)]) T.1 T.2.1 dL_isAhead_4 rfl hl (by decide) rfl (fun ls hl => ?_)
  refine xv_iconst T dL_isAhead_5 ?_
  refine lv_istore_n (lv' := [(3, .int (iI 1)), (1, .long (lI (digF N))), (0, .ref o)]) T.1 T.2.1 dL_isAhead_6 rfl hl (by decide) rfl (fun ls hl => ?_)
  refine lv_aload_n T.1 T.2.1 dL_isAhead_7 rfl (lv_at hl 2 rfl) ?_
  refine ly_runsOut T hK hP hS (fun _ h => h) (w := dy) hdy mw_3_86 ⟨Nat.le_of_ble_eq_true rfl, Nat.le_of_ble_eq_true rfl⟩ hl.1 (Nat.le_of_ble_eq_true rfl) ⟨Nat.zero_le _, Nat.zero_le _⟩ dL_isAhead_8 (fun H locs hP hS => ?_)
  refine lv_istore (lv' := [(4, .int (iI dy)), (3, .int (iI 1)), (1, .long (lI (digF N))), (0, .ref o)]) T.1 T.2.1 dL_isAhead_11 hl (by decide) rfl (fun ls hl => ?_)
  refine lv_iload T.1 T.2.1 dL_isAhead_13 (lv_at hl 0 rfl) ?_
  refine xv_iconst T dL_isAhead_15 ?_
  refine xv_icmp_le T (by omega) (tgt := 90) dL_isAhead_16 (by decide) (fun c1 => ?_) (fun c1 => ?_)
  · skip
    exact sg_L_isAhead_90 (st := st) T hr hk hK hX  st _ _ ls   hP hS (lv_sub hl [3, 2, 1] rfl)
  · skip
    refine lv_iload T.1 T.2.1 dL_isAhead_19 (lv_at hl 0 rfl) ?_
    refine xv_bipush T dL_isAhead_21 (by omega) ?_
    refine xv_icmp_gt T (by omega) (tgt := 90) dL_isAhead_23 (by decide) (fun c2 => ?_) (fun c2 => ?_)
    · skip
      exact sg_L_isAhead_90 (st := st) T hr hk hK hX  st _ _ ls   hP hS (lv_sub hl [3, 2, 1] rfl)
    · skip
      refine lv_aload_n T.1 T.2.1 dL_isAhead_26 rfl (lv_at hl 3 rfl) ?_
      refine xv_bipush T dL_isAhead_27 (by omega) ?_
      refine ly_count T hK hP hS (fun _ h => h) (by omega) (w := N 1) rfl mw_3_50 ⟨Nat.le_of_ble_eq_true rfl, Nat.le_of_ble_eq_true rfl⟩ hl.1 (Nat.le_of_ble_eq_true rfl) ⟨Nat.zero_le _, Nat.zero_le _⟩ dL_isAhead_29 (fun H locs hP hS => ?_)
      refine lv_iload T.1 T.2.1 dL_isAhead_32 (lv_at hl 0 rfl) ?_
      refine xv_iadd T dL_isAhead_34 ?_
      refine xv_sipush T dL_isAhead_35 (by omega) ?_
      refine xv_icmp_gt T (by omega) (tgt := 90) dL_isAhead_38 (by decide) (fun c3 => ?_) (fun c3 => ?_)
      · skip
        exact sg_L_isAhead_90 (st := st) T hr hk hK hX  st _ _ ls   hP hS (lv_sub hl [3, 2, 1] rfl)
      · skip
        obtain ⟨zz, hzz⟩ : ∃ z : Int, z = (sPass N dy).1 := ⟨_, rfl⟩
        have hz1 := pass_1 hX (by omega) (by omega) hdy
        have hz2 := pass_rg hX dy
        refine lv_aload_n T.1 T.2.1 dL_isAhead_41 rfl (lv_at hl 3 rfl) ?_
        refine lv_iload T.1 T.2.1 dL_isAhead_42 (lv_at hl 0 rfl) ?_
        refine xv_iconst T dL_isAhead_44 ?_
        refine xv_isub T dL_isAhead_45 ?_
        refine ly_pass T hK hP hS (fun _ h => h) (by omega) (z := 0) (N2 := (sPass N (dy - 1)).2) (pass_0 hX (by omega) (by omega) hdy) mw_2_232 ⟨Nat.le_of_ble_eq_true rfl, Nat.le_of_ble_eq_true rfl⟩ hl.1 (Nat.le_of_ble_eq_true rfl) ⟨Nat.zero_le _, Nat.zero_le _⟩ dL_isAhead_46 (fun H locs hP hS => ?_)
        rw [chS_pos (by omega)] at hP
        refine xv_if_ne T (by omega) (tgt := 88) dL_isAhead_49 (by decide) (fun c4 => absurd c4 (by omega)) (fun _ => ?_)
        refine lv_aload_n T.1 T.2.1 dL_isAhead_52 rfl (lv_at hl 3 rfl) ?_
        refine ly_undo1 T hK hP hS (fun _ h => h) (S := N) (st2 := st.take 3) rfl mw_3_59 ⟨Nat.le_of_ble_eq_true rfl, Nat.le_of_ble_eq_true rfl⟩ hl.1 (Nat.le_of_ble_eq_true rfl) ⟨Nat.zero_le _, Nat.zero_le _⟩ dL_isAhead_53 (fun H locs hP hS => ?_)
        obtain ⟨st5, hsst5⟩ : ∃ y : List (Int → Int), y = st.take 3 := ⟨_, rfl⟩
        rw [← hsst5] at hP ⊢
        have hqst5 := lwY_st hP
        refine xv_if_lt T (by omega) (tgt := 88) dL_isAhead_56 (by decide) (fun c6 => absurd c6 (by omega)) (fun _ => ?_)
        refine lv_aload_n T.1 T.2.1 dL_isAhead_59 rfl (lv_at hl 3 rfl) ?_
        refine lv_iload T.1 T.2.1 dL_isAhead_60 (lv_at hl 0 rfl) ?_
        refine ly_pass T hK hP hS (fun _ h => h) (by omega) (z := zz) (N2 := (sPass N dy).2) (show sPass N dy = (zz, (sPass N dy).2) by rw [hzz]) mw_2_232 ⟨Nat.le_of_ble_eq_true rfl, Nat.le_of_ble_eq_true rfl⟩ hl.1 (Nat.le_of_ble_eq_true rfl) ⟨Nat.zero_le _, Nat.zero_le _⟩ dL_isAhead_62 (fun H locs hP hS => ?_)
        rw [chS_pos (by omega)] at hP
        refine xv_if_le T (by omega) (tgt := 88) dL_isAhead_65 (by decide) (fun c7 => absurd c7 (by omega)) (fun _ => ?_)
        refine lv_aload_n T.1 T.2.1 dL_isAhead_68 rfl (lv_at hl 3 rfl) ?_
        refine ly_undo1 T hK hP hS (fun _ h => h) (S := N) (st2 := st5.take 3) rfl mw_3_59 ⟨Nat.le_of_ble_eq_true rfl, Nat.le_of_ble_eq_true rfl⟩ hl.1 (Nat.le_of_ble_eq_true rfl) ⟨Nat.zero_le _, Nat.zero_le _⟩ dL_isAhead_69 (fun H locs hP hS => ?_)
        obtain ⟨st8, hsst8⟩ : ∃ y : List (Int → Int), y = st5.take 3 := ⟨_, rfl⟩
        rw [← hsst8] at hP ⊢
        have hqst8 := lwY_st hP
        refine xv_if_lt T (by omega) (tgt := 88) dL_isAhead_72 (by decide) (fun c9 => absurd c9 (by omega)) (fun _ => ?_)
        refine lv_aload_n T.1 T.2.1 dL_isAhead_75 rfl (lv_at hl 3 rfl) ?_
        refine lyS_L T hK hP hS (fun _ h => h) (c_L_print l K o N st8) iL_print mw_3_141 ⟨Nat.le_of_ble_eq_true rfl, Nat.le_of_ble_eq_true rfl⟩ hl.1 (Nat.le_of_ble_eq_true rfl) ⟨Nat.zero_le _, Nat.zero_le _⟩ dL_isAhead_76 (fun z9 N9 st9 H locs q9 hP hS => ?_)
        obtain ⟨hz9, hN9, hs9⟩ := q9
        subst hz9
        subst hN9
        subst hs9
        refine lv_lload_n T.1 T.2.1 dL_isAhead_79 rfl (lv_at hl 2 rfl) ?_
        refine xv_lcmp_ne T (tgt := 88) dL_isAhead_80 dL_isAhead_81 (by decide) (fun c => absurd (congrArg lI (rfl : digF N = digF N)) c) (fun _ => ?_)
        refine xv_iconst T dL_isAhead_84 ?_
        refine lv_goto T.1 T.2.1 (tgt := 89) dL_isAhead_85 (by decide) ?_
        refine lv_istore_n (lv' := [(3, .int (iI 1)), (4, .int (iI dy)), (1, .long (lI (digF N))), (0, .ref o)]) T.1 T.2.1 dL_isAhead_89 rfl hl (by decide) rfl (fun ls hl => ?_)
        exact sg_L_isAhead_90 (st := st) T hr hk hK hX  st8 _ _ ls   hP hS (lv_sub hl [3, 2, 0] rfl)
