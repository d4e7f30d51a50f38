set_option maxHeartbeats 4000000 in
set_option maxRecDepth 100000 in
theorem sg_L_print_297 {p : Program} {l : Launch} {e : Env} {s : State} {m : MethodId} {args : Array Value} {below : List Frame} {meth : Method} {c : Code} {K : KT} {o : Nat} {N : Int → Int} {st : List (Int → Int)} (T : CF p m c cL_print 5 s args RL) (hr : meth.sig.returnType = some .long) (hk : meth.locks = false) (hK : xK K s) (hX : InX N) : ∀ (fuel : Nat) (a7 : Int) (k7 : Int) (H : Heap) (locs : List Loc) (ls : Array Slot), (0 ≤ k7 ∧ k7 ≤ 7) → (a7 = fo (fun k a => 31 * a + tI (qCents N k)) k7.toNat (dg6 N)) → 7 - k7 < (fuel : Int) → LwY K o N st H → va_S (Blk o 153) s.heap H locs → lv_has ls 5 [(0, .ref o), (1, .long (lI a7)), (3, .int (iI k7))] → W p l e (rmF 3 69) s m args below meth c H locs 0 0 (MQ below (qL K (fun z (u : YT) => (poD N st) z u.1 u.2.1 ∧ yOk u) (yW K o) (Blk o 153)) args s 0 0 (Blk o 153)) (F0 m 297 ls []) := by
  have hR := inY_R (inY hX.1)
  obtain ⟨b0, b1, b2, b3, b4, b5, b6, b7, b8, b9⟩ := inY_b (inY hX.1)
  intro fuel
  induction fuel with
  | zero =>
    intro a7 k7 H locs ls hk7 ha7 hm hP hS hl
    exact absurd hm (by omega)
  | succ fuel ih297 =>
    intro a7 k7 H locs ls hk7 ha7 hm hP hS hl
    refine lv_iload_n T.1 T.2.1 dL_print_297 rfl (lv_at hl 2 rfl) ?_
    refine xv_bipush T dL_print_298 (by omega) ?_
    refine xv_icmp_ge T (by omega) (tgt := 322) dL_print_300 (by decide) (fun c1 => ?_) (fun c1 => ?_)
    · skip
      refine lv_lload_n T.1 T.2.1 dL_print_322 rfl (lv_at hl 1 rfl) ?_
      exact ryL T hr hk hK hP hS dL_print_323 ⟨by unfold digF; rw [ha7, show k7 = 7 by omega]; rfl, rfl, rfl⟩
    · skip
      refine xv_ldc2 T mw_3_145 (n := 31) (by decide +kernel) dL_print_303 ?_
      refine lv_lload_n T.1 T.2.1 dL_print_306 rfl (lv_at hl 1 rfl) ?_
      refine xv_lmul T dL_print_307 ?_
      refine lv_aload_n T.1 T.2.1 dL_print_308 rfl (lv_at hl 0 rfl) ?_
      refine lv_iload_n T.1 T.2.1 dL_print_309 rfl (lv_at hl 2 rfl) ?_
      refine ly_cents T hK hP hS (fun _ h => h) (by omega) (w := qCents N k7) rfl mw_3_37 ⟨Nat.le_of_ble_eq_true rfl, Nat.le_of_ble_eq_true rfl⟩ hl.1 (Nat.le_of_ble_eq_true rfl) ⟨Nat.zero_le _, Nat.zero_le _⟩ dL_print_310 (fun H locs hP hS => ?_)
      refine xr_i2l T dL_print_313 ?_
      refine xv_ladd T dL_print_314 ?_
      refine lv_lstore_n (lv' := [(1, .long (lI (31 * a7 + ((iI (qCents N k7)).toInt)))), (0, .ref o), (3, .int (iI k7))]) T.1 T.2.1 dL_print_315 rfl hl (by decide) rfl (fun ls hl => ?_)
      refine xv_iinc T (y := k7 + 1) (lv' := [(3, .int (iI (k7 + 1))), (1, .long (lI (31 * a7 + ((iI (qCents N k7)).toInt)))), (0, .ref o)]) dL_print_316 hl (q := 2) rfl (by omega) (by decide) rfl (fun ls hl => ?_)
      refine lv_goto T.1 T.2.1 (tgt := 297) dL_print_319 (by decide) ?_
      exact ih297 (31 * a7 + ((iI (qCents N k7)).toInt)) (k7 + 1) _ _ ls (by omega) (by rw [fo_s (by omega), ← ha7]; rfl) (by omega) hP hS (lv_sub hl [2, 1, 0] rfl)
set_option maxHeartbeats 4000000 in
set_option maxRecDepth 100000 in
theorem sg_L_print_250 {p : Program} {l : Launch} {e : Env} {s : State} {m : MethodId} {args : Array Value} {below : List Frame} {meth : Method} {c : Code} {K : KT} {o : Nat} {N : Int → Int} {st : List (Int → Int)} (T : CF p m c cL_print 5 s args RL) (hr : meth.sig.returnType = some .long) (hk : meth.locks = false) (hK : xK K s) (hX : InX N) : ∀ (fuel : Nat) (a6 : Int) (n6 : Int) (H : Heap) (locs : List Loc) (ls : Array Slot), (1 ≤ n6 ∧ n6 ≤ N 7 + 1) → (a6 = fo (fun n a => dgS N (n + 1) a) (n6 - 1).toNat (dg5 N)) → N 7 + 1 - n6 < (fuel : Int) → LwY K o N st H → va_S (Blk o 153) s.heap H locs → lv_has ls 5 [(0, .ref o), (1, .long (lI a6)), (3, .int (iI n6))] → W p l e (rmF 3 69) s m args below meth c H locs 0 0 (MQ below (qL K (fun z (u : YT) => (poD N st) z u.1 u.2.1 ∧ yOk u) (yW K o) (Blk o 153)) args s 0 0 (Blk o 153)) (F0 m 250 ls []) := by
  have hR := inY_R (inY hX.1)
  obtain ⟨b0, b1, b2, b3, b4, b5, b6, b7, b8, b9⟩ := inY_b (inY hX.1)
  intro fuel
  induction fuel with
  | zero =>
    intro a6 n6 H locs ls hn6 ha6 hm hP hS hl
    exact absurd hm (by omega)
  | succ fuel ih250 =>
    intro a6 n6 H locs ls hn6 ha6 hm hP hS hl
    refine lv_iload_n T.1 T.2.1 dL_print_250 rfl (lv_at hl 2 rfl) ?_
    refine lv_aload_n T.1 T.2.1 dL_print_251 rfl (lv_at hl 0 rfl) ?_
    refine xv_iconst T dL_print_252 ?_
    refine ly_count T hK hP hS (fun _ h => h) (by omega) (w := N 7) rfl mw_3_50 ⟨Nat.le_of_ble_eq_true rfl, Nat.le_of_ble_eq_true rfl⟩ hl.1 (Nat.le_of_ble_eq_true rfl) ⟨Nat.zero_le _, Nat.zero_le _⟩ dL_print_253 (fun H locs hP hS => ?_)
    refine xv_icmp_gt T (by omega) (tgt := 295) dL_print_256 (by decide) (fun c1 => ?_) (fun c1 => ?_)
    · skip
      refine xv_iconst T dL_print_295 ?_
      refine lv_istore_n (lv' := [(3, .int (iI 0)), (0, .ref o), (1, .long (lI a6))]) T.1 T.2.1 dL_print_296 rfl hl (by decide) rfl (fun ls hl => ?_)
      exact sg_L_print_297 (st := st) T hr hk hK hX 300 a6 0 _ _ ls (by omega) (by unfold dg6; rw [fo_0, ha6, show n6 - 1 = N 7 by omega]) (by omega) hP hS (lv_sub hl [1, 2, 0] rfl)
    · skip
      refine xv_iconst T dL_print_259 ?_
      refine lv_istore (lv' := [(4, .int (iI 0)), (0, .ref o), (1, .long (lI a6)), (3, .int (iI n6))]) T.1 T.2.1 dL_print_260 hl (by decide) rfl (fun ls hl => ?_)
      have lp262 : ∀ (fuel : Nat) (a6a : Int) (k6 : Int) (H : Heap) (locs : List Loc) (ls : Array Slot), (0 ≤ k6 ∧ k6 ≤ 3) → (a6a = fo (fun k a => 31 * a + tI (qSeal N n6 k)) k6.toNat a6) → 3 - k6 < (fuel : Int) → LwY K o N st H → va_S (Blk o 153) s.heap H locs → lv_has ls 5 [(0, .ref o), (1, .long (lI a6a)), (4, .int (iI k6)), (3, .int (iI n6))] → W p l e (rmF 3 69) s m args below meth c H locs 0 0 (MQ below (qL K (fun z (u : YT) => (poD N st) z u.1 u.2.1 ∧ yOk u) (yW K o) (Blk o 153)) args s 0 0 (Blk o 153)) (F0 m 262 ls []) := by
        intro fuel
        induction fuel with
        | zero =>
          intro a6a k6 H locs ls hk6 ha6a hm hP hS hl
          exact absurd hm (by omega)
        | succ fuel ih262 =>
          intro a6a k6 H locs ls hk6 ha6a hm hP hS hl
          refine lv_iload T.1 T.2.1 dL_print_262 (lv_at hl 2 rfl) ?_
          refine xv_iconst T dL_print_264 ?_
          refine xv_icmp_ge T (by omega) (tgt := 289) dL_print_265 (by decide) (fun c2 => ?_) (fun c2 => ?_)
          · skip
            refine xv_iinc T (y := n6 + 1) (lv' := [(3, .int (iI (n6 + 1))), (0, .ref o), (1, .long (lI a6a)), (4, .int (iI k6))]) dL_print_289 hl (q := 3) rfl (by omega) (by decide) rfl (fun ls hl => ?_)
            refine lv_goto T.1 T.2.1 (tgt := 250) dL_print_292 (by decide) ?_
            exact ih250 a6a (n6 + 1) _ _ ls (by omega) (by rw [show n6 + 1 - 1 = (n6 - 1) + 1 by omega, fo_s (by omega), ← ha6]; unfold dgS; rw [ha6a, show k6 = 3 by omega, show n6 - 1 + 1 = n6 by omega]; rfl) (by omega) hP hS (lv_sub hl [1, 2, 0] rfl)
          · skip
            refine xv_ldc2 T mw_3_145 (n := 31) (by decide +kernel) dL_print_268 ?_
            refine lv_lload_n T.1 T.2.1 dL_print_271 rfl (lv_at hl 1 rfl) ?_
            refine xv_lmul T dL_print_272 ?_
            refine lv_aload_n T.1 T.2.1 dL_print_273 rfl (lv_at hl 0 rfl) ?_
            refine lv_iload_n T.1 T.2.1 dL_print_274 rfl (lv_at hl 3 rfl) ?_
            refine lv_iload T.1 T.2.1 dL_print_275 (lv_at hl 2 rfl) ?_
            refine ly_seal T hK hP hS (fun _ h => h) (by omega) (by omega) (w := qSeal N n6 k6) rfl mw_2_135 ⟨Nat.le_of_ble_eq_true rfl, Nat.le_of_ble_eq_true rfl⟩ hl.1 (Nat.le_of_ble_eq_true rfl) ⟨Nat.zero_le _, Nat.zero_le _⟩ dL_print_277 (fun H locs hP hS => ?_)
            refine xr_i2l T dL_print_280 ?_
            refine xv_ladd T dL_print_281 ?_
            refine lv_lstore_n (lv' := [(1, .long (lI (31 * a6a + ((iI (qSeal N n6 k6)).toInt)))), (0, .ref o), (4, .int (iI k6)), (3, .int (iI n6))]) T.1 T.2.1 dL_print_282 rfl hl (by decide) rfl (fun ls hl => ?_)
            refine xv_iinc T (y := k6 + 1) (lv' := [(4, .int (iI (k6 + 1))), (1, .long (lI (31 * a6a + ((iI (qSeal N n6 k6)).toInt)))), (0, .ref o), (3, .int (iI n6))]) dL_print_283 hl (q := 2) rfl (by omega) (by decide) rfl (fun ls hl => ?_)
            refine lv_goto T.1 T.2.1 (tgt := 262) dL_print_286 (by decide) ?_
            exact ih262 (31 * a6a + ((iI (qSeal N n6 k6)).toInt)) (k6 + 1) _ _ ls (by omega) (by rw [fo_s (by omega), ← ha6a]; rfl) (by omega) hP hS (lv_sub hl [2, 1, 0, 3] rfl)
      exact lp262 300 a6 0 _ _ ls (by omega) fo_0.symm (by omega) hP hS (lv_sub hl [1, 2, 0, 3] rfl)
set_option maxHeartbeats 4000000 in
set_option maxRecDepth 100000 in
theorem sg_L_print_202 {p : Program} {l : Launch} {e : Env} {s : State} {m : MethodId} {args : Array Value} {below : List Frame} {meth : Method} {c : Code} {K : KT} {o : Nat} {N : Int → Int} {st : List (Int → Int)} (T : CF p m c cL_print 5 s args RL) (hr : meth.sig.returnType = some .long) (hk : meth.locks = false) (hK : xK K s) (hX : InX N) : ∀ (fuel : Nat) (a5 : Int) (b5 : Int) (H : Heap) (locs : List Loc) (ls : Array Slot), (0 ≤ b5 ∧ b5 ≤ N 6) → (a5 = fo (fun b a => dgB N b a) b5.toNat (dg4 N)) → N 6 - b5 < (fuel : Int) → LwY K o N st H → va_S (Blk o 153) s.heap H locs → lv_has ls 5 [(0, .ref o), (1, .long (lI a5)), (3, .int (iI b5))] → W p l e (rmF 3 69) s m args below meth c H locs 0 0 (MQ below (qL K (fun z (u : YT) => (poD N st) z u.1 u.2.1 ∧ yOk u) (yW K o) (Blk o 153)) args s 0 0 (Blk o 153)) (F0 m 202 ls []) := by
  have hR := inY_R (inY hX.1)
  obtain ⟨b0, b1, b2, b3, b4, b5, b6, b7, b8, b9⟩ := inY_b (inY hX.1)
  intro fuel
  induction fuel with
  | zero =>
    intro a5 b5 H locs ls hb5 ha5 hm hP hS hl
    exact absurd hm (by omega)
  | succ fuel ih202 =>
    intro a5 b5 H locs ls hb5 ha5 hm hP hS hl
    refine lv_iload_n T.1 T.2.1 dL_print_202 rfl (lv_at hl 2 rfl) ?_
    refine lv_aload_n T.1 T.2.1 dL_print_203 rfl (lv_at hl 0 rfl) ?_
    refine xv_iconst T dL_print_204 ?_
    refine ly_count T hK hP hS (fun _ h => h) (by omega) (w := N 6) rfl mw_3_50 ⟨Nat.le_of_ble_eq_true rfl, Nat.le_of_ble_eq_true rfl⟩ hl.1 (Nat.le_of_ble_eq_true rfl) ⟨Nat.zero_le _, Nat.zero_le _⟩ dL_print_205 (fun H locs hP hS => ?_)
    refine xv_icmp_ge T (by omega) (tgt := 248) dL_print_208 (by decide) (fun c1 => ?_) (fun c1 => ?_)
    · skip
      refine xv_iconst T dL_print_248 ?_
      refine lv_istore_n (lv' := [(3, .int (iI 1)), (0, .ref o), (1, .long (lI a5))]) T.1 T.2.1 dL_print_249 rfl hl (by decide) rfl (fun ls hl => ?_)
      exact sg_L_print_250 (st := st) T hr hk hK hX 300 a5 1 _ _ ls (by omega) (by unfold dg5; rw [show (1 : Int) - 1 = 0 from rfl, fo_0, ha5, show b5 = N 6 by omega]) (by omega) hP hS (lv_sub hl [1, 2, 0] rfl)
    · skip
      refine xv_iconst T dL_print_211 ?_
      refine lv_istore (lv' := [(4, .int (iI 0)), (0, .ref o), (1, .long (lI a5)), (3, .int (iI b5))]) T.1 T.2.1 dL_print_212 hl (by decide) rfl (fun ls hl => ?_)
      have lp214 : ∀ (fuel : Nat) (a5a : Int) (k5 : Int) (H : Heap) (locs : List Loc) (ls : Array Slot), (0 ≤ k5 ∧ k5 ≤ 6) → (a5a = fo (fun k a => 31 * a + tI (qBond N b5 k)) k5.toNat a5) → 6 - k5 < (fuel : Int) → LwY K o N st H → va_S (Blk o 153) s.heap H locs → lv_has ls 5 [(0, .ref o), (1, .long (lI a5a)), (4, .int (iI k5)), (3, .int (iI b5))] → W p l e (rmF 3 69) s m args below meth c H locs 0 0 (MQ below (qL K (fun z (u : YT) => (poD N st) z u.1 u.2.1 ∧ yOk u) (yW K o) (Blk o 153)) args s 0 0 (Blk o 153)) (F0 m 214 ls []) := by
        intro fuel
        induction fuel with
        | zero =>
          intro a5a k5 H locs ls hk5 ha5a hm hP hS hl
          exact absurd hm (by omega)
        | succ fuel ih214 =>
          intro a5a k5 H locs ls hk5 ha5a hm hP hS hl
          refine lv_iload T.1 T.2.1 dL_print_214 (lv_at hl 2 rfl) ?_
          refine xv_bipush T dL_print_216 (by omega) ?_
          refine xv_icmp_ge T (by omega) (tgt := 242) dL_print_218 (by decide) (fun c2 => ?_) (fun c2 => ?_)
          · skip
            refine xv_iinc T (y := b5 + 1) (lv' := [(3, .int (iI (b5 + 1))), (0, .ref o), (1, .long (lI a5a)), (4, .int (iI k5))]) dL_print_242 hl (q := 3) rfl (by omega) (by decide) rfl (fun ls hl => ?_)
            refine lv_goto T.1 T.2.1 (tgt := 202) dL_print_245 (by decide) ?_
            exact ih202 a5a (b5 + 1) _ _ ls (by omega) (by rw [fo_s (by omega), ← ha5]; unfold dgB; rw [ha5a, show k5 = 6 by omega]; rfl) (by omega) hP hS (lv_sub hl [1, 2, 0] rfl)
          · skip
            refine xv_ldc2 T mw_3_145 (n := 31) (by decide +kernel) dL_print_221 ?_
            refine lv_lload_n T.1 T.2.1 dL_print_224 rfl (lv_at hl 1 rfl) ?_
            refine xv_lmul T dL_print_225 ?_
            refine lv_aload_n T.1 T.2.1 dL_print_226 rfl (lv_at hl 0 rfl) ?_
            refine lv_iload_n T.1 T.2.1 dL_print_227 rfl (lv_at hl 3 rfl) ?_
            refine lv_iload T.1 T.2.1 dL_print_228 (lv_at hl 2 rfl) ?_
            refine ly_bond T hK hP hS (fun _ h => h) (by omega) (by omega) (w := qBond N b5 k5) rfl mw_2_139 ⟨Nat.le_of_ble_eq_true rfl, Nat.le_of_ble_eq_true rfl⟩ hl.1 (Nat.le_of_ble_eq_true rfl) ⟨Nat.zero_le _, Nat.zero_le _⟩ dL_print_230 (fun H locs hP hS => ?_)
            refine xr_i2l T dL_print_233 ?_
            refine xv_ladd T dL_print_234 ?_
            refine lv_lstore_n (lv' := [(1, .long (lI (31 * a5a + ((iI (qBond N b5 k5)).toInt)))), (0, .ref o), (4, .int (iI k5)), (3, .int (iI b5))]) T.1 T.2.1 dL_print_235 rfl hl (by decide) rfl (fun ls hl => ?_)
            refine xv_iinc T (y := k5 + 1) (lv' := [(4, .int (iI (k5 + 1))), (1, .long (lI (31 * a5a + ((iI (qBond N b5 k5)).toInt)))), (0, .ref o), (3, .int (iI b5))]) dL_print_236 hl (q := 2) rfl (by omega) (by decide) rfl (fun ls hl => ?_)
            refine lv_goto T.1 T.2.1 (tgt := 214) dL_print_239 (by decide) ?_
            exact ih214 (31 * a5a + ((iI (qBond N b5 k5)).toInt)) (k5 + 1) _ _ ls (by omega) (by rw [fo_s (by omega), ← ha5a]; rfl) (by omega) hP hS (lv_sub hl [2, 1, 0, 3] rfl)
      exact lp214 300 a5 0 _ _ ls (by omega) fo_0.symm (by omega) hP hS (lv_sub hl [1, 2, 0, 3] rfl)
set_option maxHeartbeats 4000000 in
set_option maxRecDepth 100000 in
theorem sg_L_print_141 {p : Program} {l : Launch} {e : Env} {s : State} {m : MethodId} {args : Array Value} {below : List Frame} {meth : Method} {c : Code} {K : KT} {o : Nat} {N : Int → Int} {st : List (Int → Int)} (T : CF p m c cL_print 5 s args RL) (hr : meth.sig.returnType = some .long) (hk : meth.locks = false) (hK : xK K s) (hX : InX N) : ∀ (fuel : Nat) (a4 : Int) (g2 : Int) (H : Heap) (locs : List Loc) (ls : Array Slot), (0 ≤ g2 ∧ g2 ≤ N 5) → (a4 = fo (fun g a => dgG N g a) g2.toNat (dg3 N)) → N 5 - g2 < (fuel : Int) → LwY K o N st H → va_S (Blk o 153) s.heap H locs → lv_has ls 5 [(0, .ref o), (1, .long (lI a4)), (3, .int (iI g2))] → W p l e (rmF 3 69) s m args below meth c H locs 0 0 (MQ below (qL K (fun z (u : YT) => (poD N st) z u.1 u.2.1 ∧ yOk u) (yW K o) (Blk o 153)) args s 0 0 (Blk o 153)) (F0 m 141 ls []) := by
  have hR := inY_R (inY hX.1)
  obtain ⟨b0, b1, b2, b3, b4, b5, b6, b7, b8, b9⟩ := inY_b (inY hX.1)
  intro fuel
  induction fuel with
  | zero =>
    intro a4 g2 H locs ls hg2 ha4 hm hP hS hl
    exact absurd hm (by omega)
  | succ fuel ih141 =>
    intro a4 g2 H locs ls hg2 ha4 hm hP hS hl
    refine lv_iload_n T.1 T.2.1 dL_print_141 rfl (lv_at hl 2 rfl) ?_
    refine lv_aload_n T.1 T.2.1 dL_print_142 rfl (lv_at hl 0 rfl) ?_
    refine xv_iconst T dL_print_143 ?_
    refine ly_count T hK hP hS (fun _ h => h) (by omega) (w := N 5) rfl mw_3_50 ⟨Nat.le_of_ble_eq_true rfl, Nat.le_of_ble_eq_true rfl⟩ hl.1 (Nat.le_of_ble_eq_true rfl) ⟨Nat.zero_le _, Nat.zero_le _⟩ dL_print_144 (fun H locs hP hS => ?_)
    refine xv_icmp_ge T (by omega) (tgt := 200) dL_print_147 (by decide) (fun c1 => ?_) (fun c1 => ?_)
    · skip
      refine xv_iconst T dL_print_200 ?_
      refine lv_istore_n (lv' := [(3, .int (iI 0)), (0, .ref o), (1, .long (lI a4))]) T.1 T.2.1 dL_print_201 rfl hl (by decide) rfl (fun ls hl => ?_)
      exact sg_L_print_202 (st := st) T hr hk hK hX 300 a4 0 _ _ ls (by omega) (by unfold dg4; rw [fo_0, ha4, show g2 = N 5 by omega]) (by omega) hP hS (lv_sub hl [1, 2, 0] rfl)
    · skip
      refine xv_iconst T dL_print_150 ?_
      refine lv_istore (lv' := [(4, .int (iI 0)), (0, .ref o), (1, .long (lI a4)), (3, .int (iI g2))]) T.1 T.2.1 dL_print_151 hl (by decide) rfl (fun ls hl => ?_)
      have lp153 : ∀ (fuel : Nat) (a4a : Int) (k4 : Int) (H : Heap) (locs : List Loc) (ls : Array Slot), (0 ≤ k4 ∧ k4 ≤ 7) → (a4a = fo (fun k a => 31 * a + tI (qAccount N g2 k)) k4.toNat a4) → 7 - k4 < (fuel : Int) → LwY K o N st H → va_S (Blk o 153) s.heap H locs → lv_has ls 5 [(0, .ref o), (1, .long (lI a4a)), (4, .int (iI k4)), (3, .int (iI g2))] → W p l e (rmF 3 69) s m args below meth c H locs 0 0 (MQ below (qL K (fun z (u : YT) => (poD N st) z u.1 u.2.1 ∧ yOk u) (yW K o) (Blk o 153)) args s 0 0 (Blk o 153)) (F0 m 153 ls []) := by
        intro fuel
        induction fuel with
        | zero =>
          intro a4a k4 H locs ls hk4 ha4a hm hP hS hl
          exact absurd hm (by omega)
        | succ fuel ih153 =>
          intro a4a k4 H locs ls hk4 ha4a hm hP hS hl
          refine lv_iload T.1 T.2.1 dL_print_153 (lv_at hl 2 rfl) ?_
          refine xv_bipush T dL_print_155 (by omega) ?_
          refine xv_icmp_ge T (by omega) (tgt := 181) dL_print_157 (by decide) (fun c2 => ?_) (fun c2 => ?_)
          · skip
            refine xv_ldc2 T mw_3_145 (n := 31) (by decide +kernel) dL_print_181 ?_
            refine lv_lload_n T.1 T.2.1 dL_print_184 rfl (lv_at hl 1 rfl) ?_
            refine xv_lmul T dL_print_185 ?_
            refine lv_aload_n T.1 T.2.1 dL_print_186 rfl (lv_at hl 0 rfl) ?_
            refine lv_iload_n T.1 T.2.1 dL_print_187 rfl (lv_at hl 3 rfl) ?_
            refine ly_nextBond T hK hP hS (fun _ h => h) (by omega) (w := qNextBond N g2) rfl mw_3_151 ⟨Nat.le_of_ble_eq_true rfl, Nat.le_of_ble_eq_true rfl⟩ hl.1 (Nat.le_of_ble_eq_true rfl) ⟨Nat.zero_le _, Nat.zero_le _⟩ dL_print_188 (fun H locs hP hS => ?_)
            refine xr_i2l T dL_print_191 ?_
            refine xv_ladd T dL_print_192 ?_
            refine lv_lstore_n (lv' := [(1, .long (lI (31 * a4a + ((iI (qNextBond N g2)).toInt)))), (0, .ref o), (4, .int (iI k4)), (3, .int (iI g2))]) T.1 T.2.1 dL_print_193 rfl hl (by decide) rfl (fun ls hl => ?_)
            refine xv_iinc T (y := g2 + 1) (lv' := [(3, .int (iI (g2 + 1))), (1, .long (lI (31 * a4a + ((iI (qNextBond N g2)).toInt)))), (0, .ref o), (4, .int (iI k4))]) dL_print_194 hl (q := 3) rfl (by omega) (by decide) rfl (fun ls hl => ?_)
            refine lv_goto T.1 T.2.1 (tgt := 141) dL_print_197 (by decide) ?_
            exact ih141 (31 * a4a + ((iI (qNextBond N g2)).toInt)) (g2 + 1) _ _ ls (by omega) (by rw [fo_s (by omega), ← ha4]; unfold dgG; rw [ha4a, show k4 = 7 by omega]; rfl) (by omega) hP hS (lv_sub hl [2, 1, 0] rfl)
          · skip
            refine xv_ldc2 T mw_3_145 (n := 31) (by decide +kernel) dL_print_160 ?_
            refine lv_lload_n T.1 T.2.1 dL_print_163 rfl (lv_at hl 1 rfl) ?_
            refine xv_lmul T dL_print_164 ?_
            refine lv_aload_n T.1 T.2.1 dL_print_165 rfl (lv_at hl 0 rfl) ?_
            refine lv_iload_n T.1 T.2.1 dL_print_166 rfl (lv_at hl 3 rfl) ?_
            refine lv_iload T.1 T.2.1 dL_print_167 (lv_at hl 2 rfl) ?_
            refine ly_account T hK hP hS (fun _ h => h) (by omega) (by omega) (w := qAccount N g2 k4) rfl mw_3_24 ⟨Nat.le_of_ble_eq_true rfl, Nat.le_of_ble_eq_true rfl⟩ hl.1 (Nat.le_of_ble_eq_true rfl) ⟨Nat.zero_le _, Nat.zero_le _⟩ dL_print_169 (fun H locs hP hS => ?_)
            refine xr_i2l T dL_print_172 ?_
            refine xv_ladd T dL_print_173 ?_
            refine lv_lstore_n (lv' := [(1, .long (lI (31 * a4a + ((iI (qAccount N g2 k4)).toInt)))), (0, .ref o), (4, .int (iI k4)), (3, .int (iI g2))]) T.1 T.2.1 dL_print_174 rfl hl (by decide) rfl (fun ls hl => ?_)
            refine xv_iinc T (y := k4 + 1) (lv' := [(4, .int (iI (k4 + 1))), (1, .long (lI (31 * a4a + ((iI (qAccount N g2 k4)).toInt)))), (0, .ref o), (3, .int (iI g2))]) dL_print_175 hl (q := 2) rfl (by omega) (by decide) rfl (fun ls hl => ?_)
            refine lv_goto T.1 T.2.1 (tgt := 153) dL_print_178 (by decide) ?_
            exact ih153 (31 * a4a + ((iI (qAccount N g2 k4)).toInt)) (k4 + 1) _ _ ls (by omega) (by rw [fo_s (by omega), ← ha4a]; rfl) (by omega) hP hS (lv_sub hl [2, 1, 0, 3] rfl)
      exact lp153 300 a4 0 _ _ ls (by omega) fo_0.symm (by omega) hP hS (lv_sub hl [1, 2, 0, 3] rfl)
set_option maxHeartbeats 4000000 in
set_option maxRecDepth 100000 in
theorem sg_L_print_59 {p : Program} {l : Launch} {e : Env} {s : State} {m : MethodId} {args : Array Value} {below : List Frame} {meth : Method} {c : Code} {K : KT} {o : Nat} {N : Int → Int} {st : List (Int → Int)} (T : CF p m c cL_print 5 s args RL) (hr : meth.sig.returnType = some .long) (hk : meth.locks = false) (hK : xK K s) (hX : InX N) : ∀ (fuel : Nat) (a3 : Int) (l1 : Int) (H : Heap) (locs : List Loc) (ls : Array Slot), (0 ≤ l1 ∧ l1 ≤ N 4) → (a3 = fo (fun l a => dgL N l a) l1.toNat (dg2 N)) → N 4 - l1 < (fuel : Int) → LwY K o N st H → va_S (Blk o 153) s.heap H locs → lv_has ls 5 [(0, .ref o), (1, .long (lI a3)), (3, .int (iI l1))] → W p l e (rmF 3 69) s m args below meth c H locs 0 0 (MQ below (qL K (fun z (u : YT) => (poD N st) z u.1 u.2.1 ∧ yOk u) (yW K o) (Blk o 153)) args s 0 0 (Blk o 153)) (F0 m 59 ls []) := by
  have hR := inY_R (inY hX.1)
  obtain ⟨b0, b1, b2, b3, b4, b5, b6, b7, b8, b9⟩ := inY_b (inY hX.1)
  intro fuel
  induction fuel with
  | zero =>
    intro a3 l1 H locs ls hl1 ha3 hm hP hS hl
    exact absurd hm (by omega)
  | succ fuel ih59 =>
    intro a3 l1 H locs ls hl1 ha3 hm hP hS hl
    refine lv_iload_n T.1 T.2.1 dL_print_59 rfl (lv_at hl 2 rfl) ?_
    refine lv_aload_n T.1 T.2.1 dL_print_60 rfl (lv_at hl 0 rfl) ?_
    refine xv_iconst T dL_print_61 ?_
    refine ly_count T hK hP hS (fun _ h => h) (by omega) (w := N 4) rfl mw_3_50 ⟨Nat.le_of_ble_eq_true rfl, Nat.le_of_ble_eq_true rfl⟩ hl.1 (Nat.le_of_ble_eq_true rfl) ⟨Nat.zero_le _, Nat.zero_le _⟩ dL_print_62 (fun H locs hP hS => ?_)
    refine xv_icmp_ge T (by omega) (tgt := 139) dL_print_65 (by decide) (fun c1 => ?_) (fun c1 => ?_)
    · skip
      refine xv_iconst T dL_print_139 ?_
      refine lv_istore_n (lv' := [(3, .int (iI 0)), (0, .ref o), (1, .long (lI a3))]) T.1 T.2.1 dL_print_140 rfl hl (by decide) rfl (fun ls hl => ?_)
      exact sg_L_print_141 (st := st) T hr hk hK hX 300 a3 0 _ _ ls (by omega) (by unfold dg3; rw [fo_0, ha3, show l1 = N 4 by omega]) (by omega) hP hS (lv_sub hl [1, 2, 0] rfl)
    · skip
      refine xv_iconst T dL_print_68 ?_
      refine lv_istore (lv' := [(4, .int (iI 0)), (0, .ref o), (1, .long (lI a3)), (3, .int (iI l1))]) T.1 T.2.1 dL_print_69 hl (by decide) rfl (fun ls hl => ?_)
      have lp71 : ∀ (fuel : Nat) (a3a : Int) (k2 : Int) (H : Heap) (locs : List Loc) (ls : Array Slot), (0 ≤ k2 ∧ k2 ≤ 12) → (a3a = fo (fun k a => 31 * a + tI (qLockerOf N l1 k)) k2.toNat a3) → 12 - k2 < (fuel : Int) → LwY K o N st H → va_S (Blk o 153) s.heap H locs → lv_has ls 5 [(0, .ref o), (1, .long (lI a3a)), (4, .int (iI k2)), (3, .int (iI l1))] → W p l e (rmF 3 69) s m args below meth c H locs 0 0 (MQ below (qL K (fun z (u : YT) => (poD N st) z u.1 u.2.1 ∧ yOk u) (yW K o) (Blk o 153)) args s 0 0 (Blk o 153)) (F0 m 71 ls []) := by
        intro fuel
        induction fuel with
        | zero =>
          intro a3a k2 H locs ls hk2 ha3a hm hP hS hl
          exact absurd hm (by omega)
        | succ fuel ih71 =>
          intro a3a k2 H locs ls hk2 ha3a hm hP hS hl
          refine lv_iload T.1 T.2.1 dL_print_71 (lv_at hl 2 rfl) ?_
          refine xv_bipush T dL_print_73 (by omega) ?_
          refine xv_icmp_ge T (by omega) (tgt := 99) dL_print_75 (by decide) (fun c2 => ?_) (fun c2 => ?_)
          · skip
            refine xv_iconst T dL_print_99 ?_
            refine lv_istore (lv' := [(4, .int (iI 0)), (0, .ref o), (1, .long (lI a3a)), (3, .int (iI l1))]) T.1 T.2.1 dL_print_100 hl (by decide) rfl (fun ls hl => ?_)
            have lp102 : ∀ (fuel : Nat) (a3b : Int) (g1 : Int) (H : Heap) (locs : List Loc) (ls : Array Slot), (0 ≤ g1 ∧ g1 ≤ N 5) → (a3b = fo (fun g a => 31 * a + tI (qMissing N l1 g)) g1.toNat (fo (fun k a => 31 * a + tI (qLockerOf N l1 k)) 12 a3)) → N 5 - g1 < (fuel : Int) → LwY K o N st H → va_S (Blk o 153) s.heap H locs → lv_has ls 5 [(0, .ref o), (1, .long (lI a3b)), (4, .int (iI g1)), (3, .int (iI l1))] → W p l e (rmF 3 69) s m args below meth c H locs 0 0 (MQ below (qL K (fun z (u : YT) => (poD N st) z u.1 u.2.1 ∧ yOk u) (yW K o) (Blk o 153)) args s 0 0 (Blk o 153)) (F0 m 102 ls []) := by
              intro fuel
              induction fuel with
              | zero =>
                intro a3b g1 H locs ls hg1 ha3b hm hP hS hl
                exact absurd hm (by omega)
              | succ fuel ih102 =>
                intro a3b g1 H locs ls hg1 ha3b hm hP hS hl
                refine lv_iload T.1 T.2.1 dL_print_102 (lv_at hl 2 rfl) ?_
                refine lv_aload_n T.1 T.2.1 dL_print_104 rfl (lv_at hl 0 rfl) ?_
                refine xv_iconst T dL_print_105 ?_
                refine ly_count T hK hP hS (fun _ h => h) (by omega) (w := N 5) rfl mw_3_50 ⟨Nat.le_of_ble_eq_true rfl, Nat.le_of_ble_eq_true rfl⟩ hl.1 (Nat.le_of_ble_eq_true rfl) ⟨Nat.zero_le _, Nat.zero_le _⟩ dL_print_106 (fun H locs hP hS => ?_)
                refine xv_icmp_ge T (by omega) (tgt := 133) dL_print_109 (by decide) (fun c3 => ?_) (fun c3 => ?_)
                · skip
                  refine xv_iinc T (y := l1 + 1) (lv' := [(3, .int (iI (l1 + 1))), (0, .ref o), (1, .long (lI a3b)), (4, .int (iI g1))]) dL_print_133 hl (q := 3) rfl (by omega) (by decide) rfl (fun ls hl => ?_)
                  refine lv_goto T.1 T.2.1 (tgt := 59) dL_print_136 (by decide) ?_
                  exact ih59 a3b (l1 + 1) _ _ ls (by omega) (by rw [fo_s (by omega), ← ha3]; unfold dgL; rw [ha3b, show g1 = N 5 by omega]) (by omega) hP hS (lv_sub hl [1, 2, 0] rfl)
                · skip
                  refine xv_ldc2 T mw_3_145 (n := 31) (by decide +kernel) dL_print_112 ?_
                  refine lv_lload_n T.1 T.2.1 dL_print_115 rfl (lv_at hl 1 rfl) ?_
                  refine xv_lmul T dL_print_116 ?_
                  refine lv_aload_n T.1 T.2.1 dL_print_117 rfl (lv_at hl 0 rfl) ?_
                  refine lv_iload_n T.1 T.2.1 dL_print_118 rfl (lv_at hl 3 rfl) ?_
                  refine lv_iload T.1 T.2.1 dL_print_119 (lv_at hl 2 rfl) ?_
                  refine ly_missing T hK hP hS (fun _ h => h) (by omega) (by omega) (w := qMissing N l1 g1) rfl mw_3_147 ⟨Nat.le_of_ble_eq_true rfl, Nat.le_of_ble_eq_true rfl⟩ hl.1 (Nat.le_of_ble_eq_true rfl) ⟨Nat.zero_le _, Nat.zero_le _⟩ dL_print_121 (fun H locs hP hS => ?_)
                  refine xr_i2l T dL_print_124 ?_
                  refine xv_ladd T dL_print_125 ?_
                  refine lv_lstore_n (lv' := [(1, .long (lI (31 * a3b + ((iI (qMissing N l1 g1)).toInt)))), (0, .ref o), (4, .int (iI g1)), (3, .int (iI l1))]) T.1 T.2.1 dL_print_126 rfl hl (by decide) rfl (fun ls hl => ?_)
                  refine xv_iinc T (y := g1 + 1) (lv' := [(4, .int (iI (g1 + 1))), (1, .long (lI (31 * a3b + ((iI (qMissing N l1 g1)).toInt)))), (0, .ref o), (3, .int (iI l1))]) dL_print_127 hl (q := 2) rfl (by omega) (by decide) rfl (fun ls hl => ?_)
                  refine lv_goto T.1 T.2.1 (tgt := 102) dL_print_130 (by decide) ?_
                  exact ih102 (31 * a3b + ((iI (qMissing N l1 g1)).toInt)) (g1 + 1) _ _ ls (by omega) (by rw [fo_s (by omega), ← ha3b]; rfl) (by omega) hP hS (lv_sub hl [2, 1, 0, 3] rfl)
            exact lp102 300 a3a 0 _ _ ls (by omega) (by rw [fo_0, ha3a, show k2 = 12 by omega]; rfl) (by omega) hP hS (lv_sub hl [1, 2, 0, 3] rfl)
          · skip
            refine xv_ldc2 T mw_3_145 (n := 31) (by decide +kernel) dL_print_78 ?_
            refine lv_lload_n T.1 T.2.1 dL_print_81 rfl (lv_at hl 1 rfl) ?_
            refine xv_lmul T dL_print_82 ?_
            refine lv_aload_n T.1 T.2.1 dL_print_83 rfl (lv_at hl 0 rfl) ?_
            refine lv_iload_n T.1 T.2.1 dL_print_84 rfl (lv_at hl 3 rfl) ?_
            refine lv_iload T.1 T.2.1 dL_print_85 (lv_at hl 2 rfl) ?_
            refine ly_lockerOf T hK hP hS (fun _ h => h) (by omega) (by omega) (w := qLockerOf N l1 k2) rfl mw_2_123 ⟨Nat.le_of_ble_eq_true rfl, Nat.le_of_ble_eq_true rfl⟩ hl.1 (Nat.le_of_ble_eq_true rfl) ⟨Nat.zero_le _, Nat.zero_le _⟩ dL_print_87 (fun H locs hP hS => ?_)
            refine xr_i2l T dL_print_90 ?_
            refine xv_ladd T dL_print_91 ?_
            refine lv_lstore_n (lv' := [(1, .long (lI (31 * a3a + ((iI (qLockerOf N l1 k2)).toInt)))), (0, .ref o), (4, .int (iI k2)), (3, .int (iI l1))]) T.1 T.2.1 dL_print_92 rfl hl (by decide) rfl (fun ls hl => ?_)
            refine xv_iinc T (y := k2 + 1) (lv' := [(4, .int (iI (k2 + 1))), (1, .long (lI (31 * a3a + ((iI (qLockerOf N l1 k2)).toInt)))), (0, .ref o), (3, .int (iI l1))]) dL_print_93 hl (q := 2) rfl (by omega) (by decide) rfl (fun ls hl => ?_)
            refine lv_goto T.1 T.2.1 (tgt := 71) dL_print_96 (by decide) ?_
            exact ih71 (31 * a3a + ((iI (qLockerOf N l1 k2)).toInt)) (k2 + 1) _ _ ls (by omega) (by rw [fo_s (by omega), ← ha3a]; rfl) (by omega) hP hS (lv_sub hl [2, 1, 0, 3] rfl)
      exact lp71 300 a3 0 _ _ ls (by omega) fo_0.symm (by omega) hP hS (lv_sub hl [1, 2, 0, 3] rfl)
set_option maxHeartbeats 4000000 in
set_option maxRecDepth 100000 in
theorem sg_L_print_6 {p : Program} {l : Launch} {e : Env} {s : State} {m : MethodId} {args : Array Value} {below : List Frame} {meth : Method} {c : Code} {K : KT} {o : Nat} {N : Int → Int} {st : List (Int → Int)} (T : CF p m c cL_print 5 s args RL) (hr : meth.sig.returnType = some .long) (hk : meth.locks = false) (hK : xK K s) (hX : InX N) : ∀ (fuel : Nat) (a1 : Int) (k1 : Int) (H : Heap) (locs : List Loc) (ls : Array Slot), (0 ≤ k1 ∧ k1 ≤ 9) → (a1 = fo (fun k a => 31 * a + tI (qCount N 0 0 k)) k1.toNat 7) → 9 - k1 < (fuel : Int) → LwY K o N st H → va_S (Blk o 153) s.heap H locs → lv_has ls 5 [(0, .ref o), (1, .long (lI a1)), (3, .int (iI k1))] → W p l e (rmF 3 69) s m args below meth c H locs 0 0 (MQ below (qL K (fun z (u : YT) => (poD N st) z u.1 u.2.1 ∧ yOk u) (yW K o) (Blk o 153)) args s 0 0 (Blk o 153)) (F0 m 6 ls []) := by
  have hR := inY_R (inY hX.1)
  obtain ⟨b0, b1, b2, b3, b4, b5, b6, b7, b8, b9⟩ := inY_b (inY hX.1)
  intro fuel
  induction fuel with
  | zero =>
    intro a1 k1 H locs ls hk1 ha1 hm hP hS hl
    exact absurd hm (by omega)
  | succ fuel ih6 =>
    intro a1 k1 H locs ls hk1 ha1 hm hP hS hl
    refine lv_iload_n T.1 T.2.1 dL_print_6 rfl (lv_at hl 2 rfl) ?_
    refine xv_bipush T dL_print_7 (by omega) ?_
    refine xv_icmp_ge T (by omega) (tgt := 31) dL_print_9 (by decide) (fun c1 => ?_) (fun c1 => ?_)
    · skip
      refine xv_ldc2 T mw_3_145 (n := 31) (by decide +kernel) dL_print_31 ?_
      refine lv_lload_n T.1 T.2.1 dL_print_34 rfl (lv_at hl 1 rfl) ?_
      refine xv_lmul T dL_print_35 ?_
      refine lv_aload_n T.1 T.2.1 dL_print_36 rfl (lv_at hl 0 rfl) ?_
      refine xv_bipush T dL_print_37 (by omega) ?_
      refine ly_count T hK hP hS (fun _ h => h) (by omega) (w := qCount N (st.length : Int) 0 20) rfl mw_3_50 ⟨Nat.le_of_ble_eq_true rfl, Nat.le_of_ble_eq_true rfl⟩ hl.1 (Nat.le_of_ble_eq_true rfl) ⟨Nat.zero_le _, Nat.zero_le _⟩ dL_print_39 (fun H locs hP hS => ?_)
      refine xr_i2l T dL_print_42 ?_
      refine xv_ladd T dL_print_43 ?_
      refine xv_ldc2 T mw_3_146 (n := 1000003) (by decide +kernel) dL_print_44 ?_
      refine lv_aload_n T.1 T.2.1 dL_print_47 rfl (lv_at hl 0 rfl) ?_
      refine xv_bipush T dL_print_48 (by omega) ?_
      refine ly_count T hK hP hS (fun _ h => h) (by omega) (w := qCount N (st.length : Int) 0 21) rfl mw_3_50 ⟨Nat.le_of_ble_eq_true rfl, Nat.le_of_ble_eq_true rfl⟩ hl.1 (Nat.le_of_ble_eq_true rfl) ⟨Nat.zero_le _, Nat.zero_le _⟩ dL_print_50 (fun H locs hP hS => ?_)
      refine xr_i2l T dL_print_53 ?_
      refine xv_lmul T dL_print_54 ?_
      refine xv_ladd T dL_print_55 ?_
      refine lv_lstore_n (lv' := [(1, .long (lI (31 * a1 + ((iI (qCount N (st.length : Int) 0 20)).toInt) + (1000003 * ((iI (qCount N (st.length : Int) 0 21)).toInt))))), (0, .ref o), (3, .int (iI k1))]) T.1 T.2.1 dL_print_56 rfl hl (by decide) rfl (fun ls hl => ?_)
      refine xv_iconst T dL_print_57 ?_
      refine lv_istore_n (lv' := [(3, .int (iI 0)), (1, .long (lI (31 * a1 + ((iI (qCount N (st.length : Int) 0 20)).toInt) + (1000003 * ((iI (qCount N (st.length : Int) 0 21)).toInt))))), (0, .ref o)]) T.1 T.2.1 dL_print_58 rfl hl (by decide) rfl (fun ls hl => ?_)
      have ha2 : 31 * a1 + ((iI (qCount N (st.length : Int) 0 20)).toInt) + (1000003 * ((iI (qCount N (st.length : Int) 0 21)).toInt)) = dg2 N := by
        rw [qCount_i (by omega), qCount_i (by omega)]
        unfold dg2 dg1
        rw [ha1, show k1 = 9 by omega]
        rfl
      exact sg_L_print_59 (st := st) T hr hk hK hX 300 (31 * a1 + ((iI (qCount N (st.length : Int) 0 20)).toInt) + (1000003 * ((iI (qCount N (st.length : Int) 0 21)).toInt))) 0 _ _ ls (by omega) (ha2.trans fo_0.symm) (by omega) hP hS (lv_sub hl [2, 1, 0] rfl)
    · skip
      refine xv_ldc2 T mw_3_145 (n := 31) (by decide +kernel) dL_print_12 ?_
      refine lv_lload_n T.1 T.2.1 dL_print_15 rfl (lv_at hl 1 rfl) ?_
      refine xv_lmul T dL_print_16 ?_
      refine lv_aload_n T.1 T.2.1 dL_print_17 rfl (lv_at hl 0 rfl) ?_
      refine lv_iload_n T.1 T.2.1 dL_print_18 rfl (lv_at hl 2 rfl) ?_
      refine ly_count T hK hP hS (fun _ h => h) (by omega) (w := qCount N (st.length : Int) 0 k1) rfl mw_3_50 ⟨Nat.le_of_ble_eq_true rfl, Nat.le_of_ble_eq_true rfl⟩ hl.1 (Nat.le_of_ble_eq_true rfl) ⟨Nat.zero_le _, Nat.zero_le _⟩ dL_print_19 (fun H locs hP hS => ?_)
      refine xr_i2l T dL_print_22 ?_
      refine xv_ladd T dL_print_23 ?_
      refine lv_lstore_n (lv' := [(1, .long (lI (31 * a1 + ((iI (qCount N (st.length : Int) 0 k1)).toInt)))), (0, .ref o), (3, .int (iI k1))]) T.1 T.2.1 dL_print_24 rfl hl (by decide) rfl (fun ls hl => ?_)
      refine xv_iinc T (y := k1 + 1) (lv' := [(3, .int (iI (k1 + 1))), (1, .long (lI (31 * a1 + ((iI (qCount N (st.length : Int) 0 k1)).toInt)))), (0, .ref o)]) dL_print_25 hl (q := 2) rfl (by omega) (by decide) rfl (fun ls hl => ?_)
      refine lv_goto T.1 T.2.1 (tgt := 6) dL_print_28 (by decide) ?_
      exact ih6 (31 * a1 + ((iI (qCount N (st.length : Int) 0 k1)).toInt)) (k1 + 1) _ _ ls (by omega) (by rw [fo_s (by omega), ← ha1, qCount_i (by omega)]; rfl) (by omega) hP hS (lv_sub hl [2, 1, 0] rfl)
set_option maxHeartbeats 4000000 in
set_option maxRecDepth 100000 in
theorem c_L_print (l : Launch) (K : KT) (o : Nat) (N : Int → Int) (st : List (Int → Int)) : CyL l yL_print cL_print 5 3 69 K o N st (poD N st) := by
  refine CyL_of (by decide) (Nat.le_of_ble_eq_true rfl) ?_
  intro p e s m args below meth c T hr hk hP hK ls hl
  have T : CF p m c cL_print 5 s args RL := T
  have hS : va_S (Blk o 153) s.heap s.heap [] := va_S.rf
  have hX := lwY_X hP
  have hR := inY_R (inY hX.1)
  obtain ⟨b0, b1, b2, b3, b4, b5, b6, b7, b8, b9⟩ := inY_b (inY hX.1)
  refine xv_ldc2 T mw_3_144 (n := 7) (by decide +kernel) dL_print_0 ?_
  refine lv_lstore_n (lv' := [(1, .long (lI 7)), (0, .ref o)]) T.1 T.2.1 dL_print_3 rfl hl (by decide) rfl (fun ls hl => ?_)
  refine xv_iconst T dL_print_4 ?_
  refine lv_istore_n (lv' := [(3, .int (iI 0)), (1, .long (lI 7)), (0, .ref o)]) T.1 T.2.1 dL_print_5 rfl hl (by decide) rfl (fun ls hl => ?_)
  exact sg_L_print_6 (st := st) T hr hk hK hX 300 7 0 _ _ ls (by omega) fo_0.symm (by omega) hP hS (lv_sub hl [2, 1, 0] rfl)
