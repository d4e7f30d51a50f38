theorem k_int {args : Array Value} {s : State} (h : (Cond.arrayClass .int).before args s = true) : ∃ cA : ClassId, ArrOfT s cA .int ∧ va_RA s cA .int := by
  obtain ⟨c, k, comp, h1, h2, h3⟩ := Cond.arrayClass_spec h
  exact ⟨c, fun n z => ⟨fun k h => (by cases h), k, h2, comp, h3⟩, h1⟩
theorem k_long {args : Array Value} {s : State} (h : (Cond.arrayClass .long).before args s = true) : ∃ cA : ClassId, ArrOfT s cA .long ∧ va_RA s cA .long := by
  obtain ⟨c, k, comp, h1, h2, h3⟩ := Cond.arrayClass_spec h
  exact ⟨c, fun n z => ⟨fun k h => (by cases h), k, h2, comp, h3⟩, h1⟩
theorem k_char {args : Array Value} {s : State} (h : (Cond.arrayClass .char).before args s = true) : ∃ cA : ClassId, ArrOfT s cA .char ∧ va_RA s cA .char := by
  obtain ⟨c, k, comp, h1, h2, h3⟩ := Cond.arrayClass_spec h
  exact ⟨c, fun n z => ⟨fun k h => (by cases h), k, h2, comp, h3⟩, h1⟩
theorem k_obj {args : Array Value} {s : State} {C : String} (h : (Cond.arrayOver (.object C)).before args s = true) : ∃ cA : ClassId, ArrOfT s cA (.object C) ∧ va_RA s cA (.object C) := by
  obtain ⟨comp, c, k, h1, h2, h3, h4, h5⟩ := Cond.arrayOver_spec h
  exact ⟨c, fun n z => ⟨fun k h => (by cases h), k, h3, comp, h4⟩, k, comp, h3, h4, h1, h5⟩
set_option maxHeartbeats 1000000 in
theorem k_all {args : Array Value} {s : State} (hts : ∀ w ∈ lw_tbl, w.before args s = true) : ∃ K : KT, xK K s := by
  have hx : ∀ w ∈ xtb, w.before args s = true := fun w h => hts w (xtb_lw w h)
  obtain ⟨c0, i0, h0⟩ := u_known (C := RX0) (T := TX0) (N := 7) (n := 7) hx inX0 (hx _ mw_1_82)
  obtain ⟨c1, i1, h1⟩ := u_known (C := RX1) (T := TX1) (N := 3) (n := 3) hx inX1 (hx _ mw_1_179)
  obtain ⟨c2, i2, h2⟩ := u_known (C := RX2) (T := TX2) (N := 5) (n := 5) hx inX2 (hx _ mw_1_26)
  obtain ⟨c3, i3, h3⟩ := u_known (C := RX3) (T := TX3) (N := 9) (n := 9) hx inX3 (hx _ mw_1_199)
  obtain ⟨c4, i4, h4⟩ := u_known (C := RX4) (T := TX4) (N := 3) (n := 3) hx inX4 (hx _ mw_1_122)
  obtain ⟨c5, i5, h5⟩ := u_known (C := RX5) (T := TX5) (N := 4) (n := 4) hx inX5 (hx _ mw_1_59)
  obtain ⟨c6, i6, h6⟩ := u_known (C := RX6) (T := TX6) (N := 9) (n := 9) hx inX6 (hx _ mw_1_20)
  obtain ⟨c7, i7, h7⟩ := u_known (C := RX7) (T := TX7) (N := 4) (n := 4) hx inX7 (hx _ mw_1_12)
  obtain ⟨a0, p0⟩ := k_int (hx _ mw_1_57)
  obtain ⟨a1, p1⟩ := k_long (hx _ mw_1_141)
  obtain ⟨a2, p2⟩ := k_char (hx _ mw_1_236)
  obtain ⟨a3, p3⟩ := k_obj (hts _ mw_1_185)
  refine ⟨((fun k => if k = 0 then c0 else if k = 1 then c1 else if k = 2 then c2 else if k = 3 then c3 else if k = 4 then c4 else if k = 5 then c5 else if k = 6 then c6 else c7, fun k => if k = 0 then i0 else if k = 1 then i1 else if k = 2 then i2 else if k = 3 then i3 else if k = 4 then i4 else if k = 5 then i5 else if k = 6 then i6 else i7), (a0, a1, a2, a3)), fun k q hq => ?_, fun k q hq => ?_⟩
  · match k, hq with
    | 0, hq => cases hq; exact h0
    | 1, hq => cases hq; exact h1
    | 2, hq => cases hq; exact h2
    | 3, hq => cases hq; exact h3
    | 4, hq => cases hq; exact h4
    | 5, hq => cases hq; exact h5
    | 6, hq => cases hq; exact h6
    | 7, hq => cases hq; exact h7
    | k + 8, hq => simp [vwCl] at hq
  · match k, hq with
    | 0, hq => cases hq; exact p0
    | 1, hq => cases hq; exact p1
    | 2, hq => cases hq; exact p2
    | 3, hq => cases hq; exact p3
    | k + 4, hq => simp at hq
theorem inv_n0 : Inv n0F := by
  have z : ∀ k : Int, k = 1 ∨ 4 ≤ k → n0F k = 0 := fun k h => n0F_z h
  have e0 : n0F 0 = 2 := rfl
  have e2 : n0F 2 = 5000 := rfl
  have e3 : n0F 3 = 30 := rfl
  have e6 : n0F 6 = 0 := z 6 (by omega)
  have hh : ∀ g : Int, 0 ≤ g → hasF n0F g = 0 := fun g a => by
    have h1 : hasF n0F g = sumZ (fun _ => (0 : Int)) 5 := sumZ_congr 5 fun k b c => z _ (by omega)
    rw [h1, sumZ_const]
    omega
  have hm : ∀ g : Int, 0 ≤ g → missF n0F g = 0 := fun g a => by
    have h1 : missF n0F g = sumZ (fun _ => (0 : Int)) 5 := sumZ_congr 5 fun k b c => z _ (by omega)
    rw [h1, sumZ_const]
    omega
  refine ⟨?_, fun l a b => ?_, fun l g a b c d => ?_, fun b a c => ?_, fun g a b => ?_, fun g a b => ?_, fun g a b => ?_, fun q => ?_, ?_⟩
  · unfold In0
    rw [e0, e2, e3, z 1 (by omega), z 4 (by omega), z 5 (by omega), e6, z 7 (by omega), z 8 (by omega), z 9 (by omega)]
    omega
  · rw [z (14 + l) (by omega), z (19 + l) (by omega), z 7 (by omega)]
    exact ⟨by omega, by omega, fun q => by omega⟩
  · rw [z (24 + 8 * l + g) (by omega), z (64 + 8 * l + g) (by omega)]
    exact ⟨by omega, by omega, fun _ => ⟨rfl, rfl⟩⟩
  · rw [e6] at c
    omega
  · rw [z 5 (by omega)] at b
    omega
  · rw [hh g a, hm g a]
    unfold restF
    rw [e6]
    exact Int.le_refl _
  · rw [z (112 + g) (by omega), e6]
    rfl
  · rw [e0] at q
    omega
  · unfold InF
    rw [z 8 (by omega), z 7 (by omega)]
    omega
theorem pay_n0 : qToPay n0F = 0 ∧ qRunsOut n0F = -4 := by
  have h := inX_n0 inv_n0
  have e4 : n0F 4 = 0 := n0F_z (by omega)
  have e6 : n0F 6 = 0 := n0F_z (by omega)
  have p0 := pay_0 h (fun k a b => by omega) (fun k g a b => by omega)
  constructor
  · rcases toPay_eq h with ⟨-, q⟩ | ⟨q, -⟩
    · rw [q, p0]
    · omega
  · unfold qRunsOut
    rcases nxt_or n0F (-1) (-1) with q | q
    · rw [if_pos (by omega)]
    · omega
def lw_Q (_ : Array Value) (s : State) (o : Outcome) (t : State) : Prop := o = .returned (some (.int 1)) ∧ Framed s o t [] 600000 7302250
def lw_Z (below : List Frame) (a : Array Value) (s : State) : State → Prop := fun t => ∃ o, t.status = .running ∧ Ended t below o ∧ lw_Q a s o t
/-- the law's own end, with 1 on the stack, nothing written that was there before, its room as the claim has it -/
theorem lw_ret {p : Program} {l : Launch} {e : Env} {s : State} {m : MethodId} {below : List Frame} {meth : Method} {c : Code} {b : Nat} (hx : p.tables.exec = Jvm.exec) (hb : c.code = code) (hr : meth.sig.returnType = ret) (hlocks : meth.locks = false) {pc : Nat} {H : Heap} {ls : Array Slot} (hdg : decode code pc = .ok (.ireturn, 1)) : W p l e room_1 s m #[Value.ref b] below meth c H [] 600000 7302250 (lw_Z below #[Value.ref b] s) (F0 m pc ls [.int 1]) := by
  intro T hT X
  obtain ⟨fs, hret, hrun, hended, hW, hframe⟩ := X.leave (v := some (.int 1)) (hlocks := hlocks) (fun h => by rw [hr] at h; cases h)
  have hmeth' : T.vm.method? m = some meth := X.method'
  refine ⟨T.setFrames fs, ?_, .returned (some (.int 1)), hrun, hended, rfl, ⟨_, rfl⟩, hW, hframe⟩
  jvm_step X.here [X.here.top, hx, hb, hdg, hmeth', hr, ret, narrow_b1]
  (try refine ⟨rfl, ?_⟩); (try refine ⟨rfl, ?_⟩)
  first | (intro acts; rw [hret _ acts rfl rfl rfl]) | rw [hret _ _ rfl rfl rfl]
  exact Steps.refl _
section LWL
variable {p : Program} {l : Launch} {e : Env} {s : State} {m : MethodId} {below : List Frame} {meth : Method} {c : Code} {cells slots : Nat} {Q : State → Prop} {b n o : Nat} {xs : Nat → Int32} {K : KT} {N : Int → Int} {st : List (Int → Int)}
set_option maxHeartbeats 4000000 in
set_option maxRecDepth 100000 in
theorem sw_8 (T : CF p m c cL_law 16 s #[.ref b] RL) (hK : xK K s) (hXs : va_X b n xs s s.heap) (hbl : b < s.heap.size) (ho : s.heap.size ≤ o) (hn : n ≤ 260) (hcs : cells ≤ room_1.cells ∧ slots ≤ room_1.slots)  {H : Heap} {locs : List Loc} (hP : LwY K o n0F ([] : List (Int → Int)) H) (hS : va_S (fun q => s.heap.size ≤ q) s.heap H locs) {ls : Array Slot} (hl : lv_has ls 16 [(1, .ref o), (0, .ref b)]) (again : ∀ (H1 : Heap) (locs1 : List Loc) (ls1 : Array Slot), LwY K o n0F [] H1 → va_S (fun q => s.heap.size ≤ q) s.heap H1 locs1 → lv_has ls1 16 [(0, .ref b), (1, .ref o), (2, .int (iI 1)), (3, .int (iI 0))] → W p l e room_1 s m #[.ref b] below meth c H1 locs1 cells slots Q (F0 m 90 ls1 [])) : W p l e room_1 s m #[.ref b] below meth c H locs cells slots Q (F0 m 8 ls []) := by
  have hX := lwY_X hP
  have hR := inY_R (inY hX.1)
  obtain ⟨b0, b1, b2, b3, b4, b5, b6, b7, b8, b9⟩ := inY_b (inY hX.1)
  have e0 : n0F 0 = 2 := rfl
  have e2 : n0F 2 = 5000 := rfl
  have e3 : n0F 3 = 30 := rfl
  refine lv_aload_n T.1 T.2.1 dL_law_8 rfl (lv_at hl 0 rfl) ?_
  refine ly_undo0 T hK hP hS (fun q a => Nat.le_trans ho a.1) rfl mw_3_59 ⟨Nat.le_of_ble_eq_true rfl, Nat.le_of_ble_eq_true rfl⟩ hl.1 (Nat.le_of_ble_eq_true rfl) hcs dL_law_9 (fun H locs hP hS => ?_)
  refine xv_bipush T dL_law_12 (by omega) ?_
  refine xv_icmp_ne T (by omega) (tgt := 86) dL_law_14 (by decide) (fun c1 => absurd c1 (by omega)) (fun _ => ?_)
  refine lv_aload_n T.1 T.2.1 dL_law_17 rfl (lv_at hl 0 rfl) ?_
  refine xv_iconst T dL_law_18 ?_
  refine ly_count T hK hP hS (fun q a => Nat.le_trans ho a.1) (by omega) (w := n0F 0) rfl mw_3_50 ⟨Nat.le_of_ble_eq_true rfl, Nat.le_of_ble_eq_true rfl⟩ hl.1 (Nat.le_of_ble_eq_true rfl) hcs dL_law_19 (fun H locs hP hS => ?_)
  refine xv_iconst T dL_law_22 ?_
  refine xv_icmp_ne T (by omega) (tgt := 86) dL_law_23 (by decide) (fun c2 => absurd c2 (by omega)) (fun _ => ?_)
  refine lv_aload_n T.1 T.2.1 dL_law_26 rfl (lv_at hl 0 rfl) ?_
  refine xv_bipush T dL_law_27 (by omega) ?_
  refine ly_count T hK hP hS (fun q a => Nat.le_trans ho a.1) (by omega) (w := n0F 2) rfl mw_3_50 ⟨Nat.le_of_ble_eq_true rfl, Nat.le_of_ble_eq_true rfl⟩ hl.1 (Nat.le_of_ble_eq_true rfl) hcs dL_law_29 (fun H locs hP hS => ?_)
  refine xv_sipush T dL_law_32 (by omega) ?_
  refine xv_icmp_ne T (by omega) (tgt := 86) dL_law_35 (by decide) (fun c3 => absurd c3 (by omega)) (fun _ => ?_)
  refine lv_aload_n T.1 T.2.1 dL_law_38 rfl (lv_at hl 0 rfl) ?_
  refine xv_bipush T dL_law_39 (by omega) ?_
  refine ly_count T hK hP hS (fun q a => Nat.le_trans ho a.1) (by omega) (w := n0F 3) rfl mw_3_50 ⟨Nat.le_of_ble_eq_true rfl, Nat.le_of_ble_eq_true rfl⟩ hl.1 (Nat.le_of_ble_eq_true rfl) hcs dL_law_41 (fun H locs hP hS => ?_)
  refine xv_bipush T dL_law_44 (by omega) ?_
  refine xv_icmp_ne T (by omega) (tgt := 86) dL_law_46 (by decide) (fun c4 => absurd c4 (by omega)) (fun _ => ?_)
  refine lv_aload_n T.1 T.2.1 dL_law_49 rfl (lv_at hl 0 rfl) ?_
  refine ly_toPay T hK hP hS (fun q a => Nat.le_trans ho a.1) (w := 0) pay_n0.1 mw_3_77 ⟨Nat.le_of_ble_eq_true rfl, Nat.le_of_ble_eq_true rfl⟩ hl.1 (Nat.le_of_ble_eq_true rfl) hcs dL_law_50 (fun H locs hP hS => ?_)
  refine xv_if_ne T (by omega) (tgt := 86) dL_law_53 (by decide) (fun c5 => absurd c5 (by omega)) (fun _ => ?_)
  refine lv_aload_n T.1 T.2.1 dL_law_56 rfl (lv_at hl 0 rfl) ?_
  refine ly_runsOut T hK hP hS (fun q a => Nat.le_trans ho a.1) (w := (-4)) pay_n0.2 mw_3_86 ⟨Nat.le_of_ble_eq_true rfl, Nat.le_of_ble_eq_true rfl⟩ hl.1 (Nat.le_of_ble_eq_true rfl) hcs dL_law_57 (fun H locs hP hS => ?_)
  refine xv_bipush T dL_law_60 (by omega) ?_
  refine xv_icmp_ne T (by omega) (tgt := 86) dL_law_62 (by decide) (fun c6 => absurd c6 (by omega)) (fun _ => ?_)
  refine lv_aload_n T.1 T.2.1 dL_law_65 rfl (lv_at hl 0 rfl) ?_
  refine xv_iconst T dL_law_66 ?_
  refine ly_fault T hK hP hS (fun q a => Nat.le_trans ho a.1) (by omega) (w := (-4)) (if_neg (by omega)) mw_3_91 ⟨Nat.le_of_ble_eq_true rfl, Nat.le_of_ble_eq_true rfl⟩ hl.1 (Nat.le_of_ble_eq_true rfl) hcs dL_law_67 (fun H locs hP hS => ?_)
  refine xv_bipush T dL_law_70 (by omega) ?_
  refine xv_icmp_ne T (by omega) (tgt := 86) dL_law_72 (by decide) (fun c7 => absurd c7 (by omega)) (fun _ => ?_)
  refine lv_aload_n T.1 T.2.1 dL_law_75 rfl (lv_at hl 0 rfl) ?_
  refine lyS_I T hK hP hS (fun q a => Nat.le_trans ho a.1) (c_L_refused l K o n0F ([] : List (Int → Int))) iL_refused mw_3_138 ⟨Nat.le_of_ble_eq_true rfl, Nat.le_of_ble_eq_true rfl⟩ hl.1 (Nat.le_of_ble_eq_true rfl) hcs dL_law_76 (fun z9 N9 st9 H locs q9 hP hS => ?_)
  obtain ⟨hz9, hN9, hs9⟩ := q9
  subst hz9
  subst hN9
  subst hs9
  refine xv_if_eq T (by omega) (tgt := 86) dL_law_79 (by decide) (fun c8 => absurd c8 (by omega)) (fun _ => ?_)
  refine xv_iconst T dL_law_82 ?_
  refine lv_goto T.1 T.2.1 (tgt := 87) dL_law_83 (by decide) ?_
  refine lv_istore_n (lv' := [(2, .int (iI 1)), (1, .ref o), (0, .ref b)]) T.1 T.2.1 dL_law_87 rfl hl (by decide) rfl (fun ls hl => ?_)
  refine xv_iconst T dL_law_88 ?_
  refine lv_istore_n (lv' := [(3, .int (iI 0)), (2, .int (iI 1)), (1, .ref o), (0, .ref b)]) T.1 T.2.1 dL_law_89 rfl hl (by decide) rfl (fun ls hl => ?_)
  exact again _ _ ls hP hS (lv_sub hl [3, 2, 1, 0] rfl)
set_option maxHeartbeats 4000000 in
theorem lw_exit (T : CF p m c cL_law 16 s #[.ref b] RL) (hK : xK K s) (hXs : va_X b n xs s s.heap) (hbl : b < s.heap.size) (ho : s.heap.size ≤ o) (hn : n ≤ 260) (hcs : cells ≤ room_1.cells ∧ slots ≤ room_1.slots) (hr : meth.sig.returnType = ret) (hk : meth.locks = false) {t : Int} {H : Heap} {locs : List Loc} (hP : LwY K o N st H) (hS : va_S (fun q => s.heap.size ≤ q) s.heap H locs) {ls : Array Slot} (hl : lv_has ls 16 [(0, .ref b), (1, .ref o), (2, .int (iI 1)), (3, .int (iI t))]) : W p l e room_1 s m #[.ref b] below meth c H locs cells slots (lw_Z below #[.ref b] s) (F0 m 1045 ls []) := by
  refine lv_iload_n T.1 T.2.1 dL_law_1045 rfl (lv_at hl 2 rfl) ?_
  refine xv_if_eq T (by omega) (tgt := 1060) dL_law_1046 (by decide) (fun c => absurd c (by omega)) (fun _ => ?_)
  refine lv_aload_n T.1 T.2.1 dL_law_1049 rfl (lv_at hl 1 rfl) ?_
  refine lyS_I T hK hP hS (fun q a => Nat.le_trans ho a.1) (c_L_refused l K o N st) iL_refused mw_3_138 ⟨Nat.le_of_ble_eq_true rfl, Nat.le_of_ble_eq_true rfl⟩ hl.1 (Nat.le_of_ble_eq_true rfl) hcs dL_law_1050 (fun z9 N9 st9 H locs q9 hP hS => ?_)
  obtain ⟨hz9, hN9, hs9⟩ := q9
  subst hz9
  refine xv_if_eq T (by omega) (tgt := 1060) dL_law_1053 (by decide) (fun c => absurd c (by omega)) (fun _ => ?_)
  refine xv_iconst T dL_law_1056 ?_
  refine lv_goto T.1 T.2.1 (tgt := 1061) dL_law_1057 (by decide) ?_
  rw [show iI 1 = (1 : Int32) from by decide]
  exact va_forget hS.2.2 (W.widen hcs.1 hcs.2 (lw_ret T.1 T.2.1 hr hk dL_law_1061))
set_option maxHeartbeats 4000000 in
theorem lw_loop (T : CF p m c cL_law 16 s #[.ref b] RL) (hK : xK K s) (hXs : va_X b n xs s s.heap) (hbl : b < s.heap.size) (ho : s.heap.size ≤ o) (hn : n ≤ 260) (hcs : cells ≤ room_1.cells ∧ slots ≤ room_1.slots) (hr : meth.sig.returnType = ret) (hk : meth.locks = false) : ∀ (d : Nat) (t : Int), 0 ≤ t → t ≤ 30 → 30 ≤ t + (d : Int) → ∀ (N : Int → Int) (st : List (Int → Int)) (H : Heap) (locs : List Loc), LwY K o N st H → va_S (fun q => s.heap.size ≤ q) s.heap H locs → ∀ ls : Array Slot, lv_has ls 16 [(0, .ref b), (1, .ref o), (2, .int (iI 1)), (3, .int (iI t))] → W p l e room_1 s m #[.ref b] below meth c H locs cells slots (lw_Z below #[.ref b] s) (F0 m 90 ls [])
  | 0, t, h0, h1, h2, N, st, H, locs, hP, hS, ls, hl => by
    refine lv_iload_n T.1 T.2.1 dL_law_90 rfl (lv_at hl 3 rfl) ?_
    refine xv_bipush T dL_law_91 (by omega) ?_
    refine xv_icmp_ge T (by omega) (tgt := 1045) dL_law_93 (by decide) (fun c1 => ?_) (fun c1 => absurd c1 (by omega))
    exact lw_exit T hK hXs hbl ho hn hcs hr hk hP hS hl
  | d + 1, t, h0, h1, h2, N, st, H, locs, hP, hS, ls, hl => by
    refine lv_iload_n T.1 T.2.1 dL_law_90 rfl (lv_at hl 3 rfl) ?_
    refine xv_bipush T dL_law_91 (by omega) ?_
    refine xv_icmp_ge T (by omega) (tgt := 1045) dL_law_93 (by decide) (fun c1 => ?_) (fun c1 => ?_)
    · exact lw_exit T hK hXs hbl ho hn hcs hr hk hP hS hl
    · refine lv_iload_n T.1 T.2.1 dL_law_96 rfl (lv_at hl 2 rfl) ?_
      refine xv_if_eq T (by omega) (tgt := 1045) dL_law_97 (by decide) (fun c => absurd c (by omega)) (fun _ => ?_)
      exact sw_100 T hK hXs hbl ho hn hcs (t := t) (by omega) hP hS hl (fun z N2 st2 H1 locs1 ls1 hz hP1 hS1 hl1 => sw_986 T hK hXs hbl ho hn hcs (t := t) (by omega) hz hP1 hS1 hl1 (fun st3 H2 locs2 ls2 hP2 hS2 hl2 => lw_loop T hK hXs hbl ho hn hcs hr hk d (t + 1) (by omega) (by omega) (by omega) N2 st3 H2 locs2 hP2 hS2 ls2 hl2))
end LWL
