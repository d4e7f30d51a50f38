theorem k_int {args : Array Value} {s : State} (h : (Cond.arrayClass .int).before args s = true) : ∃ cA : ClassId, ArrOfT s cA .int ∧ va_RA s cA .int := by
  obtain ⟨c, k, comp, h1, h2, h3⟩ := Cond.arrayClass_spec h
  exact ⟨c, fun n z => ⟨fun k h => (by cases h), k, h2, comp, h3⟩, h1⟩
theorem k_long {args : Array Value} {s : State} (h : (Cond.arrayClass .long).before args s = true) : ∃ cA : ClassId, ArrOfT s cA .long ∧ va_RA s cA .long := by
  obtain ⟨c, k, comp, h1, h2, h3⟩ := Cond.arrayClass_spec h
  exact ⟨c, fun n z => ⟨fun k h => (by cases h), k, h2, comp, h3⟩, h1⟩
theorem k_char {args : Array Value} {s : State} (h : (Cond.arrayClass .char).before args s = true) : ∃ cA : ClassId, ArrOfT s cA .char ∧ va_RA s cA .char := by
  obtain ⟨c, k, comp, h1, h2, h3⟩ := Cond.arrayClass_spec h
  exact ⟨c, fun n z => ⟨fun k h => (by cases h), k, h2, comp, h3⟩, h1⟩
theorem k_obj {args : Array Value} {s : State} {C : String} (h : (Cond.arrayOver (.object C)).before args s = true) : ∃ cA : ClassId, ArrOfT s cA (.object C) ∧ va_RA s cA (.object C) := by
  obtain ⟨comp, c, k, h1, h2, h3, h4, h5⟩ := Cond.arrayOver_spec h
  exact ⟨c, fun n z => ⟨fun k h => (by cases h), k, h3, comp, h4⟩, k, comp, h3, h4, h1, h5⟩
set_option maxHeartbeats 1000000 in
theorem k_all {args : Array Value} {s : State} (hts : ∀ w ∈ lw_tbl, w.before args s = true) : ∃ K : KT, xK K s := by
  have hx : ∀ w ∈ xtb, w.before args s = true := fun w h => hts w (xtb_lw w h)
  obtain ⟨c0, i0, h0⟩ := u_known (C := RX0) (T := TX0) (N := 7) (n := 7) hx inX0 (hx _ mw_1_83)
  obtain ⟨c1, i1, h1⟩ := u_known (C := RX1) (T := TX1) (N := 3) (n := 3) hx inX1 (hx _ mw_1_180)
  obtain ⟨c2, i2, h2⟩ := u_known (C := RX2) (T := TX2) (N := 5) (n := 5) hx inX2 (hx _ mw_1_27)
  obtain ⟨c3, i3, h3⟩ := u_known (C := RX3) (T := TX3) (N := 9) (n := 9) hx inX3 (hx _ mw_1_200)
  obtain ⟨c4, i4, h4⟩ := u_known (C := RX4) (T := TX4) (N := 3) (n := 3) hx inX4 (hx _ mw_1_123)
  obtain ⟨c5, i5, h5⟩ := u_known (C := RX5) (T := TX5) (N := 4) (n := 4) hx inX5 (hx _ mw_1_60)
  obtain ⟨c6, i6, h6⟩ := u_known (C := RX6) (T := TX6) (N := 9) (n := 9) hx inX6 (hx _ mw_1_21)
  obtain ⟨c7, i7, h7⟩ := u_known (C := RX7) (T := TX7) (N := 4) (n := 4) hx inX7 (hx _ mw_1_13)
  obtain ⟨c8, i8, h8⟩ := u_known (C := RX8) (T := TX8) (N := 13) (n := 13) hx inX8 (hx _ mw_3_170)
  obtain ⟨a0, p0⟩ := k_int (hx _ mw_1_58)
  obtain ⟨a1, p1⟩ := k_long (hx _ mw_1_142)
  obtain ⟨a2, p2⟩ := k_char (hx _ mw_1_238)
  obtain ⟨a3, p3⟩ := k_obj (hts _ mw_1_186)
  refine ⟨((fun k => if k = 0 then c0 else if k = 1 then c1 else if k = 2 then c2 else if k = 3 then c3 else if k = 4 then c4 else if k = 5 then c5 else if k = 6 then c6 else if k = 7 then c7 else c8, fun k => if k = 0 then i0 else if k = 1 then i1 else if k = 2 then i2 else if k = 3 then i3 else if k = 4 then i4 else if k = 5 then i5 else if k = 6 then i6 else if k = 7 then i7 else i8), (a0, a1, a2, a3)), fun k q hq => ?_, fun k q hq => ?_⟩
  · match k, hq with
    | 0, hq => cases hq; exact h0
    | 1, hq => cases hq; exact h1
    | 2, hq => cases hq; exact h2
    | 3, hq => cases hq; exact h3
    | 4, hq => cases hq; exact h4
    | 5, hq => cases hq; exact h5
    | 6, hq => cases hq; exact h6
    | 7, hq => cases hq; exact h7
    | 8, hq => cases hq; exact h8
    | k + 9, hq => simp [vwCl] at hq
  · match k, hq with
    | 0, hq => cases hq; exact p0
    | 1, hq => cases hq; exact p1
    | 2, hq => cases hq; exact p2
    | 3, hq => cases hq; exact p3
    | k + 4, hq => simp at hq
def lw_Q (_ : Array Value) (s : State) (o : Outcome) (t : State) : Prop := o = .returned (some (.int 1)) ∧ Framed s o t [] 600000 7302250
def lw_Z (below : List Frame) (a : Array Value) (s : State) : State → Prop := fun t => ∃ o, t.status = .running ∧ Ended t below o ∧ lw_Q a s o t
/-- the law's own end, with 1 on the stack, nothing written that was there before, its room as the claim has it -/
theorem lw_ret {p : Program} {l : Launch} {e : Env} {s : State} {m : MethodId} {below : List Frame} {meth : Method} {c : Code} {b : Nat} (hx : p.tables.exec = Jvm.exec) (hb : c.code = code) (hr : meth.sig.returnType = ret) (hlocks : meth.locks = false) {pc : Nat} {H : Heap} {ls : Array Slot} (hdg : decode code pc = .ok (.ireturn, 1)) : W p l e room_1 s m #[Value.ref b] below meth c H [] 600000 7302250 (lw_Z below #[Value.ref b] s) (F0 m pc ls [.int 1]) := by
  intro T hT X
  obtain ⟨fs, hret, hrun, hended, hW, hframe⟩ := X.leave (v := some (.int 1)) (hlocks := hlocks) (fun h => by rw [hr] at h; cases h)
  have hmeth' : T.vm.method? m = some meth := X.method'
  refine ⟨T.setFrames fs, ?_, .returned (some (.int 1)), hrun, hended, rfl, ⟨_, rfl⟩, hW, hframe⟩
  jvm_step X.here [X.here.top, hx, hb, hdg, hmeth', hr, ret, narrow_b1]
  (try refine ⟨rfl, ?_⟩); (try refine ⟨rfl, ?_⟩)
  first | (intro acts; rw [hret _ acts rfl rfl rfl]) | rw [hret _ _ rfl rfl rfl]
  exact Steps.refl _
section LWL
variable {p : Program} {l : Launch} {e : Env} {s : State} {m : MethodId} {below : List Frame} {meth : Method} {c : Code} {cells slots : Nat} {b n o : Nat} {xs : Nat → Int32} {K : KT}
set_option maxHeartbeats 4000000 in
theorem lw_loop (T : CF p m c cL_law 4 s #[.ref b] RL) (hr : meth.sig.returnType = ret) (hk : meth.locks = false) (hK : xK K s) (hXs : va_X b n xs s s.heap) (hbl : b < s.heap.size) (ho : s.heap.size ≤ o) (hn : n ≤ 2560) (hcs : cells ≤ room_1.cells ∧ slots ≤ room_1.slots) : ∀ (d : Nat) (i : Int), 0 ≤ i → i ≤ (n : Int) + 5 → (n : Int) + 10 ≤ i + (d : Int) → ∀ (H : Heap) (locs : List Loc), LwX K o H → va_S (fun q => s.heap.size ≤ q) s.heap H locs → ∀ ls : Array Slot, lv_has ls 4 [(3, .int (iI i)), (2, .ref (o + 153)), (1, .ref o), (0, .ref b)] → W p l e room_1 s m #[.ref b] below meth c H locs cells slots (lw_Z below #[.ref b] s) (F0 m 18 ls [])
  | 0, i, h0, h1, h2, H, locs, hW, hS, ls, hl => absurd h2 (by omega)
  | d + 1, i, h0, h1, h2, H, locs, hW, hS, ls, hl => by
    have hbA : ¬ (fun q : Nat => s.heap.size ≤ q) b := Nat.not_le.mpr hbl
    refine lv_iload_n T.1 T.2.1 dL_18 rfl (lv_at hl 0 rfl) ?_
    refine lv_aload_n T.1 T.2.1 dL_19 rfl (lv_at hl 3 rfl) ?_
    refine va_slen T.1 T.2.1 hXs hbl hbA hS dL_20 ?_
    rw [show Int32.ofNat n = iI (n : Int) from (iI_ofNat n).symm]
    refine xv_iconst T dL_21 ?_
    refine xv_isub T dL_22 ?_
    refine xv_icmp_gt T (by omega) (tgt := 920) dL_23 (by decide) (fun c1 => ?_) (fun c1 => ?_)
    · refine xv_iconst T dL_920 ?_
      rw [show iI 1 = (1 : Int32) from by decide]
      exact va_forget hS.2.2 (W.widen hcs.1 hcs.2 (lw_ret T.1 T.2.1 hr hk dL_921))
    · refine lv_aload_n T.1 T.2.1 dL_26 rfl (lv_at hl 3 rfl) ?_
      refine lv_iload_n T.1 T.2.1 dL_27 rfl (lv_at hl 0 rfl) ?_
      obtain ⟨v0, r0, x0⟩ := iI_ex (xs i.toNat)
      refine xl_sld T hXs hbl hbA hS (z := i) (by omega) hn x0 dL_28 ?_
      refine xv_bipush T dL_29 (by decide) ?_
      refine lv_iand T.1 T.2.1 dL_31 ?_
      obtain ⟨t, rt, et⟩ := iI_ex (iI v0 &&& iI 31)
      rw [et]
      have again : ∀ (H1 : Heap) (locs1 : List Loc), LwX K o H1 → va_S (fun q => s.heap.size ≤ q) s.heap H1 locs1 → W p l e room_1 s m #[.ref b] below meth c H1 locs1 cells slots (lw_Z below #[.ref b] s) (F0 m 914 ls []) := fun H1 locs1 hW1 hS1 => by
        refine xv_iinc T (y := i + 5) (lv' := [(3, .int (iI (i + 5))), (2, .ref (o + 153)), (1, .ref o), (0, .ref b)]) dL_914 hl (q := 0) rfl rfl (by decide) rfl (fun ls hl => ?_)
        refine lv_goto T.1 T.2.1 (tgt := 18) dL_917 (by decide) ?_
        exact lw_loop T hr hk hK hXs hbl ho hn hcs d (i + 5) (by omega) (by omega) (by omega) H1 locs1 hW1 hS1 ls hl
      have hi : 0 ≤ i ∧ i + 5 ≤ (n : Int) := by omega
      by_cases ht : t < 0 ∨ 27 < t
      · exact xv_tableOut T rt dL_32 ht (tgt := 914) (by decide) (again H locs hW hS)
      · rcases (show t = 0 ∨ t = 1 ∨ t = 2 ∨ t = 3 ∨ t = 4 ∨ t = 5 ∨ t = 6 ∨ t = 7 ∨ t = 8 ∨ t = 9 ∨ t = 10 ∨ t = 11 ∨ t = 12 ∨ t = 13 ∨ t = 14 ∨ t = 15 ∨ t = 16 ∨ t = 17 ∨ t = 18 ∨ t = 19 ∨ t = 20 ∨ t = 21 ∨ t = 22 ∨ t = 23 ∨ t = 24 ∨ t = 25 ∨ t = 26 ∨ t = 27 by omega) with h | h | h | h | h | h | h | h | h | h | h | h | h | h | h | h | h | h | h | h | h | h | h | h | h | h | h | h
        · exact xv_tableIn T 0 h (by decide) dL_32 (by decide) (by decide) rfl (tgt := 160) (by decide) (lw_c0 T hK hXs hbl ho hn hi hW hS hl hcs again)
        · exact xv_tableIn T 1 h (by decide) dL_32 (by decide) (by decide) rfl (tgt := 173) (by decide) (lw_c1 T hK hXs hbl ho hn hi hW hS hl hcs again)
        · exact xv_tableIn T 2 h (by decide) dL_32 (by decide) (by decide) rfl (tgt := 196) (by decide) (lw_c2 T hK hXs hbl ho hn hi hW hS hl hcs again)
        · exact xv_tableIn T 3 h (by decide) dL_32 (by decide) (by decide) rfl (tgt := 229) (by decide) (lw_c3 T hK hXs hbl ho hn hi hW hS hl hcs again)
        · exact xv_tableIn T 4 h (by decide) dL_32 (by decide) (by decide) rfl (tgt := 272) (by decide) (lw_c4 T hK hXs hbl ho hn hi hW hS hl hcs again)
        · exact xv_tableIn T 5 h (by decide) dL_32 (by decide) (by decide) rfl (tgt := 305) (by decide) (lw_c5 T hK hXs hbl ho hn hi hW hS hl hcs again)
        · exact xv_tableIn T 6 h (by decide) dL_32 (by decide) (by decide) rfl (tgt := 338) (by decide) (lw_c6 T hK hXs hbl ho hn hi hW hS hl hcs again)
        · exact xv_tableIn T 7 h (by decide) dL_32 (by decide) (by decide) rfl (tgt := 371) (by decide) (lw_c7 T hK hXs hbl ho hn hi hW hS hl hcs again)
        · exact xv_tableIn T 8 h (by decide) dL_32 (by decide) (by decide) rfl (tgt := 404) (by decide) (lw_c8 T hK hXs hbl ho hn hi hW hS hl hcs again)
        · exact xv_tableIn T 9 h (by decide) dL_32 (by decide) (by decide) rfl (tgt := 427) (by decide) (lw_c9 T hK hXs hbl ho hn hi hW hS hl hcs again)
        · exact xv_tableIn T 10 h (by decide) dL_32 (by decide) (by decide) rfl (tgt := 470) (by decide) (lw_c10 T hK hXs hbl ho hn hi hW hS hl hcs again)
        · exact xv_tableIn T 11 h (by decide) dL_32 (by decide) (by decide) rfl (tgt := 513) (by decide) (lw_c11 T hK hXs hbl ho hn hi hW hS hl hcs again)
        · exact xv_tableIn T 12 h (by decide) dL_32 (by decide) (by decide) rfl (tgt := 566) (by decide) (lw_c12 T hK hXs hbl ho hn hi hW hS hl hcs again)
        · exact xv_tableIn T 13 h (by decide) dL_32 (by decide) (by decide) rfl (tgt := 589) (by decide) (lw_c13 T hK hXs hbl ho hn hi hW hS hl hcs again)
        · exact xv_tableIn T 14 h (by decide) dL_32 (by decide) (by decide) rfl (tgt := 612) (by decide) (lw_c14 T hK hXs hbl ho hn hi hW hS hl hcs again)
        · exact xv_tableIn T 15 h (by decide) dL_32 (by decide) (by decide) rfl (tgt := 635) (by decide) (lw_c15 T hK hXs hbl ho hn hi hW hS hl hcs again)
        · exact xv_tableIn T 16 h (by decide) dL_32 (by decide) (by decide) rfl (tgt := 658) (by decide) (lw_c16 T hK hXs hbl ho hn hi hW hS hl hcs again)
        · exact xv_tableIn T 17 h (by decide) dL_32 (by decide) (by decide) rfl (tgt := 691) (by decide) (lw_c17 T hK hXs hbl ho hn hi hW hS hl hcs again)
        · exact xv_tableIn T 18 h (by decide) dL_32 (by decide) (by decide) rfl (tgt := 724) (by decide) (lw_c18 T hK hXs hbl ho hn hi hW hS hl hcs again)
        · exact xv_tableIn T 19 h (by decide) dL_32 (by decide) (by decide) rfl (tgt := 747) (by decide) (lw_c19 T hK hXs hbl ho hn hi hW hS hl hcs again)
        · exact xv_tableIn T 20 h (by decide) dL_32 (by decide) (by decide) rfl (tgt := 770) (by decide) (lw_c20 T hK hXs hbl ho hn hi hW hS hl hcs again)
        · exact xv_tableIn T 21 h (by decide) dL_32 (by decide) (by decide) rfl (tgt := 783) (by decide) (lw_c21 T hK hXs hbl ho hn hi hW hS hl hcs again)
        · exact xv_tableIn T 22 h (by decide) dL_32 (by decide) (by decide) rfl (tgt := 816) (by decide) (lw_c22 T hK hXs hbl ho hn hi hW hS hl hcs again)
        · exact xv_tableIn T 23 h (by decide) dL_32 (by decide) (by decide) rfl (tgt := 829) (by decide) (lw_c23 T hK hXs hbl ho hn hi hW hS hl hcs again)
        · exact xv_tableIn T 24 h (by decide) dL_32 (by decide) (by decide) rfl (tgt := 842) (by decide) (lw_c24 T hK hXs hbl ho hn hi hW hS hl hcs again)
        · exact xv_tableIn T 25 h (by decide) dL_32 (by decide) (by decide) rfl (tgt := 865) (by decide) (lw_c25 T hK hXs hbl ho hn hi hW hS hl hcs again)
        · exact xv_tableIn T 26 h (by decide) dL_32 (by decide) (by decide) rfl (tgt := 878) (by decide) (lw_c26 T hK hXs hbl ho hn hi hW hS hl hcs again)
        · exact xv_tableIn T 27 h (by decide) dL_32 (by decide) (by decide) rfl (tgt := 901) (by decide) (lw_c27 T hK hXs hbl ho hn hi hW hS hl hcs again)
end LWL
