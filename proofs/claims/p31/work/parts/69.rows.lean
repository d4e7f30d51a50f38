/-- the states before, the latest first -/
def HisL (R : Nat → Int → Int) (G : Int → Int) (st : List (Int → Int)) : Prop := (0 ≤ G 0 ∧ G 0 ≤ 4) ∧ (0 ≤ G 1 ∧ G 1 ≤ 4) ∧ (st.length : Int) = G 0 ∧ ∀ (k : Nat) (S : Int → Int), st[k]? = some S → R ((G 1 + 5 - (k : Int)) % 5).toNat = S ∧ InX S
def chS (N : Int → Int) (st : List (Int → Int)) (z : Int) : List (Int → Int) := if iI z < 0 then st else (N :: st).take 4
theorem his_put {R : Nat → Int → Int} {G N : Int → Int} {st : List (Int → Int)} (h : HisL R G st) (hN : InX N) (z : Int) : HisL (upR R (spF G).toNat N) (fiG G z) (chS N st z) := by
  obtain ⟨h0, h1, hl, hk⟩ := h
  have hs : spF G = (G 1 + 1) % 5 := by
    unfold spF
    split <;> omega
  unfold fiG chS
  by_cases hz : iI z < 0
  · rw [if_pos hz, if_pos hz]
    refine ⟨h0, h1, hl, fun k S q => ?_⟩
    have hlt := (List.getElem?_eq_some_iff.mp q).1
    rw [upR_ne (by omega)]
    exact hk k S q
  · rw [if_neg hz, if_neg hz]
    have e0 : uZ (uZ G 1 (spF G)) 0 (if G 0 < 4 then G 0 + 1 else 4) 0 = if G 0 < 4 then G 0 + 1 else 4 := uZ_eq
    have e1 : uZ (uZ G 1 (spF G)) 0 (if G 0 < 4 then G 0 + 1 else 4) 1 = (G 1 + 1) % 5 := by rw [uZ_ne (by omega), uZ_eq, hs]
    unfold HisL
    rw [e0, e1, hs]
    have hlen : ((N :: st).take 4).length = min 4 (st.length + 1) := by rw [List.length_take, List.length_cons]
    refine ⟨by split <;> omega, by omega, ?_, fun k S q => ?_⟩
    · rw [hlen]
      split <;> omega
    · have hlt := (List.getElem?_eq_some_iff.mp q).1
      rw [hlen] at hlt
      rw [List.getElem?_take, if_pos (by omega)] at q
      cases k with
      | zero =>
        rw [List.getElem?_cons_zero] at q
        cases q
        rw [show ((G 1 + 1) % 5 + 5 - ((0 : Nat) : Int)) % 5 = (G 1 + 1) % 5 by omega, upR_eq]
        exact ⟨rfl, hN⟩
      | succ k =>
        rw [List.getElem?_cons_succ] at q
        rw [show ((G 1 + 1) % 5 + 5 - ((k + 1 : Nat) : Int)) % 5 = (G 1 + 5 - (k : Int)) % 5 by omega, upR_ne (by omega)]
        exact hk k S q
theorem his_undo {R : Nat → Int → Int} {G S : Int → Int} {st : List (Int → Int)} (h : HisL R G (S :: st)) : G 0 ≠ 0 ∧ G 0 - 1 = (st.length : Int) ∧ R (G 1).toNat = S ∧ InX S ∧ HisL R (uZ (uZ G 1 (if 0 < G 1 then G 1 - 1 else 4)) 0 (G 0 - 1)) st := by
  obtain ⟨h0, h1, hl, hk⟩ := h
  rw [List.length_cons] at hl
  have k0 := hk 0 S (by rw [List.getElem?_cons_zero])
  rw [show ((G 1 + 5 - ((0 : Nat) : Int)) % 5).toNat = (G 1).toNat by omega] at k0
  refine ⟨by omega, by omega, k0.1, k0.2, ?_⟩
  have hm : (if 0 < G 1 then G 1 - 1 else 4) = (G 1 + 4) % 5 := by split <;> omega
  have e0 : uZ (uZ G 1 (if 0 < G 1 then G 1 - 1 else 4)) 0 (G 0 - 1) 0 = G 0 - 1 := uZ_eq
  have e1 : uZ (uZ G 1 (if 0 < G 1 then G 1 - 1 else 4)) 0 (G 0 - 1) 1 = (G 1 + 4) % 5 := by rw [uZ_ne (by omega), uZ_eq, hm]
  unfold HisL
  rw [e0, e1]
  refine ⟨by omega, by omega, by omega, fun k S2 q => ?_⟩
  have hlt := (List.getElem?_eq_some_iff.mp q).1
  rw [show ((G 1 + 4) % 5 + 5 - (k : Int)) % 5 = (G 1 + 5 - ((k + 1 : Nat) : Int)) % 5 by omega]
  exact hk (k + 1) S2 (by rw [List.getElem?_cons_succ]; exact q)
abbrev YT : Type := (Int → Int) × List (Int → Int) × (Int → Int) × (Nat → Int → Int) × (Int → Int) × (Int → Int) × (Int → Int) × (Int → Int)
def yW (K : KT) (o : Nat) (u : YT) : va_W := xW K o u.1 u.2.2.1 u.2.2.2.1 u.2.2.2.2.1 u.2.2.2.2.2.1 u.2.2.2.2.2.2.1 u.2.2.2.2.2.2.2
def yOk (u : YT) : Prop := InX u.1 ∧ HisL u.2.2.2.1 u.2.2.2.2.1 u.2.1 ∧ u.2.2.2.2.2.1 0 = 0 ∧ nuIn u.2.2.2.2.2.2.1
/-- the class's object as the law knows it: its state, the states before -/
def LwY (K : KT) (o : Nat) (N : Int → Int) (st : List (Int → Int)) (H : Heap) : Prop := ∃ u : YT, (u.1 = N ∧ u.2.1 = st) ∧ yOk u ∧ xP K (yW K o u) H
theorem lwY_mk {K : KT} {o : Nat} {N M : Int → Int} {R : Nat → Int → Int} {G L NU TT : Int → Int} {st : List (Int → Int)} {H : Heap} (hX : InX N) (hH : HisL R G st) (hL : L 0 = 0) (hn : nuIn NU) (hP : xP K (xW K o N M R G L NU TT) H) : LwY K o N st H := ⟨(N, st, M, R, G, L, NU, TT), ⟨rfl, rfl⟩, ⟨hX, hH, hL, hn⟩, hP⟩
theorem lwY_ex {K : KT} {o : Nat} {N : Int → Int} {st : List (Int → Int)} {H : Heap} (h : LwY K o N st H) : ∃ (M : Int → Int) (R : Nat → Int → Int) (G L NU TT : Int → Int), InX N ∧ HisL R G st ∧ L 0 = 0 ∧ nuIn NU ∧ xP K (xW K o N M R G L NU TT) H := by
  obtain ⟨⟨N2, st2, M, R, G, L, NU, TT⟩, ⟨rfl, rfl⟩, ⟨hX, hH, hL, hn⟩, hP⟩ := h
  exact ⟨M, R, G, L, NU, TT, hX, hH, hL, hn, hP⟩
theorem lwY_X {K : KT} {o : Nat} {N : Int → Int} {st : List (Int → Int)} {H : Heap} (h : LwY K o N st H) : InX N := by
  obtain ⟨M, R, G, L, NU, TT, hX, -⟩ := lwY_ex h
  exact hX
theorem lwY_st {K : KT} {o : Nat} {N : Int → Int} {st : List (Int → Int)} {H : Heap} (h : LwY K o N st H) : st.length ≤ 4 := by
  obtain ⟨M, R, G, L, NU, TT, -, hH, -⟩ := lwY_ex h
  have h1 := hH.1
  have h2 := hH.2.2.1
  omega
theorem chS_neg {N : Int → Int} {st : List (Int → Int)} {z : Int} (h : -2147483648 ≤ z ∧ z < 0) : chS N st z = st := if_pos ((iI_lt (b := 0) (by omega)).mpr h.2)
theorem chS_pos {N : Int → Int} {st : List (Int → Int)} {z : Int} (h : 0 ≤ z ∧ z ≤ 2147483647) : chS N st z = (N :: st).take 4 := if_neg fun q => by
  have := (iI_lt (b := 0) (by omega)).mp q
  omega
abbrev rg (z : Int) : Prop := -2147483648 ≤ z ∧ z ≤ 2147483647
section XLY
variable {p : Program} {l : Launch} {e : Env} {R : Room} {s : State} {m : MethodId} {args : Array Value} {below : List Frame} {meth : Method} {c : Code} {H : Heap} {locs : List Loc} {cells slots : Nat} {Q : State → Prop}
variable {cc : ByteArray} {pc nL : Nat} {ls : Array Slot} {rest : List Value} {own : String}
variable {K : KT} {o : Nat} {N : Int → Int} {st : List (Int → Int)} {A0 : Nat → Prop} {H0 : Heap}
theorem ly_lockerOf (T : CF p m c cc nL s args own) (hK : xK K s) (hW : LwY K o N st H) (hS : va_S A0 H0 H locs) (hA : ∀ q, Blk o 153 q → A0 q) {lk : Int} {wh : Int} (r_lk : rg lk) (r_wh : rg wh) {w : Int} (hw : qLockerOf N lk wh = w) {idx : Nat} (hm : Cond.methodLink own idx yX7_lockerOf ∈ xtb) (hR : 2 + 1 ≤ R.frames ∧ 8 + (4 + 11) + 46 ≤ R.locals) (hsz : ls.size = nL) (hrm : (rest.map fun v => v.category).sum ≤ 8) (hcs : cells ≤ R.cells ∧ slots ≤ R.slots) (hdg : decode cc pc = .ok (.invokevirtual idx, 3)) (kk : ∀ (H1 : Heap) (locs1 : List Loc), LwY K o N st H1 → va_S A0 H0 H1 locs1 → W p l e R s m args below meth c H1 locs1 cells slots Q (F0 m (pc + 3) ls (.int (iI w) :: rest))) : W p l e R s m args below meth c H locs cells slots Q (F0 m pc ls (.int (iI wh) :: .int (iI lk) :: .ref o :: rest)) := by
  obtain ⟨M, R9, G, L, NU, TT, hX, hH, hL, hn, hP⟩ := lwY_ex hW
  refine cI_V T hK hP hS 0 rfl rfl rfl (c_X7_lockerOf l K o N M R9 G L NU TT lk wh r_lk r_wh hX.1) iX7_lockerOf hm hR hP noA rfl hsz rfl hrm hcs hdg (fun z u H1 locs1 q hP1 h1 h2 h3 => ?_)
  obtain rfl : z = w := q.trans hw
  exact kk H1 locs1 (lwY_mk hX hH hL hn hP1) h3
theorem ly_missing (T : CF p m c cc nL s args own) (hK : xK K s) (hW : LwY K o N st H) (hS : va_S A0 H0 H locs) (hA : ∀ q, Blk o 153 q → A0 q) {lk : Int} {gd : Int} (r_lk : rg lk) (r_gd : rg gd) {w : Int} (hw : qMissing N lk gd = w) {idx : Nat} (hm : Cond.methodLink own idx yX7_missing ∈ xtb) (hR : 1 + 1 ≤ R.frames ∧ 8 + (3 + 11) + 22 ≤ R.locals) (hsz : ls.size = nL) (hrm : (rest.map fun v => v.category).sum ≤ 8) (hcs : cells ≤ R.cells ∧ slots ≤ R.slots) (hdg : decode cc pc = .ok (.invokevirtual idx, 3)) (kk : ∀ (H1 : Heap) (locs1 : List Loc), LwY K o N st H1 → va_S A0 H0 H1 locs1 → W p l e R s m args below meth c H1 locs1 cells slots Q (F0 m (pc + 3) ls (.int (iI w) :: rest))) : W p l e R s m args below meth c H locs cells slots Q (F0 m pc ls (.int (iI gd) :: .int (iI lk) :: .ref o :: rest)) := by
  obtain ⟨M, R9, G, L, NU, TT, hX, hH, hL, hn, hP⟩ := lwY_ex hW
  refine cI_V T hK hP hS 0 rfl rfl rfl (c_X7_missing l K o N M R9 G L NU TT lk gd r_lk r_gd hX.1) iX7_missing hm hR hP noA rfl hsz rfl hrm hcs hdg (fun z u H1 locs1 q hP1 h1 h2 h3 => ?_)
  obtain rfl : z = w := q.trans hw
  exact kk H1 locs1 (lwY_mk hX hH hL hn hP1) h3
theorem ly_seal (T : CF p m c cc nL s args own) (hK : xK K s) (hW : LwY K o N st H) (hS : va_S A0 H0 H locs) (hA : ∀ q, Blk o 153 q → A0 q) {sl : Int} {wh : Int} (r_sl : rg sl) (r_wh : rg wh) {w : Int} (hw : qSeal N sl wh = w) {idx : Nat} (hm : Cond.methodLink own idx yX7_seal ∈ xtb) (hR : 0 + 1 ≤ R.frames ∧ 8 + (4 + 11) + 0 ≤ R.locals) (hsz : ls.size = nL) (hrm : (rest.map fun v => v.category).sum ≤ 8) (hcs : cells ≤ R.cells ∧ slots ≤ R.slots) (hdg : decode cc pc = .ok (.invokevirtual idx, 3)) (kk : ∀ (H1 : Heap) (locs1 : List Loc), LwY K o N st H1 → va_S A0 H0 H1 locs1 → W p l e R s m args below meth c H1 locs1 cells slots Q (F0 m (pc + 3) ls (.int (iI w) :: rest))) : W p l e R s m args below meth c H locs cells slots Q (F0 m pc ls (.int (iI wh) :: .int (iI sl) :: .ref o :: rest)) := by
  obtain ⟨M, R9, G, L, NU, TT, hX, hH, hL, hn, hP⟩ := lwY_ex hW
  refine cI_V T hK hP hS 0 rfl rfl rfl (c_X7_seal l K o N M R9 G L NU TT sl wh r_sl r_wh hX.1) iX7_seal hm hR hP noA rfl hsz rfl hrm hcs hdg (fun z u H1 locs1 q hP1 h1 h2 h3 => ?_)
  obtain rfl : z = w := q.trans hw
  exact kk H1 locs1 (lwY_mk hX hH hL hn hP1) h3
theorem ly_bond (T : CF p m c cc nL s args own) (hK : xK K s) (hW : LwY K o N st H) (hS : va_S A0 H0 H locs) (hA : ∀ q, Blk o 153 q → A0 q) {bd : Int} {wh : Int} (r_bd : rg bd) (r_wh : rg wh) {w : Int} (hw : qBond N bd wh = w) {idx : Nat} (hm : Cond.methodLink own idx yX7_bond ∈ xtb) (hR : 1 + 1 ≤ R.frames ∧ 8 + (4 + 11) + 21 ≤ R.locals) (hsz : ls.size = nL) (hrm : (rest.map fun v => v.category).sum ≤ 8) (hcs : cells ≤ R.cells ∧ slots ≤ R.slots) (hdg : decode cc pc = .ok (.invokevirtual idx, 3)) (kk : ∀ (H1 : Heap) (locs1 : List Loc), LwY K o N st H1 → va_S A0 H0 H1 locs1 → W p l e R s m args below meth c H1 locs1 cells slots Q (F0 m (pc + 3) ls (.int (iI w) :: rest))) : W p l e R s m args below meth c H locs cells slots Q (F0 m pc ls (.int (iI wh) :: .int (iI bd) :: .ref o :: rest)) := by
  obtain ⟨M, R9, G, L, NU, TT, hX, hH, hL, hn, hP⟩ := lwY_ex hW
  refine cI_V T hK hP hS 0 rfl rfl rfl (c_X7_bond l K o N M R9 G L NU TT bd wh r_bd r_wh hX.1) iX7_bond hm hR hP noA rfl hsz rfl hrm hcs hdg (fun z u H1 locs1 q hP1 h1 h2 h3 => ?_)
  obtain rfl : z = w := q.trans hw
  exact kk H1 locs1 (lwY_mk hX hH hL hn hP1) h3
theorem ly_nextBond (T : CF p m c cc nL s args own) (hK : xK K s) (hW : LwY K o N st H) (hS : va_S A0 H0 H locs) (hA : ∀ q, Blk o 153 q → A0 q) {gd : Int} (r_gd : rg gd) {w : Int} (hw : qNextBond N gd = w) {idx : Nat} (hm : Cond.methodLink own idx yX7_nextBond ∈ xtb) (hR : 1 + 1 ≤ R.frames ∧ 8 + (3 + 11) + 29 ≤ R.locals) (hsz : ls.size = nL) (hrm : (rest.map fun v => v.category).sum ≤ 8) (hcs : cells ≤ R.cells ∧ slots ≤ R.slots) (hdg : decode cc pc = .ok (.invokevirtual idx, 3)) (kk : ∀ (H1 : Heap) (locs1 : List Loc), LwY K o N st H1 → va_S A0 H0 H1 locs1 → W p l e R s m args below meth c H1 locs1 cells slots Q (F0 m (pc + 3) ls (.int (iI w) :: rest))) : W p l e R s m args below meth c H locs cells slots Q (F0 m pc ls (.int (iI gd) :: .ref o :: rest)) := by
  obtain ⟨M, R9, G, L, NU, TT, hX, hH, hL, hn, hP⟩ := lwY_ex hW
  refine cI_V T hK hP hS 0 rfl rfl rfl (c_X7_nextBond l K o N M R9 G L NU TT gd r_gd hX.1) iX7_nextBond hm hR hP noA rfl hsz rfl hrm hcs hdg (fun z u H1 locs1 q hP1 h1 h2 h3 => ?_)
  obtain rfl : z = w := q.trans hw
  exact kk H1 locs1 (lwY_mk hX hH hL hn hP1) h3
theorem ly_account (T : CF p m c cc nL s args own) (hK : xK K s) (hW : LwY K o N st H) (hS : va_S A0 H0 H locs) (hA : ∀ q, Blk o 153 q → A0 q) {gd : Int} {wh : Int} (r_gd : rg gd) (r_wh : rg wh) {w : Int} (hw : qAccount N gd wh = w) {idx : Nat} (hm : Cond.methodLink own idx yX7_account ∈ xtb) (hR : 2 + 1 ≤ R.frames ∧ 8 + (4 + 11) + 46 ≤ R.locals) (hsz : ls.size = nL) (hrm : (rest.map fun v => v.category).sum ≤ 8) (hcs : cells ≤ R.cells ∧ slots ≤ R.slots) (hdg : decode cc pc = .ok (.invokevirtual idx, 3)) (kk : ∀ (H1 : Heap) (locs1 : List Loc), LwY K o N st H1 → va_S A0 H0 H1 locs1 → W p l e R s m args below meth c H1 locs1 cells slots Q (F0 m (pc + 3) ls (.int (iI w) :: rest))) : W p l e R s m args below meth c H locs cells slots Q (F0 m pc ls (.int (iI wh) :: .int (iI gd) :: .ref o :: rest)) := by
  obtain ⟨M, R9, G, L, NU, TT, hX, hH, hL, hn, hP⟩ := lwY_ex hW
  refine cI_V T hK hP hS 0 rfl rfl rfl (c_X7_account l K o N M R9 G L NU TT gd wh r_gd r_wh hX.1) iX7_account hm hR hP noA rfl hsz rfl hrm hcs hdg (fun z u H1 locs1 q hP1 h1 h2 h3 => ?_)
  obtain rfl : z = w := q.trans hw
  exact kk H1 locs1 (lwY_mk hX hH hL hn hP1) h3
theorem ly_cents (T : CF p m c cc nL s args own) (hK : xK K s) (hW : LwY K o N st H) (hS : va_S A0 H0 H locs) (hA : ∀ q, Blk o 153 q → A0 q) {wh : Int} (r_wh : rg wh) {w : Int} (hw : qCents N wh = w) {idx : Nat} (hm : Cond.methodLink own idx yX7_cents ∈ xtb) (hR : 2 + 1 ≤ R.frames ∧ 8 + (2 + 11) + 44 ≤ R.locals) (hsz : ls.size = nL) (hrm : (rest.map fun v => v.category).sum ≤ 8) (hcs : cells ≤ R.cells ∧ slots ≤ R.slots) (hdg : decode cc pc = .ok (.invokevirtual idx, 3)) (kk : ∀ (H1 : Heap) (locs1 : List Loc), LwY K o N st H1 → va_S A0 H0 H1 locs1 → W p l e R s m args below meth c H1 locs1 cells slots Q (F0 m (pc + 3) ls (.int (iI w) :: rest))) : W p l e R s m args below meth c H locs cells slots Q (F0 m pc ls (.int (iI wh) :: .ref o :: rest)) := by
  obtain ⟨M, R9, G, L, NU, TT, hX, hH, hL, hn, hP⟩ := lwY_ex hW
  refine cI_V T hK hP hS 0 rfl rfl rfl (c_X7_cents l K o N M R9 G L NU TT wh r_wh hX.1) iX7_cents hm hR hP noA rfl hsz rfl hrm hcs hdg (fun z u H1 locs1 q hP1 h1 h2 h3 => ?_)
  obtain rfl : z = w := q.trans hw
  exact kk H1 locs1 (lwY_mk hX hH hL hn hP1) h3
theorem ly_count (T : CF p m c cc nL s args own) (hK : xK K s) (hW : LwY K o N st H) (hS : va_S A0 H0 H locs) (hA : ∀ q, Blk o 153 q → A0 q) {wh : Int} (r_wh : rg wh) {w : Int} (hw : qCount N (st.length : Int) 0 wh = w) {idx : Nat} (hm : Cond.methodLink own idx yX7_count ∈ xtb) (hR : 1 + 1 ≤ R.frames ∧ 8 + (2 + 11) + 23 ≤ R.locals) (hsz : ls.size = nL) (hrm : (rest.map fun v => v.category).sum ≤ 8) (hcs : cells ≤ R.cells ∧ slots ≤ R.slots) (hdg : decode cc pc = .ok (.invokevirtual idx, 3)) (kk : ∀ (H1 : Heap) (locs1 : List Loc), LwY K o N st H1 → va_S A0 H0 H1 locs1 → W p l e R s m args below meth c H1 locs1 cells slots Q (F0 m (pc + 3) ls (.int (iI w) :: rest))) : W p l e R s m args below meth c H locs cells slots Q (F0 m pc ls (.int (iI wh) :: .ref o :: rest)) := by
  obtain ⟨M, R9, G, L, NU, TT, hX, hH, hL, hn, hP⟩ := lwY_ex hW
  refine cI_V T hK hP hS 0 rfl rfl rfl (c_X7_count l K o N M R9 G L NU TT wh r_wh hX.1) iX7_count hm hR hP noA rfl hsz rfl hrm hcs hdg (fun z u H1 locs1 q hP1 h1 h2 h3 => ?_)
  obtain rfl : z = w := q.trans (by rw [hL, ← hH.2.2.1]; exact hw)
  exact kk H1 locs1 (lwY_mk hX hH hL hn hP1) h3
theorem ly_worth (T : CF p m c cc nL s args own) (hK : xK K s) (hW : LwY K o N st H) (hS : va_S A0 H0 H locs) (hA : ∀ q, Blk o 153 q → A0 q) {gd : Int} {un : Int} (r_gd : rg gd) (r_un : rg un) {w : Int} (hw : qWorth N gd un = w) {idx : Nat} (hm : Cond.methodLink own idx yX7_worth ∈ xtb) (hR : 2 + 1 ≤ R.frames ∧ 8 + (3 + 11) + 58 ≤ R.locals) (hsz : ls.size = nL) (hrm : (rest.map fun v => v.category).sum ≤ 8) (hcs : cells ≤ R.cells ∧ slots ≤ R.slots) (hdg : decode cc pc = .ok (.invokevirtual idx, 3)) (kk : ∀ (H1 : Heap) (locs1 : List Loc), LwY K o N st H1 → va_S A0 H0 H1 locs1 → W p l e R s m args below meth c H1 locs1 cells slots Q (F0 m (pc + 3) ls (.int (iI w) :: rest))) : W p l e R s m args below meth c H locs cells slots Q (F0 m pc ls (.int (iI un) :: .int (iI gd) :: .ref o :: rest)) := by
  obtain ⟨M, R9, G, L, NU, TT, hX, hH, hL, hn, hP⟩ := lwY_ex hW
  refine cI_V T hK hP hS 0 rfl rfl rfl (c_X7_worth l K o N M R9 G L NU TT gd un r_gd r_un hX.1) iX7_worth hm hR hP noA rfl hsz rfl hrm hcs hdg (fun z u H1 locs1 q hP1 h1 h2 h3 => ?_)
  obtain rfl : z = w := q.trans hw
  exact kk H1 locs1 (lwY_mk hX hH hL hn hP1) h3
theorem ly_toPay (T : CF p m c cc nL s args own) (hK : xK K s) (hW : LwY K o N st H) (hS : va_S A0 H0 H locs) (hA : ∀ q, Blk o 153 q → A0 q) {w : Int} (hw : qToPay N = w) {idx : Nat} (hm : Cond.methodLink own idx yX7_toPay ∈ xtb) (hR : 3 + 1 ≤ R.frames ∧ 8 + (1 + 11) + 81 ≤ R.locals) (hsz : ls.size = nL) (hrm : (rest.map fun v => v.category).sum ≤ 8) (hcs : cells ≤ R.cells ∧ slots ≤ R.slots) (hdg : decode cc pc = .ok (.invokevirtual idx, 3)) (kk : ∀ (H1 : Heap) (locs1 : List Loc), LwY K o N st H1 → va_S A0 H0 H1 locs1 → W p l e R s m args below meth c H1 locs1 cells slots Q (F0 m (pc + 3) ls (.int (iI w) :: rest))) : W p l e R s m args below meth c H locs cells slots Q (F0 m pc ls (.ref o :: rest)) := by
  obtain ⟨M, R9, G, L, NU, TT, hX, hH, hL, hn, hP⟩ := lwY_ex hW
  refine cI_V T hK hP hS 0 rfl rfl rfl (c_X7_toPay l K o N M R9 G L NU TT  hX.1) iX7_toPay hm hR hP noA rfl hsz rfl hrm hcs hdg (fun z u H1 locs1 q hP1 h1 h2 h3 => ?_)
  obtain rfl : z = w := q.trans hw
  exact kk H1 locs1 (lwY_mk hX hH hL hn hP1) h3
theorem ly_runsOut (T : CF p m c cc nL s args own) (hK : xK K s) (hW : LwY K o N st H) (hS : va_S A0 H0 H locs) (hA : ∀ q, Blk o 153 q → A0 q) {w : Int} (hw : qRunsOut N = w) {idx : Nat} (hm : Cond.methodLink own idx yX7_runsOut ∈ xtb) (hR : 1 + 1 ≤ R.frames ∧ 8 + (2 + 11) + 29 ≤ R.locals) (hsz : ls.size = nL) (hrm : (rest.map fun v => v.category).sum ≤ 8) (hcs : cells ≤ R.cells ∧ slots ≤ R.slots) (hdg : decode cc pc = .ok (.invokevirtual idx, 3)) (kk : ∀ (H1 : Heap) (locs1 : List Loc), LwY K o N st H1 → va_S A0 H0 H1 locs1 → W p l e R s m args below meth c H1 locs1 cells slots Q (F0 m (pc + 3) ls (.int (iI w) :: rest))) : W p l e R s m args below meth c H locs cells slots Q (F0 m pc ls (.ref o :: rest)) := by
  obtain ⟨M, R9, G, L, NU, TT, hX, hH, hL, hn, hP⟩ := lwY_ex hW
  refine cI_V T hK hP hS 0 rfl rfl rfl (c_X7_runsOut l K o N M R9 G L NU TT  hX.1) iX7_runsOut hm hR hP noA rfl hsz rfl hrm hcs hdg (fun z u H1 locs1 q hP1 h1 h2 h3 => ?_)
  obtain rfl : z = w := q.trans hw
  exact kk H1 locs1 (lwY_mk hX hH hL hn hP1) h3
theorem ly_locker (T : CF p m c cc nL s args own) (hK : xK K s) (hW : LwY K o N st H) (hS : va_S A0 H0 H locs) (hA : ∀ q, Blk o 153 q → A0 q) {z : Int} {N2 : Int → Int} (hz : sLocker N = (z, N2)) {idx : Nat} (hm : Cond.methodLink own idx yX7_locker ∈ xtb) (hR : 4 + 1 ≤ R.frames ∧ 8 + (1 + 11) + 103 ≤ R.locals) (hsz : ls.size = nL) (hrm : (rest.map fun v => v.category).sum ≤ 8) (hcs : cells ≤ R.cells ∧ slots ≤ R.slots) (hdg : decode cc pc = .ok (.invokevirtual idx, 3)) (kk : ∀ (H1 : Heap) (locs1 : List Loc), LwY K o N2 (chS N st z) H1 → va_S A0 H0 H1 locs1 → W p l e R s m args below meth c H1 locs1 cells slots Q (F0 m (pc + 3) ls (.int (iI z) :: rest))) : W p l e R s m args below meth c H locs cells slots Q (F0 m pc ls (.ref o :: rest)) := by
  obtain ⟨M, R9, G, L, NU, TT, hX, hH, hL, hn, hP⟩ := lwY_ex hW
  refine cI_V T hK hP hS 0 rfl rfl rfl (c_X7_locker l K o N M R9 G L NU TT  hX.1 ⟨hH.1, hH.2.1⟩) iX7_locker hm hR hP hA rfl hsz rfl hrm hcs hdg (fun z1 u H1 locs1 q hP1 h1 h2 h3 => ?_)
  obtain ⟨n1, t1, g1⟩ := u
  obtain ⟨qa, qb, qc⟩ := q
  dsimp only at qa qb qc hP1
  subst qb
  subst qc
  have e0 := qa.trans hz
  obtain rfl : z1 = z := congrArg Prod.fst e0
  obtain rfl : n1 = N2 := congrArg Prod.snd e0
  have hX2 : InX n1 := by
    have h9 := sLocker_X hX
    rw [hz] at h9
    exact h9
  exact kk H1 locs1 (lwY_mk hX2 (his_put hH hX z1) hL hn hP1) h3
theorem lr_locker (T : CF p m c cc nL s args own) (hK : xK K s) (hW : LwY K o N st H) (hS : va_S A0 H0 H locs) (hA : ∀ q, Blk o 153 q → A0 q) {z : Int} (hz : sLocker N = (z, N)) (h0 : -2147483648 ≤ z ∧ z < 0) {idx : Nat} (hm : Cond.methodLink own idx yX7_locker ∈ xtb) (hR : 4 + 1 ≤ R.frames ∧ 8 + (1 + 11) + 103 ≤ R.locals) (hsz : ls.size = nL) (hrm : (rest.map fun v => v.category).sum ≤ 8) (hcs : cells ≤ R.cells ∧ slots ≤ R.slots) (hdg : decode cc pc = .ok (.invokevirtual idx, 3)) (kk : ∀ (H1 : Heap) (locs1 : List Loc), LwY K o N st H1 → va_S A0 H0 H1 locs1 → W p l e R s m args below meth c H1 locs1 cells slots Q (F0 m (pc + 3) ls (.int (iI z) :: rest))) : W p l e R s m args below meth c H locs cells slots Q (F0 m pc ls (.ref o :: rest)) := ly_locker T hK hW hS hA  hz hm hR hsz hrm hcs hdg (fun H1 locs1 hW1 hS1 => kk H1 locs1 (by rw [chS_neg h0] at hW1; exact hW1) hS1)
theorem ly_good (T : CF p m c cc nL s args own) (hK : xK K s) (hW : LwY K o N st H) (hS : va_S A0 H0 H locs) (hA : ∀ q, Blk o 153 q → A0 q) {dt : Int} (r_dt : rg dt) {z : Int} {N2 : Int → Int} (hz : sGood N dt = (z, N2)) {idx : Nat} (hm : Cond.methodLink own idx yX7_good ∈ xtb) (hR : 4 + 1 ≤ R.frames ∧ 8 + (2 + 11) + 103 ≤ R.locals) (hsz : ls.size = nL) (hrm : (rest.map fun v => v.category).sum ≤ 8) (hcs : cells ≤ R.cells ∧ slots ≤ R.slots) (hdg : decode cc pc = .ok (.invokevirtual idx, 3)) (kk : ∀ (H1 : Heap) (locs1 : List Loc), LwY K o N2 (chS N st z) H1 → va_S A0 H0 H1 locs1 → W p l e R s m args below meth c H1 locs1 cells slots Q (F0 m (pc + 3) ls (.int (iI z) :: rest))) : W p l e R s m args below meth c H locs cells slots Q (F0 m pc ls (.int (iI dt) :: .ref o :: rest)) := by
  obtain ⟨M, R9, G, L, NU, TT, hX, hH, hL, hn, hP⟩ := lwY_ex hW
  refine cI_V T hK hP hS 0 rfl rfl rfl (c_X7_good l K o N M R9 G L NU TT dt r_dt hX.1 ⟨hH.1, hH.2.1⟩) iX7_good hm hR hP hA rfl hsz rfl hrm hcs hdg (fun z1 u H1 locs1 q hP1 h1 h2 h3 => ?_)
  obtain ⟨n1, t1, g1⟩ := u
  obtain ⟨qa, qb, qc⟩ := q
  dsimp only at qa qb qc hP1
  subst qb
  subst qc
  have e0 := qa.trans hz
  obtain rfl : z1 = z := congrArg Prod.fst e0
  obtain rfl : n1 = N2 := congrArg Prod.snd e0
  have hX2 : InX n1 := by
    have h9 := sGood_X hX dt
    rw [hz] at h9
    exact h9
  exact kk H1 locs1 (lwY_mk hX2 (his_put hH hX z1) hL hn hP1) h3
theorem lr_good (T : CF p m c cc nL s args own) (hK : xK K s) (hW : LwY K o N st H) (hS : va_S A0 H0 H locs) (hA : ∀ q, Blk o 153 q → A0 q) {dt : Int} (r_dt : rg dt) {z : Int} (hz : sGood N dt = (z, N)) (h0 : -2147483648 ≤ z ∧ z < 0) {idx : Nat} (hm : Cond.methodLink own idx yX7_good ∈ xtb) (hR : 4 + 1 ≤ R.frames ∧ 8 + (2 + 11) + 103 ≤ R.locals) (hsz : ls.size = nL) (hrm : (rest.map fun v => v.category).sum ≤ 8) (hcs : cells ≤ R.cells ∧ slots ≤ R.slots) (hdg : decode cc pc = .ok (.invokevirtual idx, 3)) (kk : ∀ (H1 : Heap) (locs1 : List Loc), LwY K o N st H1 → va_S A0 H0 H1 locs1 → W p l e R s m args below meth c H1 locs1 cells slots Q (F0 m (pc + 3) ls (.int (iI z) :: rest))) : W p l e R s m args below meth c H locs cells slots Q (F0 m pc ls (.int (iI dt) :: .ref o :: rest)) := ly_good T hK hW hS hA r_dt hz hm hR hsz hrm hcs hdg (fun H1 locs1 hW1 hS1 => kk H1 locs1 (by rw [chS_neg h0] at hW1; exact hW1) hS1)
theorem ly_duty (T : CF p m c cc nL s args own) (hK : xK K s) (hW : LwY K o N st H) (hS : va_S A0 H0 H locs) (hA : ∀ q, Blk o 153 q → A0 q) {gd : Int} {dt : Int} (r_gd : rg gd) (r_dt : rg dt) {z : Int} {N2 : Int → Int} (hz : sDuty N gd dt = (z, N2)) {idx : Nat} (hm : Cond.methodLink own idx yX7_duty ∈ xtb) (hR : 4 + 1 ≤ R.frames ∧ 8 + (3 + 11) + 103 ≤ R.locals) (hsz : ls.size = nL) (hrm : (rest.map fun v => v.category).sum ≤ 8) (hcs : cells ≤ R.cells ∧ slots ≤ R.slots) (hdg : decode cc pc = .ok (.invokevirtual idx, 3)) (kk : ∀ (H1 : Heap) (locs1 : List Loc), LwY K o N2 (chS N st z) H1 → va_S A0 H0 H1 locs1 → W p l e R s m args below meth c H1 locs1 cells slots Q (F0 m (pc + 3) ls (.int (iI z) :: rest))) : W p l e R s m args below meth c H locs cells slots Q (F0 m pc ls (.int (iI dt) :: .int (iI gd) :: .ref o :: rest)) := by
  obtain ⟨M, R9, G, L, NU, TT, hX, hH, hL, hn, hP⟩ := lwY_ex hW
  refine cI_V T hK hP hS 0 rfl rfl rfl (c_X7_duty l K o N M R9 G L NU TT gd dt r_gd r_dt hX.1 ⟨hH.1, hH.2.1⟩) iX7_duty hm hR hP hA rfl hsz rfl hrm hcs hdg (fun z1 u H1 locs1 q hP1 h1 h2 h3 => ?_)
  obtain ⟨n1, t1, g1⟩ := u
  obtain ⟨qa, qb, qc⟩ := q
  dsimp only at qa qb qc hP1
  subst qb
  subst qc
  have e0 := qa.trans hz
  obtain rfl : z1 = z := congrArg Prod.fst e0
  obtain rfl : n1 = N2 := congrArg Prod.snd e0
  have hX2 : InX n1 := by
    have h9 := sDuty_X hX gd dt
    rw [hz] at h9
    exact h9
  exact kk H1 locs1 (lwY_mk hX2 (his_put hH hX z1) hL hn hP1) h3
theorem lr_duty (T : CF p m c cc nL s args own) (hK : xK K s) (hW : LwY K o N st H) (hS : va_S A0 H0 H locs) (hA : ∀ q, Blk o 153 q → A0 q) {gd : Int} {dt : Int} (r_gd : rg gd) (r_dt : rg dt) {z : Int} (hz : sDuty N gd dt = (z, N)) (h0 : -2147483648 ≤ z ∧ z < 0) {idx : Nat} (hm : Cond.methodLink own idx yX7_duty ∈ xtb) (hR : 4 + 1 ≤ R.frames ∧ 8 + (3 + 11) + 103 ≤ R.locals) (hsz : ls.size = nL) (hrm : (rest.map fun v => v.category).sum ≤ 8) (hcs : cells ≤ R.cells ∧ slots ≤ R.slots) (hdg : decode cc pc = .ok (.invokevirtual idx, 3)) (kk : ∀ (H1 : Heap) (locs1 : List Loc), LwY K o N st H1 → va_S A0 H0 H1 locs1 → W p l e R s m args below meth c H1 locs1 cells slots Q (F0 m (pc + 3) ls (.int (iI z) :: rest))) : W p l e R s m args below meth c H locs cells slots Q (F0 m pc ls (.int (iI dt) :: .int (iI gd) :: .ref o :: rest)) := ly_duty T hK hW hS hA r_gd r_dt hz hm hR hsz hrm hcs hdg (fun H1 locs1 hW1 hS1 => kk H1 locs1 (by rw [chS_neg h0] at hW1; exact hW1) hS1)
theorem ly_load (T : CF p m c cc nL s args own) (hK : xK K s) (hW : LwY K o N st H) (hS : va_S A0 H0 H locs) (hA : ∀ q, Blk o 153 q → A0 q) {lk : Int} {gd : Int} {un : Int} (r_lk : rg lk) (r_gd : rg gd) (r_un : rg un) {z : Int} {N2 : Int → Int} (hz : sLoad N lk gd un = (z, N2)) {idx : Nat} (hm : Cond.methodLink own idx yX7_load ∈ xtb) (hR : 4 + 1 ≤ R.frames ∧ 8 + (4 + 11) + 103 ≤ R.locals) (hsz : ls.size = nL) (hrm : (rest.map fun v => v.category).sum ≤ 8) (hcs : cells ≤ R.cells ∧ slots ≤ R.slots) (hdg : decode cc pc = .ok (.invokevirtual idx, 3)) (kk : ∀ (H1 : Heap) (locs1 : List Loc), LwY K o N2 (chS N st z) H1 → va_S A0 H0 H1 locs1 → W p l e R s m args below meth c H1 locs1 cells slots Q (F0 m (pc + 3) ls (.int (iI z) :: rest))) : W p l e R s m args below meth c H locs cells slots Q (F0 m pc ls (.int (iI un) :: .int (iI gd) :: .int (iI lk) :: .ref o :: rest)) := by
  obtain ⟨M, R9, G, L, NU, TT, hX, hH, hL, hn, hP⟩ := lwY_ex hW
  refine cI_V T hK hP hS 0 rfl rfl rfl (c_X7_load l K o N M R9 G L NU TT lk gd un r_lk r_gd r_un hX.1 ⟨hH.1, hH.2.1⟩) iX7_load hm hR hP hA rfl hsz rfl hrm hcs hdg (fun z1 u H1 locs1 q hP1 h1 h2 h3 => ?_)
  obtain ⟨n1, t1, g1⟩ := u
  obtain ⟨qa, qb, qc⟩ := q
  dsimp only at qa qb qc hP1
  subst qb
  subst qc
  have e0 := qa.trans hz
  obtain rfl : z1 = z := congrArg Prod.fst e0
  obtain rfl : n1 = N2 := congrArg Prod.snd e0
  have hX2 : InX n1 := by
    have h9 := sLoad_X hX lk gd un
    rw [hz] at h9
    exact h9
  exact kk H1 locs1 (lwY_mk hX2 (his_put hH hX z1) hL hn hP1) h3
theorem lr_load (T : CF p m c cc nL s args own) (hK : xK K s) (hW : LwY K o N st H) (hS : va_S A0 H0 H locs) (hA : ∀ q, Blk o 153 q → A0 q) {lk : Int} {gd : Int} {un : Int} (r_lk : rg lk) (r_gd : rg gd) (r_un : rg un) {z : Int} (hz : sLoad N lk gd un = (z, N)) (h0 : -2147483648 ≤ z ∧ z < 0) {idx : Nat} (hm : Cond.methodLink own idx yX7_load ∈ xtb) (hR : 4 + 1 ≤ R.frames ∧ 8 + (4 + 11) + 103 ≤ R.locals) (hsz : ls.size = nL) (hrm : (rest.map fun v => v.category).sum ≤ 8) (hcs : cells ≤ R.cells ∧ slots ≤ R.slots) (hdg : decode cc pc = .ok (.invokevirtual idx, 3)) (kk : ∀ (H1 : Heap) (locs1 : List Loc), LwY K o N st H1 → va_S A0 H0 H1 locs1 → W p l e R s m args below meth c H1 locs1 cells slots Q (F0 m (pc + 3) ls (.int (iI z) :: rest))) : W p l e R s m args below meth c H locs cells slots Q (F0 m pc ls (.int (iI un) :: .int (iI gd) :: .int (iI lk) :: .ref o :: rest)) := ly_load T hK hW hS hA r_lk r_gd r_un hz hm hR hsz hrm hcs hdg (fun H1 locs1 hW1 hS1 => kk H1 locs1 (by rw [chS_neg h0] at hW1; exact hW1) hS1)
theorem ly_use (T : CF p m c cc nL s args own) (hK : xK K s) (hW : LwY K o N st H) (hS : va_S A0 H0 H locs) (hA : ∀ q, Blk o 153 q → A0 q) {lk : Int} {gd : Int} {un : Int} (r_lk : rg lk) (r_gd : rg gd) (r_un : rg un) {z : Int} {N2 : Int → Int} (hz : sUse N lk gd un = (z, N2)) {idx : Nat} (hm : Cond.methodLink own idx yX7_use ∈ xtb) (hR : 4 + 1 ≤ R.frames ∧ 8 + (4 + 11) + 107 ≤ R.locals) (hsz : ls.size = nL) (hrm : (rest.map fun v => v.category).sum ≤ 8) (hcs : cells ≤ R.cells ∧ slots ≤ R.slots) (hdg : decode cc pc = .ok (.invokevirtual idx, 3)) (kk : ∀ (H1 : Heap) (locs1 : List Loc), LwY K o N2 (chS N st z) H1 → va_S A0 H0 H1 locs1 → W p l e R s m args below meth c H1 locs1 cells slots Q (F0 m (pc + 3) ls (.int (iI z) :: rest))) : W p l e R s m args below meth c H locs cells slots Q (F0 m pc ls (.int (iI un) :: .int (iI gd) :: .int (iI lk) :: .ref o :: rest)) := by
  obtain ⟨M, R9, G, L, NU, TT, hX, hH, hL, hn, hP⟩ := lwY_ex hW
  refine cI_V T hK hP hS 0 rfl rfl rfl (c_X7_use l K o N M R9 G L NU TT lk gd un r_lk r_gd r_un hX.1 ⟨hH.1, hH.2.1⟩) iX7_use hm hR hP hA rfl hsz rfl hrm hcs hdg (fun z1 u H1 locs1 q hP1 h1 h2 h3 => ?_)
  obtain ⟨n1, t1, g1⟩ := u
  obtain ⟨qa, qb, qc⟩ := q
  dsimp only at qa qb qc hP1
  subst qb
  subst qc
  have e0 := qa.trans hz
  obtain rfl : z1 = z := congrArg Prod.fst e0
  obtain rfl : n1 = N2 := congrArg Prod.snd e0
  have hX2 : InX n1 := by
    have h9 := sUse_X hX lk gd un
    rw [hz] at h9
    exact h9
  exact kk H1 locs1 (lwY_mk hX2 (his_put hH hX z1) hL hn hP1) h3
theorem lr_use (T : CF p m c cc nL s args own) (hK : xK K s) (hW : LwY K o N st H) (hS : va_S A0 H0 H locs) (hA : ∀ q, Blk o 153 q → A0 q) {lk : Int} {gd : Int} {un : Int} (r_lk : rg lk) (r_gd : rg gd) (r_un : rg un) {z : Int} (hz : sUse N lk gd un = (z, N)) (h0 : -2147483648 ≤ z ∧ z < 0) {idx : Nat} (hm : Cond.methodLink own idx yX7_use ∈ xtb) (hR : 4 + 1 ≤ R.frames ∧ 8 + (4 + 11) + 107 ≤ R.locals) (hsz : ls.size = nL) (hrm : (rest.map fun v => v.category).sum ≤ 8) (hcs : cells ≤ R.cells ∧ slots ≤ R.slots) (hdg : decode cc pc = .ok (.invokevirtual idx, 3)) (kk : ∀ (H1 : Heap) (locs1 : List Loc), LwY K o N st H1 → va_S A0 H0 H1 locs1 → W p l e R s m args below meth c H1 locs1 cells slots Q (F0 m (pc + 3) ls (.int (iI z) :: rest))) : W p l e R s m args below meth c H locs cells slots Q (F0 m pc ls (.int (iI un) :: .int (iI gd) :: .int (iI lk) :: .ref o :: rest)) := ly_use T hK hW hS hA r_lk r_gd r_un hz hm hR hsz hrm hcs hdg (fun H1 locs1 hW1 hS1 => kk H1 locs1 (by rw [chS_neg h0] at hW1; exact hW1) hS1)
theorem ly_bring (T : CF p m c cc nL s args own) (hK : xK K s) (hW : LwY K o N st H) (hS : va_S A0 H0 H locs) (hA : ∀ q, Blk o 153 q → A0 q) {lk : Int} {gd : Int} {un : Int} (r_lk : rg lk) (r_gd : rg gd) (r_un : rg un) {z : Int} {N2 : Int → Int} (hz : sBring N lk gd un = (z, N2)) {idx : Nat} (hm : Cond.methodLink own idx yX7_bring ∈ xtb) (hR : 4 + 1 ≤ R.frames ∧ 8 + (4 + 11) + 107 ≤ R.locals) (hsz : ls.size = nL) (hrm : (rest.map fun v => v.category).sum ≤ 8) (hcs : cells ≤ R.cells ∧ slots ≤ R.slots) (hdg : decode cc pc = .ok (.invokevirtual idx, 3)) (kk : ∀ (H1 : Heap) (locs1 : List Loc), LwY K o N2 (chS N st z) H1 → va_S A0 H0 H1 locs1 → W p l e R s m args below meth c H1 locs1 cells slots Q (F0 m (pc + 3) ls (.int (iI z) :: rest))) : W p l e R s m args below meth c H locs cells slots Q (F0 m pc ls (.int (iI un) :: .int (iI gd) :: .int (iI lk) :: .ref o :: rest)) := by
  obtain ⟨M, R9, G, L, NU, TT, hX, hH, hL, hn, hP⟩ := lwY_ex hW
  refine cI_V T hK hP hS 0 rfl rfl rfl (c_X7_bring l K o N M R9 G L NU TT lk gd un r_lk r_gd r_un hX.1 ⟨hH.1, hH.2.1⟩) iX7_bring hm hR hP hA rfl hsz rfl hrm hcs hdg (fun z1 u H1 locs1 q hP1 h1 h2 h3 => ?_)
  obtain ⟨n1, t1, g1⟩ := u
  obtain ⟨qa, qb, qc⟩ := q
  dsimp only at qa qb qc hP1
  subst qb
  subst qc
  have e0 := qa.trans hz
  obtain rfl : z1 = z := congrArg Prod.fst e0
  obtain rfl : n1 = N2 := congrArg Prod.snd e0
  have hX2 : InX n1 := by
    have h9 := sBring_X hX lk gd un
    rw [hz] at h9
    exact h9
  exact kk H1 locs1 (lwY_mk hX2 (his_put hH hX z1) hL hn hP1) h3
theorem lr_bring (T : CF p m c cc nL s args own) (hK : xK K s) (hW : LwY K o N st H) (hS : va_S A0 H0 H locs) (hA : ∀ q, Blk o 153 q → A0 q) {lk : Int} {gd : Int} {un : Int} (r_lk : rg lk) (r_gd : rg gd) (r_un : rg un) {z : Int} (hz : sBring N lk gd un = (z, N)) (h0 : -2147483648 ≤ z ∧ z < 0) {idx : Nat} (hm : Cond.methodLink own idx yX7_bring ∈ xtb) (hR : 4 + 1 ≤ R.frames ∧ 8 + (4 + 11) + 107 ≤ R.locals) (hsz : ls.size = nL) (hrm : (rest.map fun v => v.category).sum ≤ 8) (hcs : cells ≤ R.cells ∧ slots ≤ R.slots) (hdg : decode cc pc = .ok (.invokevirtual idx, 3)) (kk : ∀ (H1 : Heap) (locs1 : List Loc), LwY K o N st H1 → va_S A0 H0 H1 locs1 → W p l e R s m args below meth c H1 locs1 cells slots Q (F0 m (pc + 3) ls (.int (iI z) :: rest))) : W p l e R s m args below meth c H locs cells slots Q (F0 m pc ls (.int (iI un) :: .int (iI gd) :: .int (iI lk) :: .ref o :: rest)) := ly_bring T hK hW hS hA r_lk r_gd r_un hz hm hR hsz hrm hcs hdg (fun H1 locs1 hW1 hS1 => kk H1 locs1 (by rw [chS_neg h0] at hW1; exact hW1) hS1)
theorem ly_smash (T : CF p m c cc nL s args own) (hK : xK K s) (hW : LwY K o N st H) (hS : va_S A0 H0 H locs) (hA : ∀ q, Blk o 153 q → A0 q) {lk : Int} {gd : Int} {un : Int} {wt : Int} (r_lk : rg lk) (r_gd : rg gd) (r_un : rg un) (r_wt : rg wt) {z : Int} {N2 : Int → Int} (hz : sSmash N lk gd un wt = (z, N2)) {idx : Nat} (hm : Cond.methodLink own idx yX7_smash ∈ xtb) (hR : 4 + 1 ≤ R.frames ∧ 8 + (5 + 11) + 108 ≤ R.locals) (hsz : ls.size = nL) (hrm : (rest.map fun v => v.category).sum ≤ 8) (hcs : cells ≤ R.cells ∧ slots ≤ R.slots) (hdg : decode cc pc = .ok (.invokevirtual idx, 3)) (kk : ∀ (H1 : Heap) (locs1 : List Loc), LwY K o N2 (chS N st z) H1 → va_S A0 H0 H1 locs1 → W p l e R s m args below meth c H1 locs1 cells slots Q (F0 m (pc + 3) ls (.int (iI z) :: rest))) : W p l e R s m args below meth c H locs cells slots Q (F0 m pc ls (.int (iI wt) :: .int (iI un) :: .int (iI gd) :: .int (iI lk) :: .ref o :: rest)) := by
  obtain ⟨M, R9, G, L, NU, TT, hX, hH, hL, hn, hP⟩ := lwY_ex hW
  refine cI_V T hK hP hS 0 rfl rfl rfl (c_X7_smash l K o N M R9 G L NU TT lk gd un wt r_lk r_gd r_un r_wt hX.1 ⟨hH.1, hH.2.1⟩) iX7_smash hm hR hP hA rfl hsz rfl hrm hcs hdg (fun z1 u H1 locs1 q hP1 h1 h2 h3 => ?_)
  obtain ⟨n1, t1, g1⟩ := u
  obtain ⟨qa, qb, qc⟩ := q
  dsimp only at qa qb qc hP1
  subst qb
  subst qc
  have e0 := qa.trans hz
  obtain rfl : z1 = z := congrArg Prod.fst e0
  obtain rfl : n1 = N2 := congrArg Prod.snd e0
  have hX2 : InX n1 := by
    have h9 := sSmash_X hX lk gd un wt
    rw [hz] at h9
    exact h9
  exact kk H1 locs1 (lwY_mk hX2 (his_put hH hX z1) hL hn hP1) h3
theorem lr_smash (T : CF p m c cc nL s args own) (hK : xK K s) (hW : LwY K o N st H) (hS : va_S A0 H0 H locs) (hA : ∀ q, Blk o 153 q → A0 q) {lk : Int} {gd : Int} {un : Int} {wt : Int} (r_lk : rg lk) (r_gd : rg gd) (r_un : rg un) (r_wt : rg wt) {z : Int} (hz : sSmash N lk gd un wt = (z, N)) (h0 : -2147483648 ≤ z ∧ z < 0) {idx : Nat} (hm : Cond.methodLink own idx yX7_smash ∈ xtb) (hR : 4 + 1 ≤ R.frames ∧ 8 + (5 + 11) + 108 ≤ R.locals) (hsz : ls.size = nL) (hrm : (rest.map fun v => v.category).sum ≤ 8) (hcs : cells ≤ R.cells ∧ slots ≤ R.slots) (hdg : decode cc pc = .ok (.invokevirtual idx, 3)) (kk : ∀ (H1 : Heap) (locs1 : List Loc), LwY K o N st H1 → va_S A0 H0 H1 locs1 → W p l e R s m args below meth c H1 locs1 cells slots Q (F0 m (pc + 3) ls (.int (iI z) :: rest))) : W p l e R s m args below meth c H locs cells slots Q (F0 m pc ls (.int (iI wt) :: .int (iI un) :: .int (iI gd) :: .int (iI lk) :: .ref o :: rest)) := ly_smash T hK hW hS hA r_lk r_gd r_un r_wt hz hm hR hsz hrm hcs hdg (fun H1 locs1 hW1 hS1 => kk H1 locs1 (by rw [chS_neg h0] at hW1; exact hW1) hS1)
theorem ly_tear (T : CF p m c cc nL s args own) (hK : xK K s) (hW : LwY K o N st H) (hS : va_S A0 H0 H locs) (hA : ∀ q, Blk o 153 q → A0 q) {lk : Int} (r_lk : rg lk) {z : Int} {N2 : Int → Int} (hz : sTear N lk = (z, N2)) {idx : Nat} (hm : Cond.methodLink own idx yX7_tear ∈ xtb) (hR : 4 + 1 ≤ R.frames ∧ 8 + (2 + 11) + 103 ≤ R.locals) (hsz : ls.size = nL) (hrm : (rest.map fun v => v.category).sum ≤ 8) (hcs : cells ≤ R.cells ∧ slots ≤ R.slots) (hdg : decode cc pc = .ok (.invokevirtual idx, 3)) (kk : ∀ (H1 : Heap) (locs1 : List Loc), LwY K o N2 (chS N st z) H1 → va_S A0 H0 H1 locs1 → W p l e R s m args below meth c H1 locs1 cells slots Q (F0 m (pc + 3) ls (.int (iI z) :: rest))) : W p l e R s m args below meth c H locs cells slots Q (F0 m pc ls (.int (iI lk) :: .ref o :: rest)) := by
  obtain ⟨M, R9, G, L, NU, TT, hX, hH, hL, hn, hP⟩ := lwY_ex hW
  refine cI_V T hK hP hS 0 rfl rfl rfl (c_X7_tear l K o N M R9 G L NU TT lk r_lk hX.1 ⟨hH.1, hH.2.1⟩) iX7_tear hm hR hP hA rfl hsz rfl hrm hcs hdg (fun z1 u H1 locs1 q hP1 h1 h2 h3 => ?_)
  obtain ⟨n1, t1, g1⟩ := u
  obtain ⟨qa, qb, qc⟩ := q
  dsimp only at qa qb qc hP1
  subst qb
  subst qc
  have e0 := qa.trans hz
  obtain rfl : z1 = z := congrArg Prod.fst e0
  obtain rfl : n1 = N2 := congrArg Prod.snd e0
  have hX2 : InX n1 := by
    have h9 := sTear_X hX lk
    rw [hz] at h9
    exact h9
  exact kk H1 locs1 (lwY_mk hX2 (his_put hH hX z1) hL hn hP1) h3
theorem lr_tear (T : CF p m c cc nL s args own) (hK : xK K s) (hW : LwY K o N st H) (hS : va_S A0 H0 H locs) (hA : ∀ q, Blk o 153 q → A0 q) {lk : Int} (r_lk : rg lk) {z : Int} (hz : sTear N lk = (z, N)) (h0 : -2147483648 ≤ z ∧ z < 0) {idx : Nat} (hm : Cond.methodLink own idx yX7_tear ∈ xtb) (hR : 4 + 1 ≤ R.frames ∧ 8 + (2 + 11) + 103 ≤ R.locals) (hsz : ls.size = nL) (hrm : (rest.map fun v => v.category).sum ≤ 8) (hcs : cells ≤ R.cells ∧ slots ≤ R.slots) (hdg : decode cc pc = .ok (.invokevirtual idx, 3)) (kk : ∀ (H1 : Heap) (locs1 : List Loc), LwY K o N st H1 → va_S A0 H0 H1 locs1 → W p l e R s m args below meth c H1 locs1 cells slots Q (F0 m (pc + 3) ls (.int (iI z) :: rest))) : W p l e R s m args below meth c H locs cells slots Q (F0 m pc ls (.int (iI lk) :: .ref o :: rest)) := ly_tear T hK hW hS hA r_lk hz hm hR hsz hrm hcs hdg (fun H1 locs1 hW1 hS1 => kk H1 locs1 (by rw [chS_neg h0] at hW1; exact hW1) hS1)
theorem ly_inspect (T : CF p m c cc nL s args own) (hK : xK K s) (hW : LwY K o N st H) (hS : va_S A0 H0 H locs) (hA : ∀ q, Blk o 153 q → A0 q) {lk : Int} (r_lk : rg lk) {z : Int} {N2 : Int → Int} (hz : sInspect N lk = (z, N2)) {idx : Nat} (hm : Cond.methodLink own idx yX7_inspect ∈ xtb) (hR : 4 + 1 ≤ R.frames ∧ 8 + (2 + 11) + 109 ≤ R.locals) (hsz : ls.size = nL) (hrm : (rest.map fun v => v.category).sum ≤ 8) (hcs : cells ≤ R.cells ∧ slots ≤ R.slots) (hdg : decode cc pc = .ok (.invokevirtual idx, 3)) (kk : ∀ (H1 : Heap) (locs1 : List Loc), LwY K o N2 (chS N st z) H1 → va_S A0 H0 H1 locs1 → W p l e R s m args below meth c H1 locs1 cells slots Q (F0 m (pc + 3) ls (.int (iI z) :: rest))) : W p l e R s m args below meth c H locs cells slots Q (F0 m pc ls (.int (iI lk) :: .ref o :: rest)) := by
  obtain ⟨M, R9, G, L, NU, TT, hX, hH, hL, hn, hP⟩ := lwY_ex hW
  refine cI_V T hK hP hS 0 rfl rfl rfl (c_X7_inspect l K o N M R9 G L NU TT lk r_lk hX.1 ⟨hH.1, hH.2.1⟩) iX7_inspect hm hR hP hA rfl hsz rfl hrm hcs hdg (fun z1 u H1 locs1 q hP1 h1 h2 h3 => ?_)
  obtain ⟨n1, t1, g1⟩ := u
  obtain ⟨qa, qb, qc⟩ := q
  dsimp only at qa qb qc hP1
  subst qb
  subst qc
  have e0 := qa.trans hz
  obtain rfl : z1 = z := congrArg Prod.fst e0
  obtain rfl : n1 = N2 := congrArg Prod.snd e0
  have hX2 : InX n1 := by
    have h9 := sInspect_X hX lk
    rw [hz] at h9
    exact h9
  exact kk H1 locs1 (lwY_mk hX2 (his_put hH hX z1) hL hn hP1) h3
theorem lr_inspect (T : CF p m c cc nL s args own) (hK : xK K s) (hW : LwY K o N st H) (hS : va_S A0 H0 H locs) (hA : ∀ q, Blk o 153 q → A0 q) {lk : Int} (r_lk : rg lk) {z : Int} (hz : sInspect N lk = (z, N)) (h0 : -2147483648 ≤ z ∧ z < 0) {idx : Nat} (hm : Cond.methodLink own idx yX7_inspect ∈ xtb) (hR : 4 + 1 ≤ R.frames ∧ 8 + (2 + 11) + 109 ≤ R.locals) (hsz : ls.size = nL) (hrm : (rest.map fun v => v.category).sum ≤ 8) (hcs : cells ≤ R.cells ∧ slots ≤ R.slots) (hdg : decode cc pc = .ok (.invokevirtual idx, 3)) (kk : ∀ (H1 : Heap) (locs1 : List Loc), LwY K o N st H1 → va_S A0 H0 H1 locs1 → W p l e R s m args below meth c H1 locs1 cells slots Q (F0 m (pc + 3) ls (.int (iI z) :: rest))) : W p l e R s m args below meth c H locs cells slots Q (F0 m pc ls (.int (iI lk) :: .ref o :: rest)) := ly_inspect T hK hW hS hA r_lk hz hm hR hsz hrm hcs hdg (fun H1 locs1 hW1 hS1 => kk H1 locs1 (by rw [chS_neg h0] at hW1; exact hW1) hS1)
theorem ly_cross (T : CF p m c cc nL s args own) (hK : xK K s) (hW : LwY K o N st H) (hS : va_S A0 H0 H locs) (hA : ∀ q, Blk o 153 q → A0 q) {zn : Int} (r_zn : rg zn) {z : Int} {N2 : Int → Int} (hz : sCross N zn = (z, N2)) {idx : Nat} (hm : Cond.methodLink own idx yX7_cross ∈ xtb) (hR : 4 + 1 ≤ R.frames ∧ 8 + (2 + 11) + 103 ≤ R.locals) (hsz : ls.size = nL) (hrm : (rest.map fun v => v.category).sum ≤ 8) (hcs : cells ≤ R.cells ∧ slots ≤ R.slots) (hdg : decode cc pc = .ok (.invokevirtual idx, 3)) (kk : ∀ (H1 : Heap) (locs1 : List Loc), LwY K o N2 (chS N st z) H1 → va_S A0 H0 H1 locs1 → W p l e R s m args below meth c H1 locs1 cells slots Q (F0 m (pc + 3) ls (.int (iI z) :: rest))) : W p l e R s m args below meth c H locs cells slots Q (F0 m pc ls (.int (iI zn) :: .ref o :: rest)) := by
  obtain ⟨M, R9, G, L, NU, TT, hX, hH, hL, hn, hP⟩ := lwY_ex hW
  refine cI_V T hK hP hS 0 rfl rfl rfl (c_X7_cross l K o N M R9 G L NU TT zn r_zn hX.1 ⟨hH.1, hH.2.1⟩) iX7_cross hm hR hP hA rfl hsz rfl hrm hcs hdg (fun z1 u H1 locs1 q hP1 h1 h2 h3 => ?_)
  obtain ⟨n1, t1, g1⟩ := u
  obtain ⟨qa, qb, qc⟩ := q
  dsimp only at qa qb qc hP1
  subst qb
  subst qc
  have e0 := qa.trans hz
  obtain rfl : z1 = z := congrArg Prod.fst e0
  obtain rfl : n1 = N2 := congrArg Prod.snd e0
  have hX2 : InX n1 := by
    have h9 := sCross_X hX zn
    rw [hz] at h9
    exact h9
  exact kk H1 locs1 (lwY_mk hX2 (his_put hH hX z1) hL hn hP1) h3
theorem lr_cross (T : CF p m c cc nL s args own) (hK : xK K s) (hW : LwY K o N st H) (hS : va_S A0 H0 H locs) (hA : ∀ q, Blk o 153 q → A0 q) {zn : Int} (r_zn : rg zn) {z : Int} (hz : sCross N zn = (z, N)) (h0 : -2147483648 ≤ z ∧ z < 0) {idx : Nat} (hm : Cond.methodLink own idx yX7_cross ∈ xtb) (hR : 4 + 1 ≤ R.frames ∧ 8 + (2 + 11) + 103 ≤ R.locals) (hsz : ls.size = nL) (hrm : (rest.map fun v => v.category).sum ≤ 8) (hcs : cells ≤ R.cells ∧ slots ≤ R.slots) (hdg : decode cc pc = .ok (.invokevirtual idx, 3)) (kk : ∀ (H1 : Heap) (locs1 : List Loc), LwY K o N st H1 → va_S A0 H0 H1 locs1 → W p l e R s m args below meth c H1 locs1 cells slots Q (F0 m (pc + 3) ls (.int (iI z) :: rest))) : W p l e R s m args below meth c H locs cells slots Q (F0 m pc ls (.int (iI zn) :: .ref o :: rest)) := ly_cross T hK hW hS hA r_zn hz hm hR hsz hrm hcs hdg (fun H1 locs1 hW1 hS1 => kk H1 locs1 (by rw [chS_neg h0] at hW1; exact hW1) hS1)
theorem ly_pass (T : CF p m c cc nL s args own) (hK : xK K s) (hW : LwY K o N st H) (hS : va_S A0 H0 H locs) (hA : ∀ q, Blk o 153 q → A0 q) {dy : Int} (r_dy : rg dy) {z : Int} {N2 : Int → Int} (hz : sPass N dy = (z, N2)) {idx : Nat} (hm : Cond.methodLink own idx yX7_pass ∈ xtb) (hR : 5 + 1 ≤ R.frames ∧ 8 + (2 + 11) + 121 ≤ R.locals) (hsz : ls.size = nL) (hrm : (rest.map fun v => v.category).sum ≤ 8) (hcs : cells ≤ R.cells ∧ slots ≤ R.slots) (hdg : decode cc pc = .ok (.invokevirtual idx, 3)) (kk : ∀ (H1 : Heap) (locs1 : List Loc), LwY K o N2 (chS N st z) H1 → va_S A0 H0 H1 locs1 → W p l e R s m args below meth c H1 locs1 cells slots Q (F0 m (pc + 3) ls (.int (iI z) :: rest))) : W p l e R s m args below meth c H locs cells slots Q (F0 m pc ls (.int (iI dy) :: .ref o :: rest)) := by
  obtain ⟨M, R9, G, L, NU, TT, hX, hH, hL, hn, hP⟩ := lwY_ex hW
  refine cI_V T hK hP hS 0 rfl rfl rfl (c_X7_pass l K o N M R9 G L NU TT dy r_dy hX.1 ⟨hH.1, hH.2.1⟩) iX7_pass hm hR hP hA rfl hsz rfl hrm hcs hdg (fun z1 u H1 locs1 q hP1 h1 h2 h3 => ?_)
  obtain ⟨n1, t1, g1⟩ := u
  obtain ⟨qa, qb, qc⟩ := q
  dsimp only at qa qb qc hP1
  subst qb
  subst qc
  have e0 := qa.trans hz
  obtain rfl : z1 = z := congrArg Prod.fst e0
  obtain rfl : n1 = N2 := congrArg Prod.snd e0
  have hX2 : InX n1 := by
    have h9 := sPass_X hX dy
    rw [hz] at h9
    exact h9
  exact kk H1 locs1 (lwY_mk hX2 (his_put hH hX z1) hL hn hP1) h3
theorem lr_pass (T : CF p m c cc nL s args own) (hK : xK K s) (hW : LwY K o N st H) (hS : va_S A0 H0 H locs) (hA : ∀ q, Blk o 153 q → A0 q) {dy : Int} (r_dy : rg dy) {z : Int} (hz : sPass N dy = (z, N)) (h0 : -2147483648 ≤ z ∧ z < 0) {idx : Nat} (hm : Cond.methodLink own idx yX7_pass ∈ xtb) (hR : 5 + 1 ≤ R.frames ∧ 8 + (2 + 11) + 121 ≤ R.locals) (hsz : ls.size = nL) (hrm : (rest.map fun v => v.category).sum ≤ 8) (hcs : cells ≤ R.cells ∧ slots ≤ R.slots) (hdg : decode cc pc = .ok (.invokevirtual idx, 3)) (kk : ∀ (H1 : Heap) (locs1 : List Loc), LwY K o N st H1 → va_S A0 H0 H1 locs1 → W p l e R s m args below meth c H1 locs1 cells slots Q (F0 m (pc + 3) ls (.int (iI z) :: rest))) : W p l e R s m args below meth c H locs cells slots Q (F0 m pc ls (.int (iI dy) :: .ref o :: rest)) := ly_pass T hK hW hS hA r_dy hz hm hR hsz hrm hcs hdg (fun H1 locs1 hW1 hS1 => kk H1 locs1 (by rw [chS_neg h0] at hW1; exact hW1) hS1)
theorem ly_set (T : CF p m c cc nL s args own) (hK : xK K s) (hW : LwY K o N st H) (hS : va_S A0 H0 H locs) (hA : ∀ q, Blk o 153 q → A0 q) {wh : Int} {vl : Int} (r_wh : rg wh) (r_vl : rg vl) {z : Int} {N2 : Int → Int} (hz : sSet N wh vl = (z, N2)) {idx : Nat} (hm : Cond.methodLink own idx yX7_set ∈ xtb) (hR : 4 + 1 ≤ R.frames ∧ 8 + (3 + 11) + 103 ≤ R.locals) (hsz : ls.size = nL) (hrm : (rest.map fun v => v.category).sum ≤ 8) (hcs : cells ≤ R.cells ∧ slots ≤ R.slots) (hdg : decode cc pc = .ok (.invokevirtual idx, 3)) (kk : ∀ (H1 : Heap) (locs1 : List Loc), LwY K o N2 (chS N st z) H1 → va_S A0 H0 H1 locs1 → W p l e R s m args below meth c H1 locs1 cells slots Q (F0 m (pc + 3) ls (.int (iI z) :: rest))) : W p l e R s m args below meth c H locs cells slots Q (F0 m pc ls (.int (iI vl) :: .int (iI wh) :: .ref o :: rest)) := by
  obtain ⟨M, R9, G, L, NU, TT, hX, hH, hL, hn, hP⟩ := lwY_ex hW
  refine cI_V T hK hP hS 0 rfl rfl rfl (c_X7_set l K o N M R9 G L NU TT wh vl r_wh r_vl hX.1 ⟨hH.1, hH.2.1⟩) iX7_set hm hR hP hA rfl hsz rfl hrm hcs hdg (fun z1 u H1 locs1 q hP1 h1 h2 h3 => ?_)
  obtain ⟨n1, t1, g1⟩ := u
  obtain ⟨qa, qb, qc⟩ := q
  dsimp only at qa qb qc hP1
  subst qb
  subst qc
  have e0 := qa.trans hz
  obtain rfl : z1 = z := congrArg Prod.fst e0
  obtain rfl : n1 = N2 := congrArg Prod.snd e0
  have hX2 : InX n1 := by
    have h9 := sSet_X hX wh vl
    rw [hz] at h9
    exact h9
  exact kk H1 locs1 (lwY_mk hX2 (his_put hH hX z1) hL hn hP1) h3
theorem lr_set (T : CF p m c cc nL s args own) (hK : xK K s) (hW : LwY K o N st H) (hS : va_S A0 H0 H locs) (hA : ∀ q, Blk o 153 q → A0 q) {wh : Int} {vl : Int} (r_wh : rg wh) (r_vl : rg vl) {z : Int} (hz : sSet N wh vl = (z, N)) (h0 : -2147483648 ≤ z ∧ z < 0) {idx : Nat} (hm : Cond.methodLink own idx yX7_set ∈ xtb) (hR : 4 + 1 ≤ R.frames ∧ 8 + (3 + 11) + 103 ≤ R.locals) (hsz : ls.size = nL) (hrm : (rest.map fun v => v.category).sum ≤ 8) (hcs : cells ≤ R.cells ∧ slots ≤ R.slots) (hdg : decode cc pc = .ok (.invokevirtual idx, 3)) (kk : ∀ (H1 : Heap) (locs1 : List Loc), LwY K o N st H1 → va_S A0 H0 H1 locs1 → W p l e R s m args below meth c H1 locs1 cells slots Q (F0 m (pc + 3) ls (.int (iI z) :: rest))) : W p l e R s m args below meth c H locs cells slots Q (F0 m pc ls (.int (iI vl) :: .int (iI wh) :: .ref o :: rest)) := ly_set T hK hW hS hA r_wh r_vl hz hm hR hsz hrm hcs hdg (fun H1 locs1 hW1 hS1 => kk H1 locs1 (by rw [chS_neg h0] at hW1; exact hW1) hS1)
theorem ly_undo0 (T : CF p m c cc nL s args own) (hK : xK K s) (hW : LwY K o N st H) (hS : va_S A0 H0 H locs) (hA : ∀ q, Blk o 153 q → A0 q) (h0 : st = []) {idx : Nat} (hm : Cond.methodLink own idx yX7_undo ∈ xtb) (hR : 4 + 1 ≤ R.frames ∧ 8 + (1 + 11) + 103 ≤ R.locals) (hsz : ls.size = nL) (hrm : (rest.map fun v => v.category).sum ≤ 8) (hcs : cells ≤ R.cells ∧ slots ≤ R.slots) (hdg : decode cc pc = .ok (.invokevirtual idx, 3)) (kk : ∀ (H1 : Heap) (locs1 : List Loc), LwY K o N st H1 → va_S A0 H0 H1 locs1 → W p l e R s m args below meth c H1 locs1 cells slots Q (F0 m (pc + 3) ls (.int (iI (-2)) :: rest))) : W p l e R s m args below meth c H locs cells slots Q (F0 m pc ls (.ref o :: rest)) := by
  obtain ⟨M, R9, G, L, NU, TT, hX, hH, hL, hn, hP⟩ := lwY_ex hW
  refine cI_V T hK hP hS 0 rfl rfl rfl (c_X7_undo l K o N M R9 G L NU TT ⟨hH.1, hH.2.1⟩) iX7_undo hm hR hP hA rfl hsz rfl hrm hcs hdg (fun z1 u H1 locs1 q hP1 h1 h2 h3 => ?_)
  obtain ⟨n1, g1⟩ := u
  have hg : G 0 = 0 := by
    have h9 := hH.2.2.1
    rw [h0] at h9
    exact h9.symm
  unfold resP at q
  rw [if_pos hg] at q
  cases q
  exact kk H1 locs1 (lwY_mk hX hH hL hn hP1) h3
theorem ly_undo1 (T : CF p m c cc nL s args own) (hK : xK K s) (hW : LwY K o N st H) (hS : va_S A0 H0 H locs) (hA : ∀ q, Blk o 153 q → A0 q) {S : Int → Int} {st2 : List (Int → Int)} (h0 : st = S :: st2) {idx : Nat} (hm : Cond.methodLink own idx yX7_undo ∈ xtb) (hR : 4 + 1 ≤ R.frames ∧ 8 + (1 + 11) + 103 ≤ R.locals) (hsz : ls.size = nL) (hrm : (rest.map fun v => v.category).sum ≤ 8) (hcs : cells ≤ R.cells ∧ slots ≤ R.slots) (hdg : decode cc pc = .ok (.invokevirtual idx, 3)) (kk : ∀ (H1 : Heap) (locs1 : List Loc), LwY K o S st2 H1 → va_S A0 H0 H1 locs1 → W p l e R s m args below meth c H1 locs1 cells slots Q (F0 m (pc + 3) ls (.int (iI (st2.length : Int)) :: rest))) : W p l e R s m args below meth c H locs cells slots Q (F0 m pc ls (.ref o :: rest)) := by
  obtain ⟨M, R9, G, L, NU, TT, hX, hH, hL, hn, hP⟩ := lwY_ex hW
  refine cI_V T hK hP hS 0 rfl rfl rfl (c_X7_undo l K o N M R9 G L NU TT ⟨hH.1, hH.2.1⟩) iX7_undo hm hR hP hA rfl hsz rfl hrm hcs hdg (fun z1 u H1 locs1 q hP1 h1 h2 h3 => ?_)
  obtain ⟨n1, g1⟩ := u
  subst h0
  obtain ⟨g0, g5, g2, g3, g4⟩ := his_undo hH
  unfold resP at q
  rw [if_neg g0, g5] at q
  rw [g5] at g4
  cases q
  subst g2
  exact kk H1 locs1 (lwY_mk g3 g4 hL hn hP1) h3
theorem ly_type (T : CF p m c cc nL s args own) (hK : xK K s) (hW : LwY K o N st H) (hS : va_S A0 H0 H locs) (hA : ∀ q, Blk o 153 q → A0 q) {ch : Int} (r_ch : rg ch) (h0 : ¬ (32 ≤ ch ∧ ch ≤ 126)) {idx : Nat} (hm : Cond.methodLink own idx yX7_type ∈ xtb) (hR : 1 + 1 ≤ R.frames ∧ 8 + (2 + 11) + 21 ≤ R.locals) (hsz : ls.size = nL) (hrm : (rest.map fun v => v.category).sum ≤ 8) (hcs : cells ≤ R.cells ∧ slots ≤ R.slots) (hdg : decode cc pc = .ok (.invokevirtual idx, 3)) (kk : ∀ (H1 : Heap) (locs1 : List Loc), LwY K o N st H1 → va_S A0 H0 H1 locs1 → W p l e R s m args below meth c H1 locs1 cells slots Q (F0 m (pc + 3) ls (.int (iI (-1)) :: rest))) : W p l e R s m args below meth c H locs cells slots Q (F0 m pc ls (.int (iI ch) :: .ref o :: rest)) := by
  obtain ⟨M, R9, G, L, NU, TT, hX, hH, hL, hn, hP⟩ := lwY_ex hW
  refine cI_V T hK hP hS 0 rfl rfl rfl (c_X7_type l K o N M R9 G L NU TT ch r_ch (by omega) (fun k a b => by omega)) iX7_type hm hR hP hA rfl hsz rfl hrm hcs hdg (fun z1 u H1 locs1 q hP1 h1 h2 h3 => ?_)
  obtain ⟨l1, t1⟩ := u
  rcases q with ⟨c1, q1, q3⟩ | ⟨c1, c2, q1, q3⟩ | ⟨c1, c2, q1, q3⟩
  · cases q3
    subst q1
    exact kk H1 locs1 (lwY_mk hX hH hL hn hP1) h3
  · exact absurd c1 h0
  · exact absurd c1 h0
theorem ly_fault (T : CF p m c cc nL s args own) (hK : xK K s) (hW : LwY K o N st H) (hS : va_S A0 H0 H locs) (hA : ∀ q, Blk o 153 q → A0 q) {wh : Int} (r_wh : rg wh) {w : Int} (hw : (if ¬ (0 ≤ wh ∧ wh ≤ 2) then (-1 : Int) else -4) = w) {idx : Nat} (hm : Cond.methodLink own idx yX7_fault ∈ xtb) (hR : 7 + 1 ≤ R.frames ∧ 8 + (2 + 11) + 167 ≤ R.locals) (hsz : ls.size = nL) (hrm : (rest.map fun v => v.category).sum ≤ 8) (hcs : cells ≤ R.cells ∧ slots ≤ R.slots) (hdg : decode cc pc = .ok (.invokevirtual idx, 3)) (kk : ∀ (H1 : Heap) (locs1 : List Loc), LwY K o N st H1 → va_S A0 H0 H1 locs1 → W p l e R s m args below meth c H1 locs1 cells slots Q (F0 m (pc + 3) ls (.int (iI w) :: rest))) : W p l e R s m args below meth c H locs cells slots Q (F0 m pc ls (.int (iI wh) :: .ref o :: rest)) := by
  obtain ⟨M, R9, G, L, NU, TT, hX, hH, hL, hn, hP⟩ := lwY_ex hW
  refine cI_V T hK hP hS 0 rfl rfl rfl (c_X7_fault l K o N M R9 G L NU TT (fun _ => 0) wh r_wh hX.1 (by omega) (fun k a b => by omega) hn hL.symm) iX7_fault hm hR hP hA rfl hsz rfl hrm hcs hdg (fun z1 u H1 locs1 q hP1 h1 h2 h3 => ?_)
  obtain ⟨m1, l1, n1⟩ := u
  obtain ⟨qa, qb, qc⟩ := q
  have e6 : (triP TT N fun _ => 0).2 6 = 0 := by
    have e : triP TT N (fun _ => 0) = (N, uZ (uZ (uZ (fun _ => 0) 3 0) 8 0) 6 0) := trF_e (by rw [uZ_ne (by omega), uZ_ne (by omega), uZ_eq, uZ_ne (by omega), uZ_ne (by omega), uZ_ne (by omega)]; omega)
    rw [e]
    show uZ (uZ (uZ (fun _ => (0 : Int)) 3 0) 8 0) 6 0 6 = 0
    exact uZ_eq
  have ez : z1 = w := by
    rw [qa, ← hw]
    unfold qFault
    by_cases hc : ¬ (0 ≤ wh ∧ wh ≤ 2)
    · rw [if_pos hc, if_pos hc]
    · rw [if_neg hc, if_neg hc, if_pos (Or.inl e6)]
  subst ez
  exact kk H1 locs1 (lwY_mk hX hH (qb.trans hL) qc hP1) h3
/-- a method of the law on the object: its answer, the state and the states before behind it -/
def CyI (l : Launch) (y : MethodName) (cy : ByteArray) (n : Nat) (rt : FieldType) (f lo : Nat) (K : KT) (o : Nat) (N : Int → Int) (st : List (Int → Int)) (post : Int → (Int → Int) → List (Int → Int) → Prop) : Prop := ∀ u0 : YT, u0.1 = N → u0.2.1 = st → yOk u0 → CtI l y cy n rt f lo K [.ref o] (yW K o u0) (Blk o 153) (fun z (u : YT) => post z u.1 u.2.1 ∧ yOk u) (yW K o)
def CyL (l : Launch) (y : MethodName) (cy : ByteArray) (n : Nat) (f lo : Nat) (K : KT) (o : Nat) (N : Int → Int) (st : List (Int → Int)) (post : Int → (Int → Int) → List (Int → Int) → Prop) : Prop := ∀ u0 : YT, u0.1 = N → u0.2.1 = st → yOk u0 → CtL l y cy n f lo K [.ref o] (yW K o u0) (Blk o 153) (fun z (u : YT) => post z u.1 u.2.1 ∧ yOk u) (yW K o)
theorem CyI_of {l : Launch} {y : MethodName} {cy : ByteArray} {n : Nat} {rt : FieldType} {f lo : Nat} {K : KT} {o : Nat} {N : Int → Int} {st : List (Int → Int)} {post : Int → (Int → Int) → List (Int → Int) → Prop} (hy : plainName y.cls = true) (hn : 1 ≤ n) (body : ∀ (p : Program) (e : Env) (s : State) (m : MethodId) (args : Array Value) (below : List Frame) (meth : Method) (c : Code), CF p m c cy n s args y.cls → meth.sig.returnType = (some rt) → meth.locks = false → LwY K o N st s.heap → xK K s → ∀ ls : Array Slot, lv_has ls n [(0, .ref o)] → W p l e (rmF f lo) s m args below meth c s.heap [] 0 0 (MQ below (qI K (fun z (u : YT) => post z u.1 u.2.1 ∧ yOk u) (yW K o) (Blk o 153)) args s 0 0 (Blk o 153)) (F0 m 0 ls [])) : CyI l y cy n rt f lo K o N st post := fun u0 h1 h2 h3 => CtI_of hy hn fun p e s m args below meth c T hr hk hP hK ls hl => body p e s m args below meth c T hr hk ⟨u0, ⟨h1, h2⟩, h3, hP⟩ hK ls hl
theorem CyL_of {l : Launch} {y : MethodName} {cy : ByteArray} {n : Nat} {f lo : Nat} {K : KT} {o : Nat} {N : Int → Int} {st : List (Int → Int)} {post : Int → (Int → Int) → List (Int → Int) → Prop} (hy : plainName y.cls = true) (hn : 1 ≤ n) (body : ∀ (p : Program) (e : Env) (s : State) (m : MethodId) (args : Array Value) (below : List Frame) (meth : Method) (c : Code), CF p m c cy n s args y.cls → meth.sig.returnType = (some .long) → meth.locks = false → LwY K o N st s.heap → xK K s → ∀ ls : Array Slot, lv_has ls n [(0, .ref o)] → W p l e (rmF f lo) s m args below meth c s.heap [] 0 0 (MQ below (qL K (fun z (u : YT) => post z u.1 u.2.1 ∧ yOk u) (yW K o) (Blk o 153)) args s 0 0 (Blk o 153)) (F0 m 0 ls [])) : CyL l y cy n f lo K o N st post := fun u0 h1 h2 h3 => CtL_of hy hn fun p e s m args below meth c T hr hk hP hK ls hl => body p e s m args below meth c T hr hk ⟨u0, ⟨h1, h2⟩, h3, hP⟩ hK ls hl
theorem ryB (T : CF p m c cc nL s args own) {post : Int → (Int → Int) → List (Int → Int) → Prop} {N2 : Int → Int} {st2 : List (Int → Int)} (hr : meth.sig.returnType = some .boolean) (hk : meth.locks = false) (hK : xK K s) (hW : LwY K o N2 st2 H) (hS : va_S (Blk o 153) s.heap H locs) {z : Int} (hz : z = 0 ∨ z = 1) (hdg : decode cc pc = .ok (.ireturn, 1)) (hp : post z N2 st2) : W p l e R s m args below meth c H locs cells slots (MQ below (qI K (fun z (u : YT) => post z u.1 u.2.1 ∧ yOk u) (yW K o) (Blk o 153)) args s cells slots (Blk o 153)) (F0 m pc ls [.int (iI z)]) := by
  obtain ⟨u, ⟨rfl, rfl⟩, hok, hP⟩ := hW
  exact rB T (u := u) hr hk hK hP hS hz hdg ⟨hp, hok⟩
theorem ryL (T : CF p m c cc nL s args own) {post : Int → (Int → Int) → List (Int → Int) → Prop} {N2 : Int → Int} {st2 : List (Int → Int)} (hr : meth.sig.returnType = some .long) (hk : meth.locks = false) (hK : xK K s) (hW : LwY K o N2 st2 H) (hS : va_S (Blk o 153) s.heap H locs) {z : Int} (hdg : decode cc pc = .ok (.lreturn, 1)) (hp : post z N2 st2) : W p l e R s m args below meth c H locs cells slots (MQ below (qL K (fun z (u : YT) => post z u.1 u.2.1 ∧ yOk u) (yW K o) (Blk o 153)) args s cells slots (Blk o 153)) (F0 m pc ls [.long (lI z)]) := by
  obtain ⟨u, ⟨rfl, rfl⟩, hok, hP⟩ := hW
  exact rL T (u := u) hr hk hK hP hS hdg ⟨hp, hok⟩
theorem lyS_I (T : CF p m c cc nL s args own) (hK : xK K s) (hW : LwY K o N st H) (hS : va_S A0 H0 H locs) (hA : ∀ q, Blk o 153 q → A0 q) {y : MethodName} {cy : ByteArray} {n f lo idx : Nat} {rt : FieldType} {post : Int → (Int → Int) → List (Int → Int) → Prop} (hM : CyI l y cy n rt f lo K o N st post) (hi : SInfo own y cy n (some rt) 1) (hm : Cond.methodLink own idx y ∈ xtb) (hR : f + 1 ≤ R.frames ∧ 8 + (n + 11) + lo ≤ R.locals) (hsz : ls.size = nL) (hrm : (rest.map fun v => v.category).sum ≤ 8) (hcs : cells ≤ R.cells ∧ slots ≤ R.slots) (hdg : decode cc pc = .ok (.invokestatic idx, 3)) (kk : ∀ (z : Int) (N2 : Int → Int) (st2 : List (Int → Int)) (H1 : Heap) (locs1 : List Loc), post z N2 st2 → LwY K o N2 st2 H1 → va_S A0 H0 H1 locs1 → W p l e R s m args below meth c H1 locs1 cells slots Q (F0 m (pc + 3) ls (.int (iI z) :: rest))) : W p l e R s m args below meth c H locs cells slots Q (F0 m pc ls (.ref o :: rest)) := by
  obtain ⟨u0, ⟨h1, h2⟩, hok, hP⟩ := hW
  refine cI_S T hK hP hS (hM u0 h1 h2 hok) hi hm hR hP hA rfl hsz rfl hrm hcs hdg (fun z u H1 locs1 q hP1 _ _ h3 => ?_)
  exact kk z u.1 u.2.1 H1 locs1 q.1 ⟨u, ⟨rfl, rfl⟩, q.2, hP1⟩ h3
theorem lyS_L (T : CF p m c cc nL s args own) (hK : xK K s) (hW : LwY K o N st H) (hS : va_S A0 H0 H locs) (hA : ∀ q, Blk o 153 q → A0 q) {y : MethodName} {cy : ByteArray} {n f lo idx : Nat} {post : Int → (Int → Int) → List (Int → Int) → Prop} (hM : CyL l y cy n f lo K o N st post) (hi : SInfo own y cy n (some .long) 1) (hm : Cond.methodLink own idx y ∈ xtb) (hR : f + 1 ≤ R.frames ∧ 8 + (n + 11) + lo ≤ R.locals) (hsz : ls.size = nL) (hrm : (rest.map fun v => v.category).sum ≤ 8) (hcs : cells ≤ R.cells ∧ slots ≤ R.slots) (hdg : decode cc pc = .ok (.invokestatic idx, 3)) (kk : ∀ (z : Int) (N2 : Int → Int) (st2 : List (Int → Int)) (H1 : Heap) (locs1 : List Loc), post z N2 st2 → LwY K o N2 st2 H1 → va_S A0 H0 H1 locs1 → W p l e R s m args below meth c H1 locs1 cells slots Q (F0 m (pc + 3) ls (.long (lI z) :: rest))) : W p l e R s m args below meth c H locs cells slots Q (F0 m pc ls (.ref o :: rest)) := by
  obtain ⟨u0, ⟨h1, h2⟩, hok, hP⟩ := hW
  refine cL_S T hK hP hS (hM u0 h1 h2 hok) hi hm hR hP hA rfl hsz rfl hrm hcs hdg (fun z u H1 locs1 q hP1 _ _ h3 => ?_)
  exact kk z u.1 u.2.1 H1 locs1 q.1 ⟨u, ⟨rfl, rfl⟩, q.2, hP1⟩ h3
theorem xr_i2l (T : CF p m c cc nL s args own) {a : Int} (hdg : decode cc pc = .ok (.i2l, 1)) (k : W p l e R s m args below meth c H locs cells slots Q (F0 m (pc + 1) ls (.long (lI (iI a).toInt) :: rest))) : W p l e R s m args below meth c H locs cells slots Q (F0 m pc ls (.int (iI a) :: rest)) := lv_i2l T.1 T.2.1 hdg rfl k
end XLY
