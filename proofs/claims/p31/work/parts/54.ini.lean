theorem cns_app : ∀ (ws : va_W) (o : Nat) {ws' : va_W}, cns o ws → cns (o + ws.length) ws' → cns o (ws ++ ws')
  | [], o, ws', _, h2 => h2
  | x :: xs, o, ws', h1, h2 => ⟨h1.1, cns_app xs (o + 1) h1.2 (by rw [show o + 1 + xs.length = o + (x :: xs).length by rw [List.length_cons]; omega]; exact h2)⟩
theorem cns_push {ws : va_W} {o a : Nat} {x : va_E} (h : cns o ws) (ha : a = o + ws.length) : cns o (ws ++ [(a, x)]) := cns_app ws o h ⟨ha, trivial⟩
theorem cns_set : ∀ (ws : va_W) (o q0 : Nat) {a : Nat} {x y : va_E}, cns o ws → ws[q0]? = some (a, x) → cns o (ws.set q0 (a, y))
  | [], _, _, _, _, _, h, _ => h
  | z :: zs, o, 0, a, x, y, h, he => by
    rw [List.getElem?_cons_zero] at he
    cases he
    exact ⟨h.1, h.2⟩
  | z :: zs, o, q + 1, a, x, y, h, he => ⟨h.1, cns_set zs (o + 1) q h.2 (by rw [List.getElem?_cons_succ] at he; exact he)⟩
theorem cns_low {ws : va_W} {o : Nat} (h : cns o ws) {k : Nat} {q : Nat × va_E} (hk : ws[k]? = some q) : q.1 < o + ws.length := by
  have h1 := cns_at ws o h k q hk
  have h2 := (List.getElem?_eq_some_iff.mp hk).1
  omega
theorem cns_D {ws : va_W} {o : Nat} (h : cns o ws) : va_D (fun q => o ≤ q) ws := D_wide (blk_D (cns_at ws o h) rfl) (fun q h => h.1)
theorem ship_cns (K : KT) (o : Nat) (N : Int → Int) : cns o (shipW K o N) := ⟨rfl, rfl, rfl, rfl, rfl, rfl, rfl, rfl, rfl, rfl, rfl, rfl, rfl, rfl, rfl, rfl, rfl, rfl, rfl, rfl, rfl, trivial⟩
section XN
variable {p : Program} {l : Launch} {e : Env} {R : Room} {s : State} {m : MethodId} {args : Array Value} {below : List Frame} {meth : Method} {c : Code} {H : Heap} {locs : List Loc} {cells slots : Nat} {Q : State → Prop}
variable {cc : ByteArray} {pc nL : Nat} {ls : Array Slot} {rest : List Value} {own : String} {K : KT} {A : Nat → Prop} {ws : va_W} {H0 : Heap} {a a0 index : Nat}
theorem xn_obj (T : CF p m c cc nL s args own) (hm : Cond.methodLink own index objectInit ∈ xtb) (hsz : ls.size = nL) (hdg : decode cc pc = .ok (.invokespecial index, 3)) (hR : 1 ≤ R.frames ∧ (rest.map fun v => v.category).sum + 12 ≤ R.locals) (k : W p l e R s m args below meth c H locs cells slots Q (F0 m (pc + 3) ls rest)) : W p l e R s m args below meth c H locs cells slots Q (F0 m pc ls (.ref a :: rest)) := by
  refine W.objInit T.1 T.2.1 T.2.2.2.1 (T.2.2.2.2 _ hm) (T.2.2.2.2 _ mw_1_17) (T.2.2.2.2 _ mw_1_18) rfl (hsz.trans T.2.2.1.symm) rfl hdg hR.1 (by show 2 * 0 + _ + 12 ≤ _; have := hR.2; omega) ?_
  exact W.eq (g2 := F0 m (pc + 3) ls rest) rfl k
theorem xn_new (T : CF p m c cc nL s args own) (hK : xK K s) (hP : xP K ws H) (hS : va_S A H0 H locs) (hz : H.size = a) {C : String} {TX : u_T} {N ci : Nat} (hin : ∀ w ∈ u_ws C TX N, w ∈ xtb) (ty : Nat → FieldType) (hty : ∀ k, k < N → parseFieldDescriptor (TX k).2.2.1 = some (ty k)) (hcl : Cond.classLink own index C ∈ xtb) (hinst : Cond.instantiable C N ∈ xtb) (hini : Cond.initialized C ∈ xtb) (hc : vwCl[ci]? = some (C, TX, N)) {fs : List Value} (hfs : ∀ j, j < N → defaultValue (ty j) = vp_V fs j) (hcs : cells + 1 ≤ R.cells ∧ slots + N ≤ R.slots) (hdg : decode cc pc = .ok (.new index, 3)) (kk : ∀ H1 : Heap, H1.size = a + 1 → xP K (ws ++ [(a, .inr (ci, fs))]) H1 → va_S A H0 H1 locs → W p l e R s m args below meth c H1 locs (cells + 1) (slots + N) Q (F0 m (pc + 3) ls (.ref a :: rest))) : W p l e R s m args below meth c H locs cells slots Q (F0 m pc ls rest) := by
  have hKn := hK.1 ci _ hc
  refine W.newcK T.1 T.2.1 T.2.2.2.1 (T.2.2.2.2 _ hcl) (T.2.2.2.2 _ hinst) (T.2.2.2.2 _ hini) rfl hdg hcs.1 hcs.2 hKn.2.1 hz fun H1 kC hkC e1 z1 o1 => ?_
  have hk : ∀ (k : Nat) (x : Nat × va_E), ws[k]? = some x → H1[x.1]? = H[x.1]? := fun k x hx => o1 x.1 (by rw [← hz]; exact va_at.lt (hP k x hx))
  have hs1 := hS.1
  refine kk H1 z1 (va_P.app (va_P.kept hP hk) (fun k x hx => ?_)) ⟨by omega, fun x h1 h2 => (o1 x (by omega)).trans (hS.2.1 x h1 h2), hS.2.2⟩
  have hz : k < 1 := (List.getElem?_eq_some_iff.mp hx).1
  rw [show k = 0 by omega] at hx
  cases hx
  exact ⟨_, hc, (u_born ty (fun w h => T.2.2.2.2 _ h) hin hKn hkC e1 hty).to hfs⟩
theorem xn_newi (T : CF p m c cc nL s args own) (hK : xK K s) (hP : xP K ws H) (hS : va_S A H0 H locs) (hz : H.size = a) {z : Int} {n : Nat} (hn : z = (n : Int)) (hb : n ≤ 1000000) (hcs : cells + 1 ≤ R.cells ∧ slots + n ≤ R.slots) (hdg : decode cc pc = .ok (.newarray .int, 2)) (kk : ∀ H1 : Heap, H1.size = a + 1 → xP K (ws ++ [(a, .inl (K.2.1, n, .inl (fun _ => 0)))]) H1 → va_S A H0 H1 locs → W p l e R s m args below meth c H1 locs (cells + 1) (slots + n) Q (F0 m (pc + 2) ls (.ref a :: rest))) : W p l e R s m args below meth c H locs cells slots Q (F0 m pc ls (.int (iI z) :: rest)) := by
  subst hn
  have hs1 := hS.1
  refine va_newaK (atype := .int) T.1 T.2.1 (T.2.2.2.2 _ mw_1_57) rfl hdg rfl (fun q => by have := (iI_lt (a := (n : Int)) (b := 0) (by omega)).mp q; omega) (N := n) (by rw [iI_clamp (by omega)]; omega) (by show n * 4 ≤ 536870912; omega) hcs.1 hcs.2 hz fun H1 cA e1 z1 o1 hAr hNm => ?_
  have hc : s.vm.findClass ("[" ++ (newarray.typeOf .int).toString) = some K.2.1 := (hK.2 0 _ rfl).2
  have e : cA = K.2.1 := Option.some.inj (hNm.symm.trans hc)
  subst e
  have hk : ∀ (k : Nat) (x : Nat × va_E), ws[k]? = some x → H1[x.1]? = H[x.1]? := fun k x hx => o1 x.1 (by rw [← hz]; exact va_at.lt (hP k x hx))
  refine kk H1 z1 (va_P.app (va_P.kept hP hk) (fun k x hx => ?_)) ⟨by omega, fun x h1 h2 => (o1 x (by omega)).trans (hS.2.1 x h1 h2), hS.2.2⟩
  have hz : k < 1 := (List.getElem?_eq_some_iff.mp hx).1
  rw [show k = 0 by omega] at hx
  cases hx
  exact e1
theorem xn_newl (T : CF p m c cc nL s args own) (hK : xK K s) (hP : xP K ws H) (hS : va_S A H0 H locs) (hz : H.size = a) {z : Int} {n : Nat} (hn : z = (n : Int)) (hb : n ≤ 1000000) (hcs : cells + 1 ≤ R.cells ∧ slots + n ≤ R.slots) (hdg : decode cc pc = .ok (.newarray .long, 2)) (kk : ∀ H1 : Heap, H1.size = a + 1 → xP K (ws ++ [(a, .inl (K.2.2.1, n, .inr (.inl (fun _ => 0))))]) H1 → va_S A H0 H1 locs → W p l e R s m args below meth c H1 locs (cells + 1) (slots + n) Q (F0 m (pc + 2) ls (.ref a :: rest))) : W p l e R s m args below meth c H locs cells slots Q (F0 m pc ls (.int (iI z) :: rest)) := by
  subst hn
  have hs1 := hS.1
  refine va_newaK (atype := .long) T.1 T.2.1 (T.2.2.2.2 _ mw_1_141) rfl hdg rfl (fun q => by have := (iI_lt (a := (n : Int)) (b := 0) (by omega)).mp q; omega) (N := n) (by rw [iI_clamp (by omega)]; omega) (by show n * 8 ≤ 536870912; omega) hcs.1 hcs.2 hz fun H1 cA e1 z1 o1 hAr hNm => ?_
  have hc : s.vm.findClass ("[" ++ (newarray.typeOf .long).toString) = some K.2.2.1 := (hK.2 1 _ rfl).2
  have e : cA = K.2.2.1 := Option.some.inj (hNm.symm.trans hc)
  subst e
  have hk : ∀ (k : Nat) (x : Nat × va_E), ws[k]? = some x → H1[x.1]? = H[x.1]? := fun k x hx => o1 x.1 (by rw [← hz]; exact va_at.lt (hP k x hx))
  refine kk H1 z1 (va_P.app (va_P.kept hP hk) (fun k x hx => ?_)) ⟨by omega, fun x h1 h2 => (o1 x (by omega)).trans (hS.2.1 x h1 h2), hS.2.2⟩
  have hz : k < 1 := (List.getElem?_eq_some_iff.mp hx).1
  rw [show k = 0 by omega] at hx
  cases hx
  exact e1
theorem xn_newc (T : CF p m c cc nL s args own) (hK : xK K s) (hP : xP K ws H) (hS : va_S A H0 H locs) (hz : H.size = a) {z : Int} {n : Nat} (hn : z = (n : Int)) (hb : n ≤ 1000000) (hcs : cells + 1 ≤ R.cells ∧ slots + n ≤ R.slots) (hdg : decode cc pc = .ok (.newarray .char, 2)) (kk : ∀ H1 : Heap, H1.size = a + 1 → xP K (ws ++ [(a, .inl (K.2.2.2.1, n, .inl (fun _ => 0)))]) H1 → va_S A H0 H1 locs → W p l e R s m args below meth c H1 locs (cells + 1) (slots + n) Q (F0 m (pc + 2) ls (.ref a :: rest))) : W p l e R s m args below meth c H locs cells slots Q (F0 m pc ls (.int (iI z) :: rest)) := by
  subst hn
  have hs1 := hS.1
  refine va_newaK (atype := .char) T.1 T.2.1 (T.2.2.2.2 _ mw_1_236) rfl hdg rfl (fun q => by have := (iI_lt (a := (n : Int)) (b := 0) (by omega)).mp q; omega) (N := n) (by rw [iI_clamp (by omega)]; omega) (by show n * 2 ≤ 536870912; omega) hcs.1 hcs.2 hz fun H1 cA e1 z1 o1 hAr hNm => ?_
  have hc : s.vm.findClass ("[" ++ (newarray.typeOf .char).toString) = some K.2.2.2.1 := (hK.2 2 _ rfl).2
  have e : cA = K.2.2.2.1 := Option.some.inj (hNm.symm.trans hc)
  subst e
  have hk : ∀ (k : Nat) (x : Nat × va_E), ws[k]? = some x → H1[x.1]? = H[x.1]? := fun k x hx => o1 x.1 (by rw [← hz]; exact va_at.lt (hP k x hx))
  refine kk H1 z1 (va_P.app (va_P.kept hP hk) (fun k x hx => ?_)) ⟨by omega, fun x h1 h2 => (o1 x (by omega)).trans (hS.2.1 x h1 h2), hS.2.2⟩
  have hz : k < 1 := (List.getElem?_eq_some_iff.mp hx).1
  rw [show k = 0 by omega] at hx
  cases hx
  exact e1
theorem xn_newq (T : CF p m c cc nL s args own) (hAO : va_AO RX6 s) (hK : xK K s) (hP : xP K ws H) (hS : va_S A H0 H locs) (hz : H.size = a) (hcl : Cond.classLink own index RX6 ∈ xtb) {z : Int} {n : Nat} (hn : z = (n : Int)) (hb : n ≤ 1000000) (hcs : cells + 1 ≤ R.cells ∧ slots + n ≤ R.slots) (hdg : decode cc pc = .ok (.anewarray index, 3)) (kk : ∀ H1 : Heap, H1.size = a + 1 → xP K (ws ++ [(a, .inl (K.2.2.2.2, n, .inr (.inr (.inr (.inr (fun _ => none))))))]) H1 → va_S A H0 H1 locs → W p l e R s m args below meth c H1 locs (cells + 1) (slots + n) Q (F0 m (pc + 3) ls (.ref a :: rest))) : W p l e R s m args below meth c H locs cells slots Q (F0 m pc ls (.int (iI z) :: rest)) := by
  subst hn
  have hs1 := hS.1
  have en : (iI (n : Int)).toNatClampNeg = n := by rw [iI_clamp (by omega)]; omega
  refine W.anew T.1 T.2.1 T.2.2.2.1 (T.2.2.2.2 _ hcl) (va_AO.use hAO) rfl hdg rfl (fun q => by have := (iI_lt (a := (n : Int)) (b := 0) (by omega)).mp q; omega) (by rw [en]; omega) hcs.1 (by rw [en]; exact hcs.2) fun cA kA comp f1 f2 f3 f4 => ?_
  obtain ⟨k9, c9, -, -, -, hc⟩ := (hK.2 3 _ rfl).2
  have e : cA = K.2.2.2.2 := Option.some.inj (f1.symm.trans hc)
  subst e
  rw [en, hz]
  generalize hH1 : H.push ({ cls := K.2.2.2.2, slots := Array.replicate n .null, vm := .none } : Cell) = H1
  have z1 : H1.size = a + 1 := by rw [← hH1, Array.size_push, hz]
  have e1 : H1[a]? = some (arrV K.2.2.2.2 n (fun _ => .null)) := by rw [← hH1, ← hz, Array.getElem?_push_size, ← arrV_new]
  have o1 : ∀ q : Nat, q < a → H1[q]? = H[q]? := fun q hq => by rw [← hH1, Array.getElem?_push, if_neg (by omega)]
  have hk : ∀ (k : Nat) (x : Nat × va_E), ws[k]? = some x → H1[x.1]? = H[x.1]? := fun k x hx => o1 x.1 (by rw [← hz]; exact va_at.lt (hP k x hx))
  refine kk H1 z1 (va_P.app (va_P.kept hP hk) (fun k x hx => ?_)) ⟨by omega, fun x h1 h2 => (o1 x (by omega)).trans (hS.2.1 x h1 h2), hS.2.2⟩
  have hz : k < 1 := (List.getElem?_eq_some_iff.mp hx).1
  rw [show k = 0 by omega] at hx
  cases hx
  exact e1
theorem xn_aast (T : CF p m c cc nL s args own) (hK : xK K s) (hP : xP K ws H) (hD : va_D A ws) (hS : va_S A H0 H locs) (hsz : H.size = a0) (q0 qk : Nat) {n v : Nat} {vs : List Value} {f : Nat → Option Nat} (ha : ws[q0]? = some (a, .inl (K.2.2.2.2, n, .inr (.inr (.inr (.inr f)))))) (hv : ws[qk]? = some (v, .inr (6, vs))) {z : Int} (hz : 0 ≤ z ∧ z < (n : Int)) (hn : n ≤ 2147483647) (hdg : decode cc pc = .ok (.aastore, 1)) (kk : ∀ (H1 : Heap) (locs1 : List Loc), H1.size = a0 → xP K (ws.set q0 (a, .inl (K.2.2.2.2, n, .inr (.inr (.inr (.inr (va_up f z.toNat (some v)))))))) H1 → va_S A H0 H1 locs1 → W p l e R s m args below meth c H1 locs1 cells slots Q (F0 m (pc + 1) ls rest)) : W p l e R s m args below meth c H locs cells slots Q (F0 m pc ls (.ref v :: .int (iI z) :: .ref a :: rest)) := by
  have hin : vp_in (iI z) n := iI_in hz hn
  have hlt : (iI z).toNatClampNeg < n := Nat.not_le.mp fun q => hin (Or.inr q)
  have h0 : ¬ iI z < 0 := fun q => hin (Or.inl q)
  obtain ⟨r', hr', cellV, g1, g2, g3, -⟩ := hP qk _ hv
  have hcls := (hK.1 6 _ rfl).2
  obtain ⟨kA, comp, k1, k2, k3, -⟩ := (hK.2 3 _ rfl).2
  have hcomp : comp = K.1.1 6 := Option.some.inj (k3.symm.trans hcls.1)
  subst hcomp
  obtain ⟨kC, hkC, -⟩ := hcls.2
  refine W.aast T.1 T.2.1 (hP q0 _ ha) (fun q h => by cases h) (fun h => by cases h) k1 k2 rfl hkC ⟨h0, by show _ < (arrV _ _ _).slots.size; rw [arrV_size]; exact hlt⟩ g1 (fun q h => by rw [g3] at h; cases h) (by rw [g2]; exact hkC) (by rw [g2]; exact va_assign hcls) rfl rfl hdg fun H1 e y oq => ?_
  refine kk H1 _ (y.trans hsz) (va_P.set hP hD ha ?_ oq) (hS.put y oq (hD.2 q0 _ ha))
  show H1[a]? = some (vp_cell _ _)
  rw [e, ← iI_clamp (by omega : 0 ≤ z ∧ z ≤ 2147483647)]
  simp only [vp_cell, arrV_store]
  congr 2
  funext q
  by_cases hq : q = (iI z).toNatClampNeg
  · subst hq
    simp [updV, va_up, va_rf]
  · simp [updV, va_up, hq]
theorem xn_iast (T : CF p m c cc nL s args own) (hK : xK K s) (hP : xP K ws H) (hD : va_D A ws) (hS : va_S A H0 H locs) (hsz : H.size = a0) (q0 : Nat) {n : Nat} {f : Nat → Int32} (ha : ws[q0]? = some (a, .inl (K.2.1, n, .inl f))) {z v : Int} (hz : 0 ≤ z ∧ z < (n : Int)) (hn : n ≤ 2147483647) (hdg : decode cc pc = .ok (.iastore, 1)) (kk : ∀ (H1 : Heap) (locs1 : List Loc), H1.size = a0 → xP K (ws.set q0 (a, .inl (K.2.1, n, .inl (upd f z.toNat (iI v))))) H1 → va_S A H0 H1 locs1 → W p l e R s m args below meth c H1 locs1 cells slots Q (F0 m (pc + 1) ls rest)) : W p l e R s m args below meth c H locs cells slots Q (F0 m pc ls (.int (iI v) :: .int (iI z) :: .ref a :: rest)) := by
  have hin : vp_in (iI z) n := iI_in hz hn
  refine W.iast T.1 T.2.1 (hP q0 _ ha) ((hK.2 0 _ rfl).1 n (fun j => .int (f j))) (fun q => by cases q) (by show ¬ (iI z < 0 ∨ (arrV _ _ _).slots.size ≤ _); rw [arrV_size]; exact hin) rfl rfl hdg fun H1 e y oq => ?_
  refine kk H1 _ (y.trans hsz) (va_P.set hP hD ha ?_ oq) (hS.put y oq (hD.2 q0 _ ha))
  show H1[a]? = some (vp_cell _ _)
  rw [e, vp_cell_i, vp_cell_i, arrV_store, ← iI_clamp (by omega : 0 ≤ z ∧ z ≤ 2147483647)]
  congr 2
  funext q
  by_cases hq : q = (iI z).toNatClampNeg
  · subst hq
    simp [updV, upd]
  · simp [updV, upd, hq]
theorem xn_put (T : CF p m c cc nL s args own) {ref C : String} {TX : u_T} {N ci : Nat} (hin : ∀ w ∈ u_ws C TX N, w ∈ xtb) (ty0 : Nat → FieldType) (hty : ∀ k, k < N → parseFieldDescriptor (TX k).2.2.1 = some (ty0 k)) (hnm : ∀ a, a < N → ∀ b, b < N → a ≠ b → (TX a).2.1 ≠ (TX b).2.1) (hK : xK K s) (hP : xP K ws H) (hD : va_D A ws) (hS : va_S A H0 H locs) (hsz : H.size = a0) (q0 : Nat) {fs : List Value} (he : ws[q0]? = some (a, .inr (ci, fs))) (hc : vwCl[ci]? = some (C, TX, N)) (k : Nat) (hk : k < N) (hlink : Cond.fieldLink own index ref (TX k).2.1 (TX k).2.2.1 ∈ xtb) (hsame : ∀ x, s.fieldFound? (TX k).1 (TX k).2.1 (TX k).2.2.1 = some x → s.fieldFound? ref (TX k).2.1 (TX k).2.2.1 = some x) (hfin : (TX k).2.2.2 = false) {ty : FieldType} {v : Value} (hd : parseFieldDescriptor (TX k).2.2.1 = some ty) (hn : narrow ty v = v) (hfit : fits ty v = true) (hl : k < fs.length) (hdg : decode cc pc = .ok (.putfield index, 3)) (kk : ∀ (H1 : Heap) (locs1 : List Loc), H1.size = a0 → xP K (ws.set q0 (a, .inr (ci, fs.set k v))) H1 → va_S A H0 H1 locs1 → W p l e R s m args below meth c H1 locs1 cells slots Q (F0 m (pc + 3) ls rest)) : W p l e R s m args below meth c H locs cells slots Q (F0 m pc ls (v :: .ref a :: rest)) := by
  have hts : ∀ w ∈ xtb, w.before args s = true := T.2.2.2.2
  have hap := va_apart (own := own) hts hin ty0 hty hnm hK hc
  obtain ⟨r, h1, cell, q1, q2, q3, q4⟩ := hP q0 _ he
  have hr : r = (C, TX, N) := Option.some.inj (h1.symm.trans hc)
  subst hr
  obtain ⟨hs1, hfc, kC, hkC, hkind⟩ := hK.1 ci _ hc
  obtain ⟨cf, kf, fi, f, hi, hsl⟩ := hs1 k hk
  have hlay := hts _ (hin _ (u_in_lay hk))
  unfold u_lay at hlay
  rw [if_neg (by rw [hfin]; decide)] at hlay
  have hst := (u_facts hfc hkC (u_lays hts hin hk) hi).1
  have h6 := u_store hfc hkC hkind hlay hi hd hn hfit
  refine W.putK T.1 T.2.1 (f := f) ⟨T.2.2.2.1, hts _ hlink, ⟨_, _, _, hsame _ hi⟩, hst⟩ (by rw [q2]; exact h6) q1 q3 (by rw [hsl]; exact k2_hasslot (q4 k hk)) rfl rfl hdg fun H1 e1 e2 e3 => ?_
  rw [hsl] at e1 ⊢
  exact kk H1 _ (e2.trans hsz) (va_P.set hP hD he ⟨_, hc, t_OB.to (V := updV (vp_V fs) k v) ⟨_, e1, q2, q3, t_set q4 hap hk v⟩ (fun j _ => vp_updV_set hl v j)⟩ e3) (hS.put e2 e3 (hD.2 q0 _ he))
theorem xn_putF (T : CF p m c cc nL s args own) {ref C : String} {TX : u_T} {N ci : Nat} (hin : ∀ w ∈ u_ws C TX N, w ∈ xtb) (ty0 : Nat → FieldType) (hty : ∀ k, k < N → parseFieldDescriptor (TX k).2.2.1 = some (ty0 k)) (hnm : ∀ a, a < N → ∀ b, b < N → a ≠ b → (TX a).2.1 ≠ (TX b).2.1) (hK : xK K s) (hP : xP K ws H) (hD : va_D A ws) (hS : va_S A H0 H locs) (hsz : H.size = a0) (q0 : Nat) {fs : List Value} (he : ws[q0]? = some (a, .inr (ci, fs))) (hc : vwCl[ci]? = some (C, TX, N)) (k : Nat) (hk : k < N) (hlink : Cond.fieldLink own index ref (TX k).2.1 (TX k).2.2.1 ∈ xtb) (hsame : ∀ x, s.fieldFound? (TX k).1 (TX k).2.1 (TX k).2.2.1 = some x → s.fieldFound? ref (TX k).2.1 (TX k).2.2.1 = some x) (hfin : (TX k).2.2.2 = true) (hin2 : meth.name = "<init>") (hdecl : (TX k).1 = own) {ty : FieldType} {v : Value} (hd : parseFieldDescriptor (TX k).2.2.1 = some ty) (hn : narrow ty v = v) (hfit : fits ty v = true) (hl : k < fs.length) (hdg : decode cc pc = .ok (.putfield index, 3)) (kk : ∀ (H1 : Heap) (locs1 : List Loc), H1.size = a0 → xP K (ws.set q0 (a, .inr (ci, fs.set k v))) H1 → va_S A H0 H1 locs1 → W p l e R s m args below meth c H1 locs1 cells slots Q (F0 m (pc + 3) ls rest)) : W p l e R s m args below meth c H locs cells slots Q (F0 m pc ls (v :: .ref a :: rest)) := by
  have hts : ∀ w ∈ xtb, w.before args s = true := T.2.2.2.2
  have hap := va_apart (own := own) hts hin ty0 hty hnm hK hc
  obtain ⟨r, h1, cell, q1, q2, q3, q4⟩ := hP q0 _ he
  have hr : r = (C, TX, N) := Option.some.inj (h1.symm.trans hc)
  subst hr
  obtain ⟨hs1, hfc, kC, hkC, hkind⟩ := hK.1 ci _ hc
  obtain ⟨cf, kf, fi, f, hi, hsl⟩ := hs1 k hk
  have hlay := hts _ (hin _ (u_in_lay hk))
  unfold u_lay at hlay
  rw [if_pos hfin] at hlay
  have hst := (u_facts hfc hkC (u_lays hts hin hk) hi).1
  have hcf : m.cls = cf := by
    obtain ⟨_, _, c', _, _, _, -, -, hf', -, -, -, hown2, -⟩ := Cond.laysFinal_spec hlay
    have e1 : c' = cf := by have := hi.symm.trans hf'; simp at this; exact this.1.symm
    rw [hdecl] at hown2
    rw [← e1]; exact Option.some.inj (T.2.2.2.1.symm.trans hown2)
  have h6 := u_fits hfc hkC hkind (Or.inr hlay) hi hd hn hfit
  refine W.putFinK T.1 T.2.1 T.2.2.2.1 (hts _ hlink) (hsame _ hi) hst hcf hin2 (by rw [q2]; exact h6) q1 q3 (by rw [hsl]; exact k2_hasslot (q4 k hk)) rfl rfl hdg fun H1 e1 e2 e3 => ?_
  rw [hsl] at e1 ⊢
  exact kk H1 _ (e2.trans hsz) (va_P.set hP hD he ⟨_, hc, t_OB.to (V := updV (vp_V fs) k v) ⟨_, e1, q2, q3, t_set q4 hap hk v⟩ (fun j _ => vp_updV_set hl v j)⟩ e3) (hS.put e2 e3 (hD.2 q0 _ he))
/-- a constructor makes the cells of its world, one behind another, from its own on -/
abbrev pcN (K : KT) (as : List Value) (w0 : va_W) (n : Nat) : Array Value → State → Prop := va_Pc as (fun U => U.heap.size = n ∧ xP K w0 U.heap ∧ xK K U ∧ va_AO RX6 U)
abbrev qN (K : KT) (w1 : va_W) (n : Nat) (A : Nat → Prop) : Array Value → State → Outcome → State → Prop := va_Qv (fun _ : Unit => True) (fun _ t => t.heap.size = n ∧ xP K w1 t.heap ∧ xK K t) A
def CtN (l : Launch) (y : MethodName) (cc : ByteArray) (n f lo cs sl : Nat) (K : KT) (b : Nat) (w0 w1 : va_W) : Prop := Met l y (wy y cc n none) { frames := f, cells := cs, slots := sl, locals := lo } (pcN K [.ref b] w0 (b + 1)) (qN K w1 (b + 1 + cs) (fun q => b ≤ q)) cs sl (fun q => b ≤ q)
def IInfo (y : MethodName) (cc : ByteArray) (n : Nat) : Prop := Cond.instanceMethod y ∈ xtb ∧ Cond.initialized y.cls ∈ xtb ∧ Cond.code y cc n none ∈ xtb ∧ y.name = "<init>" ∧ (y.cls ≠ "java/lang/invoke/MethodHandle" ∧ y.cls ≠ "java/lang/invoke/VarHandle" ∧ (parseMethodDescriptor y.desc).map (fun d => d.parameters.length) = some 0)
theorem CtN_of {l : Launch} {y : MethodName} {cc : ByteArray} {n f lo cs sl : Nat} {K : KT} {b : Nat} {w0 w1 : va_W} (hy : plainName y.cls = true) (hnm : y.name = "<init>") (hn : (lg_sl [Value.ref b]).length ≤ n) (body : ∀ (p : Program) (e : Env) (s : State) (m : MethodId) (args : Array Value) (below : List Frame) (meth : Method) (c : Code), CF p m c cc n s args y.cls → meth.name = "<init>" → meth.sig.returnType = none → meth.locks = false → s.heap.size = b + 1 → xP K w0 s.heap → xK K s → va_AO RX6 s → ∀ ls : Array Slot, lv_has ls n [(0, .ref b)] → W p l e { frames := f, cells := cs, slots := sl, locals := lo } s m args below meth c s.heap [] 0 0 (MQ below (qN K w1 (b + 1 + cs) (fun q => b ≤ q)) args s cs sl (fun q => b ≤ q)) (F0 m 0 ls [])) : CtN l y cc n f lo cs sl K b w0 w1 := by
  refine Met.ofW (cc := cc) (maxL := n) (ret := none) hy rfl ?_
  intro p e s m args below meth c s₁ B hml hv
  obtain ⟨rfl, hz, hP, hK, hAO⟩ := hv
  have hts := atoms_spec (ws := wy y cc n none) B.pre
  have hl := lv_entry [Value.ref b] (n := n) hn
  rw [lg_entry_eq]
  exact body p e s m _ below meth c ⟨B.exec, B.bytes, hml, findClass_of_methodNamed B.named, fun w h => hts w (List.mem_cons_of_mem _ h)⟩ (hnm ▸ (name_of_methodNamed B.named B.method).1) B.returns B.notSynchronized hz hP hK hAO _ hl
theorem rN (T : CF p m c cc nL s args own) {w1 : va_W} {n cs sl : Nat} {A : Nat → Prop} (hr : meth.sig.returnType = none) (hk : meth.locks = false) (hK : xK K s) (hz : H.size = n) (hP : xP K w1 H) (hS : va_S A s.heap H locs) (hdg : decode cc pc = .ok (.return_, 1)) : W p l e R s m args below meth c H locs cs sl (MQ below (qN K w1 n A) args s cs sl A) (F0 m pc ls []) := W.vret T.1 T.2.1 hr (fun t ht hW => ⟨⟨(), rfl, trivial, by rw [ht]; exact hz, by rw [ht]; exact hP, va_K.moved hW.alike hK⟩, hS.F ht⟩) hS.2.2 hdg hk
theorem cN (T : CF p m c cc nL s args own) (hAO : va_AO RX6 s) (hK : xK K s) (hS : va_S A H0 H locs) {y : MethodName} {cy : ByteArray} {n f lo cs sl b idx : Nat} {w0 w1 : va_W} (hM : CtN l y cy n f lo cs sl K b w0 w1) (hi : IInfo y cy n) (hm : Cond.methodLink own idx y ∈ xtb) (hR : f + 1 ≤ R.frames ∧ 8 + (n + 11) + lo ≤ R.locals) (hz : H.size = b + 1) (hw0 : xP K w0 H) (hA : ∀ q, b ≤ q → A q) (hsz : ls.size = nL) (hrm : (rest.map fun v => v.category).sum ≤ 8) (hcs : cells + cs ≤ R.cells ∧ slots + sl ≤ R.slots) (hdg : decode cc pc = .ok (.invokespecial idx, 3)) (kk : ∀ (H1 : Heap) (locs1 : List Loc), H1.size = b + 1 + cs → xP K w1 H1 → (∀ q : Nat, q < H.size → ¬ b ≤ q → H1[q]? = H[q]?) → va_S A H0 H1 locs1 → W p l e R s m args below meth c H1 locs1 (cells + cs) (slots + sl) Q (F0 m (pc + 3) ls rest)) : W p l e R s m args below meth c H locs cells slots Q (F0 m pc ls (.ref b :: rest)) := by
  refine va_callv (va_runI (As := []) T hM (cwI 0 T.2.2.2.2 (gxy hi.2.2.1) rfl rfl rfl (T.2.2.2.2 _ hi.2.1) (T.2.2.2.2 _ hm) (T.2.2.2.2 _ hi.1) hi.2.2.2.1 hi.2.2.2.2 hR) ⟨fun a U g mk q => ⟨q.1, q.2.1, q.2.2.1, va_K.moved (u := U) (U := U.calling g mk a) (Vm.Alike.refl U.vm) q.2.2.2.1, va_AO.moved (u := U) (U := U.calling g mk a) (Vm.Alike.refl U.vm) q.2.2.2.2⟩, fun U hU hW => ⟨rfl, by rw [hU]; exact hz, by rw [hU]; exact hw0, va_K.moved hW.alike hK, va_AO.moved hW.alike hAO⟩⟩ rfl rfl hsz rfl (lv_room hrm) hdg hcs) hS (fun q _ h => hA q h) hA (fun u t H1 locs1 ht hvm hp hB h1 h2 h3 => ?_)
  rw [ht] at hB
  exact kk H1 locs1 hB.1 hB.2.1 h2 h3
end XN
