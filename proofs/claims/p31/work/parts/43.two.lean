theorem xP_app {K : KT} {ws ws' : va_W} {H : Heap} (h1 : xP K ws H) (h2 : xP K ws' H) : xP K (ws ++ ws') H := va_P.app h1 h2
theorem xP_l {K : KT} {ws ws' : va_W} {H : Heap} (h : xP K (ws ++ ws') H) : xP K ws H := fun k q hk => h k q (by rw [List.getElem?_append_left (List.getElem?_eq_some_iff.mp hk).1]; exact hk)
theorem xP_r {K : KT} {ws ws' : va_W} {H : Heap} (h : xP K (ws ++ ws') H) : xP K ws' H := fun k q hk => h (ws.length + k) q (by rw [List.getElem?_append_right (by omega), show ws.length + k - ws.length = k by omega]; exact hk)
theorem set_app1 {α : Type} {l1 l2 : List α} {k : Nat} {x : α} (h : k < l1.length) : (l1 ++ l2).set k x = l1.set k x ++ l2 := by rw [List.set_append, if_pos h]
theorem set_app2 {α : Type} {l1 l2 : List α} {k : Nat} {x : α} : (l1 ++ l2).set (l1.length + k) x = l1 ++ l2.set k x := by rw [List.set_append, if_neg (by omega), show l1.length + k - l1.length = k by omega]
theorem two_up {K : KT} {w1 w1' w2 : va_W} {k : Nat} {x : Nat × va_E} (hk : k < w1.length) (h : ∀ H1, xP K (w1.set k x) H1 → xP K w1' H1) : ∀ H1, xP K ((w1 ++ w2).set k x) H1 → xP K (w1' ++ w2) H1 := fun H1 q => by
  rw [set_app1 hk] at q
  exact xP_app (h H1 (xP_l q)) (xP_r q)
theorem xP_out {K : KT} {ws : va_W} {H H1 : Heap} {A B : Nat → Prop} (hP : xP K ws H) (hD : va_D B ws) (hx : ∀ q, A q → B q → False) (h : ∀ q : Nat, q < H.size → ¬ A q → H1[q]? = H[q]?) : xP K ws H1 := va_P.kept hP (fun k q hq => h q.1 (va_at.lt (hP k q hq)) (fun z => hx q.1 z (hD.2 k q hq)))
theorem D_wide {A B : Nat → Prop} {ws : va_W} (h : va_D A ws) (hab : ∀ q, A q → B q) : va_D B ws := ⟨h.1, fun k q hq => hab _ (h.2 k q hq)⟩
theorem D_app {A1 A2 B : Nat → Prop} {w1 w2 : va_W} (h1 : va_D A1 w1) (h2 : va_D A2 w2) (hb1 : ∀ q, A1 q → B q) (hb2 : ∀ q, A2 q → B q) (hx : ∀ q, A1 q → A2 q → False) : va_D B (w1 ++ w2) := va_D.app (D_wide h1 hb1) (D_wide h2 hb2) (fun i j p q hp hq e => hx q.1 (by rw [← e]; exact h1.2 i p hp) (h2.2 j q hq))
def Bk2 (a b : Nat) : Nat → Prop := fun q => Blk a 21 q ∨ Blk b 21 q
def twoW (K : KT) (a : Nat) (N : Int → Int) (b : Nat) (M : Int → Int) : va_W := shipW K a N ++ shipW K b M
theorem two_D (K : KT) (N M : Int → Int) {a b : Nat} (h : a + 21 ≤ b ∨ b + 21 ≤ a) : va_D (Bk2 a b) (twoW K a N b M) := D_app (ship_D K a N) (ship_D K b M) (fun _ => Or.inl) (fun _ => Or.inr) (fun q h1 h2 => by have h3 := h1.1; have h4 := h1.2; have h5 := h2.1; have h6 := h2.2; omega)
def cpZ (N M : Int → Int) (o n : Int) : Int → Int := fun k => if o ≤ k ∧ k < o + n then M k else N k
theorem cpZ_in {N M : Int → Int} {o n k : Int} (h : o ≤ k ∧ k < o + n) : cpZ N M o n k = M k := if_pos h
theorem cpZ_ne {N M : Int → Int} {o n k : Int} (h : ¬ (o ≤ k ∧ k < o + n)) : cpZ N M o n k = N k := if_neg h
theorem vI_cpo {N M : Int → Int} {o b : Int} {m : Int} (n : Nat) (h : b + (n : Int) ≤ o ∨ o + m ≤ b) : ∀ j, j < n → vI N b j = vI (cpZ N M o m) b j := fun j hj => congrArg iI (cpZ_ne (by omega)).symm
theorem vL_cpo {N M : Int → Int} {o b : Int} {m : Int} (n : Nat) (h : b + (n : Int) ≤ o ∨ o + m ≤ b) : ∀ j, j < n → vL N b j = vL (cpZ N M o m) b j := fun j hj => congrArg lI (cpZ_ne (by omega)).symm
theorem vI_cpi {N M : Int → Int} {o : Int} (n : Nat) : ∀ j, j < n → va_cpy (vI M o) (vI N o) 0 0 n j = vI (cpZ N M o (n : Int)) o j := fun j hj => (vI_cpy n j hj).trans (congrArg iI (cpZ_in (by omega)).symm)
theorem vL_cpi {N M : Int → Int} {o : Int} (n : Nat) : ∀ j, j < n → va_cpy (vL M o) (vL N o) 0 0 n j = vL (cpZ N M o (n : Int)) o j := fun j hj => (vL_cpy n j hj).trans (congrArg lI (cpZ_in (by omega)).symm)
section XC
variable {p : Program} {l : Launch} {e : Env} {R : Room} {s : State} {m : MethodId} {args : Array Value} {below : List Frame} {meth : Method} {c : Code} {H : Heap} {locs : List Loc} {cells slots : Nat} {Q : State → Prop}
variable {cc : ByteArray} {pc nL : Nat} {ls : Array Slot} {rest : List Value} {own : String} {K : KT} {A : Nat → Prop} {ws : va_W} {H0 : Heap} {a a0 index : Nat}
theorem xa_copyi (T : CF p m c cc nL s args own) (hsz : ls.size = nL) (hK : xK K s) (hP : xP K ws H) (hD : va_D A ws) (hS : va_S A H0 H locs) (hlink : Cond.methodLink own index arraycopyName ∈ xtb) (q0 q1 : Nat) {n : Nat} {z : Int} (hz : z = (n : Int)) (hn : n ≤ 2147483647) {f g : Nat → Int32} (ha0 : ws[q0]? = some (a0, .inl (K.2.1, n, .inl f))) (ha1 : ws[q1]? = some (a, .inl (K.2.1, n, .inl g))) (hr : 1 ≤ R.frames ∧ (rest.map fun v => v.category).sum + (nativeFrameWords "java/lang/System" "arraycopy" 5 + 11) ≤ R.locals) (hdg : decode cc pc = .ok (.invokestatic index, 3)) {ws' : va_W} (hup : ∀ H1, xP K (ws.set q1 (a, .inl (K.2.1, n, .inl (va_cpy f g 0 0 n)))) H1 → xP K ws' H1) (kk : ∀ (H1 : Heap) (locs1 : List Loc), xP K ws' H1 → va_S A H0 H1 locs1 → W p l e R s m args below meth c H1 locs1 cells slots Q (F0 m (pc + 3) ls rest)) : W p l e R s m args below meth c H locs cells slots Q (F0 m pc ls (.int (iI z) :: .int (iI 0) :: .ref a :: .int (iI 0) :: .ref a0 :: rest)) := by
  subst hz
  have e0 : (iI 0).toNatClampNeg = 0 := iI_clamp (by omega)
  have en : (iI (n : Int)).toNatClampNeg = n := by rw [iI_clamp (by omega)]; omega
  have nl : ∀ x : Int, 0 ≤ x ∧ x ≤ 2147483647 → ¬ iI x < 0 := fun x hx q => by
    have := (iI_lt (a := x) (b := 0) (by omega)).mp q
    omega
  refine va_copyi T.1 T.2.1 (T.2.2.1.trans hsz.symm) T.2.2.2.1 (T.2.2.2.2 _ hlink) (T.2.2.2.2 _ mw_2_28) (T.2.2.2.2 _ mw_2_27) (T.2.2.2.2 _ mw_1_9) hK hP hD hS q0 q1 0 0 ha0 ha1 rfl rfl rfl (nl 0 (by omega)) (nl 0 (by omega)) (nl n (by omega)) (by rw [e0, en]; omega) (by rw [e0, en]; omega) (fun i _ => rfl) hr.1 hr.2 hdg (fun H1 locs1 h1 _ h3 => kk H1 locs1 (hup H1 ?_) h3)
  rw [e0, en] at h1
  exact h1
theorem xa_copyl (T : CF p m c cc nL s args own) (hsz : ls.size = nL) (hK : xK K s) (hP : xP K ws H) (hD : va_D A ws) (hS : va_S A H0 H locs) (hlink : Cond.methodLink own index arraycopyName ∈ xtb) (q0 q1 : Nat) {n : Nat} {z : Int} (hz : z = (n : Int)) (hn : n ≤ 2147483647) {f g : Nat → Int64} (ha0 : ws[q0]? = some (a0, .inl (K.2.2.1, n, .inr (.inl f)))) (ha1 : ws[q1]? = some (a, .inl (K.2.2.1, n, .inr (.inl g)))) (hr : 1 ≤ R.frames ∧ (rest.map fun v => v.category).sum + (nativeFrameWords "java/lang/System" "arraycopy" 5 + 11) ≤ R.locals) (hdg : decode cc pc = .ok (.invokestatic index, 3)) {ws' : va_W} (hup : ∀ H1, xP K (ws.set q1 (a, .inl (K.2.2.1, n, .inr (.inl (va_cpy f g 0 0 n))))) H1 → xP K ws' H1) (kk : ∀ (H1 : Heap) (locs1 : List Loc), xP K ws' H1 → va_S A H0 H1 locs1 → W p l e R s m args below meth c H1 locs1 cells slots Q (F0 m (pc + 3) ls rest)) : W p l e R s m args below meth c H locs cells slots Q (F0 m pc ls (.int (iI z) :: .int (iI 0) :: .ref a :: .int (iI 0) :: .ref a0 :: rest)) := by
  subst hz
  have e0 : (iI 0).toNatClampNeg = 0 := iI_clamp (by omega)
  have en : (iI (n : Int)).toNatClampNeg = n := by rw [iI_clamp (by omega)]; omega
  have nl : ∀ x : Int, 0 ≤ x ∧ x ≤ 2147483647 → ¬ iI x < 0 := fun x hx q => by
    have := (iI_lt (a := x) (b := 0) (by omega)).mp q
    omega
  refine va_copyl T.1 T.2.1 (T.2.2.1.trans hsz.symm) T.2.2.2.1 (T.2.2.2.2 _ hlink) (T.2.2.2.2 _ mw_2_28) (T.2.2.2.2 _ mw_2_27) (T.2.2.2.2 _ mw_1_9) hK hP hD hS q0 q1 1 1 ha0 ha1 rfl rfl rfl (nl 0 (by omega)) (nl 0 (by omega)) (nl n (by omega)) (by rw [e0, en]; omega) (by rw [e0, en]; omega) (fun i _ => rfl) hr.1 hr.2 hdg (fun H1 locs1 h1 _ h3 => kk H1 locs1 (hup H1 ?_) h3)
  rw [e0, en] at h1
  exact h1
end XC
def bcL (N M : Int → Int) : Int → Int := cpZ (cpZ (cpZ (cpZ (uZ N 4 (M 4)) M 14 5) M 19 5) M 24 40) M 64 40
def bcS (N M : Int → Int) : Int → Int := cpZ (cpZ (cpZ (uZ N 7 (M 7)) M 452 201) M 653 201) M 854 201
def bcB (N M : Int → Int) : Int → Int := cpZ (cpZ (cpZ (cpZ (cpZ (uZ (uZ N 6 (M 6)) 9 (M 9)) M 152 60) M 212 60) M 272 60) M 332 60) M 392 60
def bcR (N M : Int → Int) : Int → Int := cpZ (cpZ (uZ N 8 (M 8)) M 120 32) M 10 4
theorem bc_all (N M : Int → Int) (k : Int) (h1 : 0 ≤ k) (h2 : k < 1055) (h3 : k < 112 ∨ 120 ≤ k) : bcR (bcB (bcS (bcL (cpZ (cpZ (uZ (uZ (uZ N 0 (M 0)) 1 (M 1)) 5 (M 5)) M 104 8) M 2 2) M) M) M) M k = M k := by
  unfold bcR bcB bcS bcL
  by_cases h10 : (10 : Int) ≤ k ∧ k < (10 : Int) + 4
  · exact cpZ_in h10
  refine (cpZ_ne h10).trans ?_
  by_cases h11 : (120 : Int) ≤ k ∧ k < (120 : Int) + 32
  · exact cpZ_in h11
  refine (cpZ_ne h11).trans ?_
  by_cases h12 : k = 8
  · rw [h12]; exact uZ_eq
  refine (uZ_ne h12).trans ?_
  by_cases h13 : (392 : Int) ≤ k ∧ k < (392 : Int) + 60
  · exact cpZ_in h13
  refine (cpZ_ne h13).trans ?_
  by_cases h14 : (332 : Int) ≤ k ∧ k < (332 : Int) + 60
  · exact cpZ_in h14
  refine (cpZ_ne h14).trans ?_
  by_cases h15 : (272 : Int) ≤ k ∧ k < (272 : Int) + 60
  · exact cpZ_in h15
  refine (cpZ_ne h15).trans ?_
  by_cases h16 : (212 : Int) ≤ k ∧ k < (212 : Int) + 60
  · exact cpZ_in h16
  refine (cpZ_ne h16).trans ?_
  by_cases h17 : (152 : Int) ≤ k ∧ k < (152 : Int) + 60
  · exact cpZ_in h17
  refine (cpZ_ne h17).trans ?_
  by_cases h18 : k = 9
  · rw [h18]; exact uZ_eq
  refine (uZ_ne h18).trans ?_
  by_cases h19 : k = 6
  · rw [h19]; exact uZ_eq
  refine (uZ_ne h19).trans ?_
  by_cases h20 : (854 : Int) ≤ k ∧ k < (854 : Int) + 201
  · exact cpZ_in h20
  refine (cpZ_ne h20).trans ?_
  by_cases h21 : (653 : Int) ≤ k ∧ k < (653 : Int) + 201
  · exact cpZ_in h21
  refine (cpZ_ne h21).trans ?_
  by_cases h22 : (452 : Int) ≤ k ∧ k < (452 : Int) + 201
  · exact cpZ_in h22
  refine (cpZ_ne h22).trans ?_
  by_cases h23 : k = 7
  · rw [h23]; exact uZ_eq
  refine (uZ_ne h23).trans ?_
  by_cases h24 : (64 : Int) ≤ k ∧ k < (64 : Int) + 40
  · exact cpZ_in h24
  refine (cpZ_ne h24).trans ?_
  by_cases h25 : (24 : Int) ≤ k ∧ k < (24 : Int) + 40
  · exact cpZ_in h25
  refine (cpZ_ne h25).trans ?_
  by_cases h26 : (19 : Int) ≤ k ∧ k < (19 : Int) + 5
  · exact cpZ_in h26
  refine (cpZ_ne h26).trans ?_
  by_cases h27 : (14 : Int) ≤ k ∧ k < (14 : Int) + 5
  · exact cpZ_in h27
  refine (cpZ_ne h27).trans ?_
  by_cases h28 : k = 4
  · rw [h28]; exact uZ_eq
  refine (uZ_ne h28).trans ?_
  by_cases h29 : (2 : Int) ≤ k ∧ k < (2 : Int) + 2
  · exact cpZ_in h29
  refine (cpZ_ne h29).trans ?_
  by_cases h30 : (104 : Int) ≤ k ∧ k < (104 : Int) + 8
  · exact cpZ_in h30
  refine (cpZ_ne h30).trans ?_
  by_cases h31 : k = 5
  · rw [h31]; exact uZ_eq
  refine (uZ_ne h31).trans ?_
  by_cases h32 : k = 1
  · rw [h32]; exact uZ_eq
  refine (uZ_ne h32).trans ?_
  by_cases h33 : k = 0
  · rw [h33]; exact uZ_eq
  refine (uZ_ne h33).trans ?_
  exfalso; omega
theorem two_bc {K : KT} {a b : Nat} {N M : Int → Int} {H : Heap} (hP : xP K (twoW K a (bcR (bcB (bcS (bcL (cpZ (cpZ (uZ (uZ (uZ N 0 (M 0)) 1 (M 1)) 5 (M 5)) M 104 8) M 2 2) M) M) M) M) b M) H) : xP K (twoW K a M b M) H := xP_app (ship_agree (bc_all N M) (xP_l hP)) (xP_r hP)
theorem su_c104 (K : KT) (o : Nat) (N M : Int → Int) : ∀ H1, xP K ((shipW K o N).set 1 (o + 1, .inl (K.2.1, 8, .inl (va_cpy (vI M 104) (vI N 104) 0 0 8)))) H1 → xP K (shipW K o (cpZ N M 104 8)) H1 := fun _ h => ship_mk h (congrArg iI (cpZ_ne (by omega)).symm) (congrArg iI (cpZ_ne (by omega)).symm) (congrArg iI (cpZ_ne (by omega)).symm) (vI_cpi 8) (vI_cpo 2 (by omega)) (congrArg iI (cpZ_ne (by omega)).symm) (vI_cpo 5 (by omega)) (vI_cpo 5 (by omega)) (vI_cpo 40 (by omega)) (vI_cpo 40 (by omega)) (congrArg iI (cpZ_ne (by omega)).symm) (vI_cpo 201 (by omega)) (vI_cpo 201 (by omega)) (vI_cpo 201 (by omega)) (congrArg iI (cpZ_ne (by omega)).symm) (congrArg lI (cpZ_ne (by omega)).symm) (vI_cpo 60 (by omega)) (vI_cpo 60 (by omega)) (vI_cpo 60 (by omega)) (vI_cpo 60 (by omega)) (vI_cpo 60 (by omega)) (congrArg lI (cpZ_ne (by omega)).symm) (vI_cpo 32 (by omega)) (vL_cpo 4 (by omega))
theorem su_c2 (K : KT) (o : Nat) (N M : Int → Int) : ∀ H1, xP K ((shipW K o N).set 2 (o + 2, .inl (K.2.1, 2, .inl (va_cpy (vI M 2) (vI N 2) 0 0 2)))) H1 → xP K (shipW K o (cpZ N M 2 2)) H1 := fun _ h => ship_mk h (congrArg iI (cpZ_ne (by omega)).symm) (congrArg iI (cpZ_ne (by omega)).symm) (congrArg iI (cpZ_ne (by omega)).symm) (vI_cpo 8 (by omega)) (vI_cpi 2) (congrArg iI (cpZ_ne (by omega)).symm) (vI_cpo 5 (by omega)) (vI_cpo 5 (by omega)) (vI_cpo 40 (by omega)) (vI_cpo 40 (by omega)) (congrArg iI (cpZ_ne (by omega)).symm) (vI_cpo 201 (by omega)) (vI_cpo 201 (by omega)) (vI_cpo 201 (by omega)) (congrArg iI (cpZ_ne (by omega)).symm) (congrArg lI (cpZ_ne (by omega)).symm) (vI_cpo 60 (by omega)) (vI_cpo 60 (by omega)) (vI_cpo 60 (by omega)) (vI_cpo 60 (by omega)) (vI_cpo 60 (by omega)) (congrArg lI (cpZ_ne (by omega)).symm) (vI_cpo 32 (by omega)) (vL_cpo 4 (by omega))
theorem su_c14 (K : KT) (o : Nat) (N M : Int → Int) : ∀ H1, xP K ((shipW K o N).set 4 (o + 4, .inl (K.2.1, 5, .inl (va_cpy (vI M 14) (vI N 14) 0 0 5)))) H1 → xP K (shipW K o (cpZ N M 14 5)) H1 := fun _ h => ship_mk h (congrArg iI (cpZ_ne (by omega)).symm) (congrArg iI (cpZ_ne (by omega)).symm) (congrArg iI (cpZ_ne (by omega)).symm) (vI_cpo 8 (by omega)) (vI_cpo 2 (by omega)) (congrArg iI (cpZ_ne (by omega)).symm) (vI_cpi 5) (vI_cpo 5 (by omega)) (vI_cpo 40 (by omega)) (vI_cpo 40 (by omega)) (congrArg iI (cpZ_ne (by omega)).symm) (vI_cpo 201 (by omega)) (vI_cpo 201 (by omega)) (vI_cpo 201 (by omega)) (congrArg iI (cpZ_ne (by omega)).symm) (congrArg lI (cpZ_ne (by omega)).symm) (vI_cpo 60 (by omega)) (vI_cpo 60 (by omega)) (vI_cpo 60 (by omega)) (vI_cpo 60 (by omega)) (vI_cpo 60 (by omega)) (congrArg lI (cpZ_ne (by omega)).symm) (vI_cpo 32 (by omega)) (vL_cpo 4 (by omega))
theorem su_c19 (K : KT) (o : Nat) (N M : Int → Int) : ∀ H1, xP K ((shipW K o N).set 5 (o + 5, .inl (K.2.1, 5, .inl (va_cpy (vI M 19) (vI N 19) 0 0 5)))) H1 → xP K (shipW K o (cpZ N M 19 5)) H1 := fun _ h => ship_mk h (congrArg iI (cpZ_ne (by omega)).symm) (congrArg iI (cpZ_ne (by omega)).symm) (congrArg iI (cpZ_ne (by omega)).symm) (vI_cpo 8 (by omega)) (vI_cpo 2 (by omega)) (congrArg iI (cpZ_ne (by omega)).symm) (vI_cpo 5 (by omega)) (vI_cpi 5) (vI_cpo 40 (by omega)) (vI_cpo 40 (by omega)) (congrArg iI (cpZ_ne (by omega)).symm) (vI_cpo 201 (by omega)) (vI_cpo 201 (by omega)) (vI_cpo 201 (by omega)) (congrArg iI (cpZ_ne (by omega)).symm) (congrArg lI (cpZ_ne (by omega)).symm) (vI_cpo 60 (by omega)) (vI_cpo 60 (by omega)) (vI_cpo 60 (by omega)) (vI_cpo 60 (by omega)) (vI_cpo 60 (by omega)) (congrArg lI (cpZ_ne (by omega)).symm) (vI_cpo 32 (by omega)) (vL_cpo 4 (by omega))
theorem su_c24 (K : KT) (o : Nat) (N M : Int → Int) : ∀ H1, xP K ((shipW K o N).set 6 (o + 6, .inl (K.2.1, 40, .inl (va_cpy (vI M 24) (vI N 24) 0 0 40)))) H1 → xP K (shipW K o (cpZ N M 24 40)) H1 := fun _ h => ship_mk h (congrArg iI (cpZ_ne (by omega)).symm) (congrArg iI (cpZ_ne (by omega)).symm) (congrArg iI (cpZ_ne (by omega)).symm) (vI_cpo 8 (by omega)) (vI_cpo 2 (by omega)) (congrArg iI (cpZ_ne (by omega)).symm) (vI_cpo 5 (by omega)) (vI_cpo 5 (by omega)) (vI_cpi 40) (vI_cpo 40 (by omega)) (congrArg iI (cpZ_ne (by omega)).symm) (vI_cpo 201 (by omega)) (vI_cpo 201 (by omega)) (vI_cpo 201 (by omega)) (congrArg iI (cpZ_ne (by omega)).symm) (congrArg lI (cpZ_ne (by omega)).symm) (vI_cpo 60 (by omega)) (vI_cpo 60 (by omega)) (vI_cpo 60 (by omega)) (vI_cpo 60 (by omega)) (vI_cpo 60 (by omega)) (congrArg lI (cpZ_ne (by omega)).symm) (vI_cpo 32 (by omega)) (vL_cpo 4 (by omega))
theorem su_c64 (K : KT) (o : Nat) (N M : Int → Int) : ∀ H1, xP K ((shipW K o N).set 7 (o + 7, .inl (K.2.1, 40, .inl (va_cpy (vI M 64) (vI N 64) 0 0 40)))) H1 → xP K (shipW K o (cpZ N M 64 40)) H1 := fun _ h => ship_mk h (congrArg iI (cpZ_ne (by omega)).symm) (congrArg iI (cpZ_ne (by omega)).symm) (congrArg iI (cpZ_ne (by omega)).symm) (vI_cpo 8 (by omega)) (vI_cpo 2 (by omega)) (congrArg iI (cpZ_ne (by omega)).symm) (vI_cpo 5 (by omega)) (vI_cpo 5 (by omega)) (vI_cpo 40 (by omega)) (vI_cpi 40) (congrArg iI (cpZ_ne (by omega)).symm) (vI_cpo 201 (by omega)) (vI_cpo 201 (by omega)) (vI_cpo 201 (by omega)) (congrArg iI (cpZ_ne (by omega)).symm) (congrArg lI (cpZ_ne (by omega)).symm) (vI_cpo 60 (by omega)) (vI_cpo 60 (by omega)) (vI_cpo 60 (by omega)) (vI_cpo 60 (by omega)) (vI_cpo 60 (by omega)) (congrArg lI (cpZ_ne (by omega)).symm) (vI_cpo 32 (by omega)) (vL_cpo 4 (by omega))
theorem su_c452 (K : KT) (o : Nat) (N M : Int → Int) : ∀ H1, xP K ((shipW K o N).set 9 (o + 9, .inl (K.2.1, 201, .inl (va_cpy (vI M 452) (vI N 452) 0 0 201)))) H1 → xP K (shipW K o (cpZ N M 452 201)) H1 := fun _ h => ship_mk h (congrArg iI (cpZ_ne (by omega)).symm) (congrArg iI (cpZ_ne (by omega)).symm) (congrArg iI (cpZ_ne (by omega)).symm) (vI_cpo 8 (by omega)) (vI_cpo 2 (by omega)) (congrArg iI (cpZ_ne (by omega)).symm) (vI_cpo 5 (by omega)) (vI_cpo 5 (by omega)) (vI_cpo 40 (by omega)) (vI_cpo 40 (by omega)) (congrArg iI (cpZ_ne (by omega)).symm) (vI_cpi 201) (vI_cpo 201 (by omega)) (vI_cpo 201 (by omega)) (congrArg iI (cpZ_ne (by omega)).symm) (congrArg lI (cpZ_ne (by omega)).symm) (vI_cpo 60 (by omega)) (vI_cpo 60 (by omega)) (vI_cpo 60 (by omega)) (vI_cpo 60 (by omega)) (vI_cpo 60 (by omega)) (congrArg lI (cpZ_ne (by omega)).symm) (vI_cpo 32 (by omega)) (vL_cpo 4 (by omega))
theorem su_c653 (K : KT) (o : Nat) (N M : Int → Int) : ∀ H1, xP K ((shipW K o N).set 10 (o + 10, .inl (K.2.1, 201, .inl (va_cpy (vI M 653) (vI N 653) 0 0 201)))) H1 → xP K (shipW K o (cpZ N M 653 201)) H1 := fun _ h => ship_mk h (congrArg iI (cpZ_ne (by omega)).symm) (congrArg iI (cpZ_ne (by omega)).symm) (congrArg iI (cpZ_ne (by omega)).symm) (vI_cpo 8 (by omega)) (vI_cpo 2 (by omega)) (congrArg iI (cpZ_ne (by omega)).symm) (vI_cpo 5 (by omega)) (vI_cpo 5 (by omega)) (vI_cpo 40 (by omega)) (vI_cpo 40 (by omega)) (congrArg iI (cpZ_ne (by omega)).symm) (vI_cpo 201 (by omega)) (vI_cpi 201) (vI_cpo 201 (by omega)) (congrArg iI (cpZ_ne (by omega)).symm) (congrArg lI (cpZ_ne (by omega)).symm) (vI_cpo 60 (by omega)) (vI_cpo 60 (by omega)) (vI_cpo 60 (by omega)) (vI_cpo 60 (by omega)) (vI_cpo 60 (by omega)) (congrArg lI (cpZ_ne (by omega)).symm) (vI_cpo 32 (by omega)) (vL_cpo 4 (by omega))
theorem su_c854 (K : KT) (o : Nat) (N M : Int → Int) : ∀ H1, xP K ((shipW K o N).set 11 (o + 11, .inl (K.2.1, 201, .inl (va_cpy (vI M 854) (vI N 854) 0 0 201)))) H1 → xP K (shipW K o (cpZ N M 854 201)) H1 := fun _ h => ship_mk h (congrArg iI (cpZ_ne (by omega)).symm) (congrArg iI (cpZ_ne (by omega)).symm) (congrArg iI (cpZ_ne (by omega)).symm) (vI_cpo 8 (by omega)) (vI_cpo 2 (by omega)) (congrArg iI (cpZ_ne (by omega)).symm) (vI_cpo 5 (by omega)) (vI_cpo 5 (by omega)) (vI_cpo 40 (by omega)) (vI_cpo 40 (by omega)) (congrArg iI (cpZ_ne (by omega)).symm) (vI_cpo 201 (by omega)) (vI_cpo 201 (by omega)) (vI_cpi 201) (congrArg iI (cpZ_ne (by omega)).symm) (congrArg lI (cpZ_ne (by omega)).symm) (vI_cpo 60 (by omega)) (vI_cpo 60 (by omega)) (vI_cpo 60 (by omega)) (vI_cpo 60 (by omega)) (vI_cpo 60 (by omega)) (congrArg lI (cpZ_ne (by omega)).symm) (vI_cpo 32 (by omega)) (vL_cpo 4 (by omega))
theorem su_c152 (K : KT) (o : Nat) (N M : Int → Int) : ∀ H1, xP K ((shipW K o N).set 13 (o + 13, .inl (K.2.1, 60, .inl (va_cpy (vI M 152) (vI N 152) 0 0 60)))) H1 → xP K (shipW K o (cpZ N M 152 60)) H1 := fun _ h => ship_mk h (congrArg iI (cpZ_ne (by omega)).symm) (congrArg iI (cpZ_ne (by omega)).symm) (congrArg iI (cpZ_ne (by omega)).symm) (vI_cpo 8 (by omega)) (vI_cpo 2 (by omega)) (congrArg iI (cpZ_ne (by omega)).symm) (vI_cpo 5 (by omega)) (vI_cpo 5 (by omega)) (vI_cpo 40 (by omega)) (vI_cpo 40 (by omega)) (congrArg iI (cpZ_ne (by omega)).symm) (vI_cpo 201 (by omega)) (vI_cpo 201 (by omega)) (vI_cpo 201 (by omega)) (congrArg iI (cpZ_ne (by omega)).symm) (congrArg lI (cpZ_ne (by omega)).symm) (vI_cpi 60) (vI_cpo 60 (by omega)) (vI_cpo 60 (by omega)) (vI_cpo 60 (by omega)) (vI_cpo 60 (by omega)) (congrArg lI (cpZ_ne (by omega)).symm) (vI_cpo 32 (by omega)) (vL_cpo 4 (by omega))
theorem su_c212 (K : KT) (o : Nat) (N M : Int → Int) : ∀ H1, xP K ((shipW K o N).set 14 (o + 14, .inl (K.2.1, 60, .inl (va_cpy (vI M 212) (vI N 212) 0 0 60)))) H1 → xP K (shipW K o (cpZ N M 212 60)) H1 := fun _ h => ship_mk h (congrArg iI (cpZ_ne (by omega)).symm) (congrArg iI (cpZ_ne (by omega)).symm) (congrArg iI (cpZ_ne (by omega)).symm) (vI_cpo 8 (by omega)) (vI_cpo 2 (by omega)) (congrArg iI (cpZ_ne (by omega)).symm) (vI_cpo 5 (by omega)) (vI_cpo 5 (by omega)) (vI_cpo 40 (by omega)) (vI_cpo 40 (by omega)) (congrArg iI (cpZ_ne (by omega)).symm) (vI_cpo 201 (by omega)) (vI_cpo 201 (by omega)) (vI_cpo 201 (by omega)) (congrArg iI (cpZ_ne (by omega)).symm) (congrArg lI (cpZ_ne (by omega)).symm) (vI_cpo 60 (by omega)) (vI_cpi 60) (vI_cpo 60 (by omega)) (vI_cpo 60 (by omega)) (vI_cpo 60 (by omega)) (congrArg lI (cpZ_ne (by omega)).symm) (vI_cpo 32 (by omega)) (vL_cpo 4 (by omega))
theorem su_c272 (K : KT) (o : Nat) (N M : Int → Int) : ∀ H1, xP K ((shipW K o N).set 15 (o + 15, .inl (K.2.1, 60, .inl (va_cpy (vI M 272) (vI N 272) 0 0 60)))) H1 → xP K (shipW K o (cpZ N M 272 60)) H1 := fun _ h => ship_mk h (congrArg iI (cpZ_ne (by omega)).symm) (congrArg iI (cpZ_ne (by omega)).symm) (congrArg iI (cpZ_ne (by omega)).symm) (vI_cpo 8 (by omega)) (vI_cpo 2 (by omega)) (congrArg iI (cpZ_ne (by omega)).symm) (vI_cpo 5 (by omega)) (vI_cpo 5 (by omega)) (vI_cpo 40 (by omega)) (vI_cpo 40 (by omega)) (congrArg iI (cpZ_ne (by omega)).symm) (vI_cpo 201 (by omega)) (vI_cpo 201 (by omega)) (vI_cpo 201 (by omega)) (congrArg iI (cpZ_ne (by omega)).symm) (congrArg lI (cpZ_ne (by omega)).symm) (vI_cpo 60 (by omega)) (vI_cpo 60 (by omega)) (vI_cpi 60) (vI_cpo 60 (by omega)) (vI_cpo 60 (by omega)) (congrArg lI (cpZ_ne (by omega)).symm) (vI_cpo 32 (by omega)) (vL_cpo 4 (by omega))
theorem su_c332 (K : KT) (o : Nat) (N M : Int → Int) : ∀ H1, xP K ((shipW K o N).set 16 (o + 16, .inl (K.2.1, 60, .inl (va_cpy (vI M 332) (vI N 332) 0 0 60)))) H1 → xP K (shipW K o (cpZ N M 332 60)) H1 := fun _ h => ship_mk h (congrArg iI (cpZ_ne (by omega)).symm) (congrArg iI (cpZ_ne (by omega)).symm) (congrArg iI (cpZ_ne (by omega)).symm) (vI_cpo 8 (by omega)) (vI_cpo 2 (by omega)) (congrArg iI (cpZ_ne (by omega)).symm) (vI_cpo 5 (by omega)) (vI_cpo 5 (by omega)) (vI_cpo 40 (by omega)) (vI_cpo 40 (by omega)) (congrArg iI (cpZ_ne (by omega)).symm) (vI_cpo 201 (by omega)) (vI_cpo 201 (by omega)) (vI_cpo 201 (by omega)) (congrArg iI (cpZ_ne (by omega)).symm) (congrArg lI (cpZ_ne (by omega)).symm) (vI_cpo 60 (by omega)) (vI_cpo 60 (by omega)) (vI_cpo 60 (by omega)) (vI_cpi 60) (vI_cpo 60 (by omega)) (congrArg lI (cpZ_ne (by omega)).symm) (vI_cpo 32 (by omega)) (vL_cpo 4 (by omega))
theorem su_c392 (K : KT) (o : Nat) (N M : Int → Int) : ∀ H1, xP K ((shipW K o N).set 17 (o + 17, .inl (K.2.1, 60, .inl (va_cpy (vI M 392) (vI N 392) 0 0 60)))) H1 → xP K (shipW K o (cpZ N M 392 60)) H1 := fun _ h => ship_mk h (congrArg iI (cpZ_ne (by omega)).symm) (congrArg iI (cpZ_ne (by omega)).symm) (congrArg iI (cpZ_ne (by omega)).symm) (vI_cpo 8 (by omega)) (vI_cpo 2 (by omega)) (congrArg iI (cpZ_ne (by omega)).symm) (vI_cpo 5 (by omega)) (vI_cpo 5 (by omega)) (vI_cpo 40 (by omega)) (vI_cpo 40 (by omega)) (congrArg iI (cpZ_ne (by omega)).symm) (vI_cpo 201 (by omega)) (vI_cpo 201 (by omega)) (vI_cpo 201 (by omega)) (congrArg iI (cpZ_ne (by omega)).symm) (congrArg lI (cpZ_ne (by omega)).symm) (vI_cpo 60 (by omega)) (vI_cpo 60 (by omega)) (vI_cpo 60 (by omega)) (vI_cpo 60 (by omega)) (vI_cpi 60) (congrArg lI (cpZ_ne (by omega)).symm) (vI_cpo 32 (by omega)) (vL_cpo 4 (by omega))
theorem su_c120 (K : KT) (o : Nat) (N M : Int → Int) : ∀ H1, xP K ((shipW K o N).set 19 (o + 19, .inl (K.2.1, 32, .inl (va_cpy (vI M 120) (vI N 120) 0 0 32)))) H1 → xP K (shipW K o (cpZ N M 120 32)) H1 := fun _ h => ship_mk h (congrArg iI (cpZ_ne (by omega)).symm) (congrArg iI (cpZ_ne (by omega)).symm) (congrArg iI (cpZ_ne (by omega)).symm) (vI_cpo 8 (by omega)) (vI_cpo 2 (by omega)) (congrArg iI (cpZ_ne (by omega)).symm) (vI_cpo 5 (by omega)) (vI_cpo 5 (by omega)) (vI_cpo 40 (by omega)) (vI_cpo 40 (by omega)) (congrArg iI (cpZ_ne (by omega)).symm) (vI_cpo 201 (by omega)) (vI_cpo 201 (by omega)) (vI_cpo 201 (by omega)) (congrArg iI (cpZ_ne (by omega)).symm) (congrArg lI (cpZ_ne (by omega)).symm) (vI_cpo 60 (by omega)) (vI_cpo 60 (by omega)) (vI_cpo 60 (by omega)) (vI_cpo 60 (by omega)) (vI_cpo 60 (by omega)) (congrArg lI (cpZ_ne (by omega)).symm) (vI_cpi 32) (vL_cpo 4 (by omega))
theorem su_c10 (K : KT) (o : Nat) (N M : Int → Int) : ∀ H1, xP K ((shipW K o N).set 20 (o + 20, .inl (K.2.2.1, 4, .inr (.inl (va_cpy (vL M 10) (vL N 10) 0 0 4))))) H1 → xP K (shipW K o (cpZ N M 10 4)) H1 := fun _ h => ship_mk h (congrArg iI (cpZ_ne (by omega)).symm) (congrArg iI (cpZ_ne (by omega)).symm) (congrArg iI (cpZ_ne (by omega)).symm) (vI_cpo 8 (by omega)) (vI_cpo 2 (by omega)) (congrArg iI (cpZ_ne (by omega)).symm) (vI_cpo 5 (by omega)) (vI_cpo 5 (by omega)) (vI_cpo 40 (by omega)) (vI_cpo 40 (by omega)) (congrArg iI (cpZ_ne (by omega)).symm) (vI_cpo 201 (by omega)) (vI_cpo 201 (by omega)) (vI_cpo 201 (by omega)) (congrArg iI (cpZ_ne (by omega)).symm) (congrArg lI (cpZ_ne (by omega)).symm) (vI_cpo 60 (by omega)) (vI_cpo 60 (by omega)) (vI_cpo 60 (by omega)) (vI_cpo 60 (by omega)) (vI_cpo 60 (by omega)) (congrArg lI (cpZ_ne (by omega)).symm) (vI_cpo 32 (by omega)) (vL_cpi 4)
