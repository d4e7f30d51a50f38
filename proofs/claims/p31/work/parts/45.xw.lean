def histW (K : KT) (h : Nat) (G : Int → Int) : va_W := [(h, .inr (1, [.int (iI (G 0)), .int (iI (G 1)), .ref (h + 1)])), (h + 1, .inl (K.2.2.2.2, 5, .inr (.inr (.inr (.inr fun j => some (h + 2 + 21 * j))))))]
def logW (K : KT) (g : Nat) (L NU TT : Int → Int) : va_W := [(g, .inr (3, [.int (iI (L 0)), .int (iI (L 1)), .int (iI (L 2)), .int (iI (L 3)), .int (iI (L 4)), .int (iI (L 5)), .int (iI (L 6)), .ref (g + 1), .ref (g + 2)])), (g + 1, .inl (K.2.1, 4, .inl (vI NU 0))), (g + 2, .inl (K.2.2.2.1, 80, .inl (vI TT 0)))]
def topW (o : Nat) : va_W := [(o, .inr (7, [.ref (o + 1), .ref (o + 22), .ref (o + 43), .ref (o + 150)]))]
def ringW (K : KT) (r : Nat) (R : Nat → Int → Int) : va_W := shipW K (r + 21 * 0) (R 0) ++ (shipW K (r + 21 * 1) (R 1) ++ (shipW K (r + 21 * 2) (R 2) ++ (shipW K (r + 21 * 3) (R 3) ++ shipW K (r + 21 * 4) (R 4))))
def xW (K : KT) (o : Nat) (N M : Int → Int) (R : Nat → Int → Int) (G L NU TT : Int → Int) : va_W := topW o ++ (histW K (o + 43) G ++ (logW K (o + 150) L NU TT ++ (shipW K (o + 1) N ++ (shipW K (o + 22) M ++ ringW K (o + 43 + 2) R))))
theorem hist_D (K : KT) (h : Nat) (G : Int → Int) : va_D (Blk h 2) (histW K h G) := blk_D (cns_at _ h ⟨rfl, rfl, trivial⟩) rfl
theorem log_D (K : KT) (g : Nat) (L NU TT : Int → Int) : va_D (Blk g 3) (logW K g L NU TT) := blk_D (cns_at _ g ⟨rfl, rfl, rfl, trivial⟩) rfl
theorem top_D (o : Nat) : va_D (Blk o 1) (topW o) := blk_D (cns_at _ o ⟨rfl, trivial⟩) rfl
theorem blk_x {a n b m q : Nat} (h : a + n ≤ b ∨ b + m ≤ a) (h1 : Blk a n q) (h2 : Blk b m q) : False := by
  have h3 := h1.1; have h4 := h1.2; have h5 := h2.1; have h6 := h2.2
  omega
theorem blk_in {a n b m q : Nat} (h : b ≤ a ∧ a + n ≤ b + m) (h1 : Blk a n q) : Blk b m q := ⟨by have h3 := h1.1; omega, by have h4 := h1.2; omega⟩
theorem bk2_x {a c b m q : Nat} (h : (a + 21 ≤ b ∨ b + m ≤ a) ∧ (c + 21 ≤ b ∨ b + m ≤ c)) (h1 : Bk2 a c q) (h2 : Blk b m q) : False := h1.elim (fun h1 => blk_x h.1 h1 h2) (fun h1 => blk_x h.2 h1 h2)
theorem bk2_in {a c b m q : Nat} (h : (b ≤ a ∧ a + 21 ≤ b + m) ∧ (b ≤ c ∧ c + 21 ≤ b + m)) (h1 : Bk2 a c q) : Blk b m q := h1.elim (fun h1 => blk_in h.1 h1) (fun h1 => blk_in h.2 h1)
theorem ring_D (K : KT) (r : Nat) (R : Nat → Int → Int) : va_D (Blk r 105) (ringW K r R) := D_app (A1 := Blk (r + 21 * 0) 21) (A2 := Blk (r + 21 * 1) 84) (ship_D _ _ _) (D_app (A1 := Blk (r + 21 * 1) 21) (A2 := Blk (r + 21 * 2) 63) (ship_D _ _ _) (D_app (A1 := Blk (r + 21 * 2) 21) (A2 := Blk (r + 21 * 3) 42) (ship_D _ _ _) (D_app (A1 := Blk (r + 21 * 3) 21) (A2 := Blk (r + 21 * 4) 21) (ship_D _ _ _) (ship_D _ _ _) (fun _ => blk_in (by omega)) (fun _ => blk_in (by omega)) (fun _ => blk_x (by omega))) (fun _ => blk_in (by omega)) (fun _ => blk_in (by omega)) (fun _ => blk_x (by omega))) (fun _ => blk_in (by omega)) (fun _ => blk_in (by omega)) (fun _ => blk_x (by omega))) (fun _ => blk_in (by omega)) (fun _ => blk_in (by omega)) (fun _ => blk_x (by omega))
def upR (R : Nat → Int → Int) (i : Nat) (N : Int → Int) : Nat → Int → Int := fun j => if j = i then N else R j
theorem upR_eq {R : Nat → Int → Int} {i : Nat} {N : Int → Int} : upR R i N i = N := if_pos rfl
theorem upR_ne {R : Nat → Int → Int} {i j : Nat} {N : Int → Int} (h : j ≠ i) : upR R i N j = R j := if_neg h
theorem ring_get {K : KT} {r : Nat} {R : Nat → Int → Int} {H : Heap} (h : xP K (ringW K r R) H) : ∀ i : Nat, i < 5 → xP K (shipW K (r + 21 * i) (R i)) H
  | 0, _ => xP_l h
  | 1, _ => xP_l (xP_r h)
  | 2, _ => xP_l (xP_r (xP_r h))
  | 3, _ => xP_l (xP_r (xP_r (xP_r h)))
  | 4, _ => xP_r (xP_r (xP_r (xP_r h)))
  | n + 5, hn => by omega
theorem ring_mk {K : KT} {r : Nat} {R : Nat → Int → Int} {H : Heap} (h : ∀ i : Nat, i < 5 → xP K (shipW K (r + 21 * i) (R i)) H) : xP K (ringW K r R) H := xP_app (h 0 (by omega)) (xP_app (h 1 (by omega)) (xP_app (h 2 (by omega)) (xP_app (h 3 (by omega)) (h 4 (by omega)))))
theorem ring_up {K : KT} {r b i : Nat} {R : Nat → Int → Int} {N2 : Int → Int} {H H1 : Heap} (h : xP K (ringW K r R) H) (hb : b + 21 ≤ r ∨ r + 105 ≤ b) (hi : i < 5) (hk : ∀ q : Nat, q < H.size → ¬ Bk2 (r + 21 * i) b q → H1[q]? = H[q]?) (h1 : xP K (shipW K (r + 21 * i) N2) H1) : xP K (ringW K r (upR R i N2)) H1 := ring_mk fun j hj => by
  by_cases e : j = i
  · rw [e, upR_eq]; exact h1
  · rw [upR_ne e]
    exact xP_out (ring_get h j hj) (ship_D K _ _) (fun q a c => bk2_x (by omega) a c) hk
theorem xW_D (K : KT) (o : Nat) (N M : Int → Int) (R : Nat → Int → Int) (G L NU TT : Int → Int) : va_D (Blk o 153) (xW K o N M R G L NU TT) := by
  have d1 : va_D (Blk (o + 22) 128) (shipW K (o + 22) M ++ ringW K (o + 43 + 2) R) := D_app (ship_D _ _ _) (ring_D _ _ _) (fun _ => blk_in (by omega)) (fun _ => blk_in (by omega)) (fun _ => blk_x (by omega))
  have d2 : va_D (fun q => Blk (o + 1) 42 q ∨ Blk (o + 45) 105 q) (shipW K (o + 1) N ++ (shipW K (o + 22) M ++ ringW K (o + 43 + 2) R)) := D_app (ship_D _ _ _) (D_app (B := fun q => Blk (o + 22) 21 q ∨ Blk (o + 45) 105 q) (ship_D _ _ _) (ring_D _ _ _) (fun _ => Or.inl) (fun _ => Or.inr) (fun _ => blk_x (by omega))) (fun _ h => Or.inl (blk_in (by omega) h)) (fun _ h => h.elim (fun h => Or.inl (blk_in (by omega) h)) Or.inr) (fun _ h1 h => h.elim (blk_x (by omega) h1) (blk_x (by omega) h1))
  have d3 : va_D (fun q => Blk (o + 150) 3 q ∨ (Blk (o + 1) 42 q ∨ Blk (o + 45) 105 q)) (logW K (o + 150) L NU TT ++ (shipW K (o + 1) N ++ (shipW K (o + 22) M ++ ringW K (o + 43 + 2) R))) := D_app (log_D _ _ _ _ _) d2 (fun _ => Or.inl) (fun _ => Or.inr) (fun _ h1 h => h.elim (blk_x (by omega) h1) (blk_x (by omega) h1))
  have d4 : va_D (fun q => Blk (o + 43) 2 q ∨ (Blk (o + 150) 3 q ∨ (Blk (o + 1) 42 q ∨ Blk (o + 45) 105 q))) (histW K (o + 43) G ++ (logW K (o + 150) L NU TT ++ (shipW K (o + 1) N ++ (shipW K (o + 22) M ++ ringW K (o + 43 + 2) R)))) := D_app (hist_D _ _ _) d3 (fun _ => Or.inl) (fun _ => Or.inr) (fun _ h1 h => h.elim (blk_x (by omega) h1) (fun h => h.elim (blk_x (by omega) h1) (blk_x (by omega) h1)))
  exact D_app (top_D o) d4 (fun _ => blk_in (by omega)) (fun _ h => h.elim (blk_in (by omega)) (fun h => h.elim (blk_in (by omega)) (fun h => h.elim (blk_in (by omega)) (blk_in (by omega))))) (fun _ h1 h => h.elim (blk_x (by omega) h1) (fun h => h.elim (blk_x (by omega) h1) (fun h => h.elim (blk_x (by omega) h1) (blk_x (by omega) h1))))
section XWP
variable {K : KT} {o : Nat} {N M : Int → Int} {R : Nat → Int → Int} {G L NU TT : Int → Int} {H : Heap}
theorem xW_mk (h0 : xP K (topW o) H) (h1 : xP K (histW K (o + 43) G) H) (h2 : xP K (logW K (o + 150) L NU TT) H) (h3 : xP K (shipW K (o + 1) N) H) (h4 : xP K (shipW K (o + 22) M) H) (h5 : xP K (ringW K (o + 43 + 2) R) H) : xP K (xW K o N M R G L NU TT) H := xP_app h0 (xP_app h1 (xP_app h2 (xP_app h3 (xP_app h4 h5))))
theorem xW_0 (h : xP K (xW K o N M R G L NU TT) H) : xP K (topW o) H := xP_l h
theorem xW_1 (h : xP K (xW K o N M R G L NU TT) H) : xP K (histW K (o + 43) G) H := xP_l (xP_r h)
theorem xW_2 (h : xP K (xW K o N M R G L NU TT) H) : xP K (logW K (o + 150) L NU TT) H := xP_l (xP_r (xP_r h))
theorem xW_3 (h : xP K (xW K o N M R G L NU TT) H) : xP K (shipW K (o + 1) N) H := xP_l (xP_r (xP_r (xP_r h)))
theorem xW_4 (h : xP K (xW K o N M R G L NU TT) H) : xP K (shipW K (o + 22) M) H := xP_l (xP_r (xP_r (xP_r (xP_r h))))
theorem xW_5 (h : xP K (xW K o N M R G L NU TT) H) : xP K (ringW K (o + 43 + 2) R) H := xP_r (xP_r (xP_r (xP_r (xP_r h))))
end XWP
theorem two_upR {K : KT} {w1 w2 w2' : va_W} {n k : Nat} {x : Nat × va_E} (hn : w1.length + k = n) (h : ∀ H1, xP K (w2.set k x) H1 → xP K w2' H1) : ∀ H1, xP K ((w1 ++ w2).set n x) H1 → xP K (w1 ++ w2') H1 := fun H1 q => by
  subst hn
  rw [set_app2] at q
  exact xP_app (xP_l q) (h H1 (xP_r q))
def spF (G : Int → Int) : Int := if G 1 < 4 then G 1 + 1 else 0
def fiG (G : Int → Int) (an : Int) : Int → Int := if iI an < 0 then G else uZ (uZ G 1 (spF G)) 0 (if G 0 < 4 then G 0 + 1 else 4)
theorem spF_in {G : Int → Int} (h : 0 ≤ G 1 ∧ G 1 ≤ 4) : 0 ≤ spF G ∧ spF G ≤ 4 := by
  unfold spF
  split <;> omega
section XAQ
variable {p : Program} {l : Launch} {e : Env} {R : Room} {s : State} {m : MethodId} {args : Array Value} {below : List Frame} {meth : Method} {c : Code} {H : Heap} {locs : List Loc} {cells slots : Nat} {Q : State → Prop}
variable {cc : ByteArray} {pc nL : Nat} {ls : Array Slot} {rest : List Value} {own : String} {K : KT} {ws : va_W} {a : Nat}
theorem xa_aald (T : CF p m c cc nL s args own) (hK : xK K s) (hP : xP K ws H) (q0 : Nat) {n b : Nat} {f : Nat → Option Nat} (ha : ws[q0]? = some (a, .inl (K.2.2.2.2, n, .inr (.inr (.inr (.inr f)))))) {z : Int} (hz : 0 ≤ z ∧ z < (n : Int)) (hn : n ≤ 2147483647) (hf : f z.toNat = some b) (hdg : decode cc pc = .ok (.aaload, 1)) (k : W p l e R s m args below meth c H locs cells slots Q (F0 m (pc + 1) ls (.ref b :: rest))) : W p l e R s m args below meth c H locs cells slots Q (F0 m pc ls (.int (iI z) :: .ref a :: rest)) := by
  refine va_aldq T.1 T.2.1 hK hP q0 3 ha rfl (iI_in hz hn) hdg ?_
  rw [iI_clamp (by omega), hf]
  exact k
end XAQ
theorem hist_mk {K : KT} {h : Nat} {G : Int → Int} {H : Heap} {x0 x1 : Int32} (q : xP K [(h, .inr (1, [.int x0, .int x1, .ref (h + 1)])), (h + 1, .inl (K.2.2.2.2, 5, .inr (.inr (.inr (.inr fun j => some (h + 2 + 21 * j))))))] H) (e0 : x0 = iI (G 0)) (e1 : x1 = iI (G 1)) : xP K (histW K h G) H := xP_cEs q ⟨cE_rf (by rw [e0, e1]), cE_rf rfl, trivial⟩
theorem log_mk {K : KT} {g : Nat} {L NU TT : Int → Int} {H : Heap} {x0 : Int32} {x1 : Int32} {x2 : Int32} {x3 : Int32} {x4 : Int32} {x5 : Int32} {x6 : Int32} {f0 f1 : Nat → Int32} (h : xP K [(g, .inr (3, [.int x0, .int x1, .int x2, .int x3, .int x4, .int x5, .int x6, .ref (g + 1), .ref (g + 2)])), (g + 1, .inl (K.2.1, 4, .inl f0)), (g + 2, .inl (K.2.2.2.1, 80, .inl f1))] H) (e0 : x0 = iI (L 0)) (e1 : x1 = iI (L 1)) (e2 : x2 = iI (L 2)) (e3 : x3 = iI (L 3)) (e4 : x4 = iI (L 4)) (e5 : x5 = iI (L 5)) (e6 : x6 = iI (L 6)) (h0 : ∀ j, j < 4 → f0 j = vI NU 0 j) (h1 : ∀ j, j < 80 → f1 j = vI TT 0 j) : xP K (logW K g L NU TT) H := xP_cEs h ⟨cE_rf (by rw [e0, e1, e2, e3, e4, e5, e6]), cE_i h0, cE_i h1, trivial⟩
theorem lu_L0 (K : KT) (g : Nat) (L NU TT : Int → Int) (v : Int) : ∀ H1, xP K ((logW K g L NU TT).set 0 (g, .inr (3, ([.int (iI (L 0)), .int (iI (L 1)), .int (iI (L 2)), .int (iI (L 3)), .int (iI (L 4)), .int (iI (L 5)), .int (iI (L 6)), .ref (g + 1), .ref (g + 2)] : List Value).set 0 (.int (iI v))))) H1 → xP K (logW K g (uZ L 0 v) NU TT) H1 := fun _ h => log_mk h (by rw [uZ_eq]) (by rw [uZ_ne (by omega)]) (by rw [uZ_ne (by omega)]) (by rw [uZ_ne (by omega)]) (by rw [uZ_ne (by omega)]) (by rw [uZ_ne (by omega)]) (by rw [uZ_ne (by omega)]) (fun _ _ => rfl) (fun _ _ => rfl)
theorem lu_L1 (K : KT) (g : Nat) (L NU TT : Int → Int) (v : Int) : ∀ H1, xP K ((logW K g L NU TT).set 0 (g, .inr (3, ([.int (iI (L 0)), .int (iI (L 1)), .int (iI (L 2)), .int (iI (L 3)), .int (iI (L 4)), .int (iI (L 5)), .int (iI (L 6)), .ref (g + 1), .ref (g + 2)] : List Value).set 1 (.int (iI v))))) H1 → xP K (logW K g (uZ L 1 v) NU TT) H1 := fun _ h => log_mk h (by rw [uZ_ne (by omega)]) (by rw [uZ_eq]) (by rw [uZ_ne (by omega)]) (by rw [uZ_ne (by omega)]) (by rw [uZ_ne (by omega)]) (by rw [uZ_ne (by omega)]) (by rw [uZ_ne (by omega)]) (fun _ _ => rfl) (fun _ _ => rfl)
theorem lu_L2 (K : KT) (g : Nat) (L NU TT : Int → Int) (v : Int) : ∀ H1, xP K ((logW K g L NU TT).set 0 (g, .inr (3, ([.int (iI (L 0)), .int (iI (L 1)), .int (iI (L 2)), .int (iI (L 3)), .int (iI (L 4)), .int (iI (L 5)), .int (iI (L 6)), .ref (g + 1), .ref (g + 2)] : List Value).set 2 (.int (iI v))))) H1 → xP K (logW K g (uZ L 2 v) NU TT) H1 := fun _ h => log_mk h (by rw [uZ_ne (by omega)]) (by rw [uZ_ne (by omega)]) (by rw [uZ_eq]) (by rw [uZ_ne (by omega)]) (by rw [uZ_ne (by omega)]) (by rw [uZ_ne (by omega)]) (by rw [uZ_ne (by omega)]) (fun _ _ => rfl) (fun _ _ => rfl)
theorem lu_L3 (K : KT) (g : Nat) (L NU TT : Int → Int) (v : Int) : ∀ H1, xP K ((logW K g L NU TT).set 0 (g, .inr (3, ([.int (iI (L 0)), .int (iI (L 1)), .int (iI (L 2)), .int (iI (L 3)), .int (iI (L 4)), .int (iI (L 5)), .int (iI (L 6)), .ref (g + 1), .ref (g + 2)] : List Value).set 3 (.int (iI v))))) H1 → xP K (logW K g (uZ L 3 v) NU TT) H1 := fun _ h => log_mk h (by rw [uZ_ne (by omega)]) (by rw [uZ_ne (by omega)]) (by rw [uZ_ne (by omega)]) (by rw [uZ_eq]) (by rw [uZ_ne (by omega)]) (by rw [uZ_ne (by omega)]) (by rw [uZ_ne (by omega)]) (fun _ _ => rfl) (fun _ _ => rfl)
theorem lu_L4 (K : KT) (g : Nat) (L NU TT : Int → Int) (v : Int) : ∀ H1, xP K ((logW K g L NU TT).set 0 (g, .inr (3, ([.int (iI (L 0)), .int (iI (L 1)), .int (iI (L 2)), .int (iI (L 3)), .int (iI (L 4)), .int (iI (L 5)), .int (iI (L 6)), .ref (g + 1), .ref (g + 2)] : List Value).set 4 (.int (iI v))))) H1 → xP K (logW K g (uZ L 4 v) NU TT) H1 := fun _ h => log_mk h (by rw [uZ_ne (by omega)]) (by rw [uZ_ne (by omega)]) (by rw [uZ_ne (by omega)]) (by rw [uZ_ne (by omega)]) (by rw [uZ_eq]) (by rw [uZ_ne (by omega)]) (by rw [uZ_ne (by omega)]) (fun _ _ => rfl) (fun _ _ => rfl)
theorem lu_L5 (K : KT) (g : Nat) (L NU TT : Int → Int) (v : Int) : ∀ H1, xP K ((logW K g L NU TT).set 0 (g, .inr (3, ([.int (iI (L 0)), .int (iI (L 1)), .int (iI (L 2)), .int (iI (L 3)), .int (iI (L 4)), .int (iI (L 5)), .int (iI (L 6)), .ref (g + 1), .ref (g + 2)] : List Value).set 5 (.int (iI v))))) H1 → xP K (logW K g (uZ L 5 v) NU TT) H1 := fun _ h => log_mk h (by rw [uZ_ne (by omega)]) (by rw [uZ_ne (by omega)]) (by rw [uZ_ne (by omega)]) (by rw [uZ_ne (by omega)]) (by rw [uZ_ne (by omega)]) (by rw [uZ_eq]) (by rw [uZ_ne (by omega)]) (fun _ _ => rfl) (fun _ _ => rfl)
theorem lu_L6 (K : KT) (g : Nat) (L NU TT : Int → Int) (v : Int) : ∀ H1, xP K ((logW K g L NU TT).set 0 (g, .inr (3, ([.int (iI (L 0)), .int (iI (L 1)), .int (iI (L 2)), .int (iI (L 3)), .int (iI (L 4)), .int (iI (L 5)), .int (iI (L 6)), .ref (g + 1), .ref (g + 2)] : List Value).set 6 (.int (iI v))))) H1 → xP K (logW K g (uZ L 6 v) NU TT) H1 := fun _ h => log_mk h (by rw [uZ_ne (by omega)]) (by rw [uZ_ne (by omega)]) (by rw [uZ_ne (by omega)]) (by rw [uZ_ne (by omega)]) (by rw [uZ_ne (by omega)]) (by rw [uZ_ne (by omega)]) (by rw [uZ_eq]) (fun _ _ => rfl) (fun _ _ => rfl)
theorem lu_NU (K : KT) (g : Nat) (L NU TT : Int → Int) {z : Int} (v : Int) (hz : 0 ≤ z ∧ z < 4) : ∀ H1, xP K ((logW K g L NU TT).set 1 (g + 1, .inl (K.2.1, 4, .inl (upd (vI NU 0) z.toNat (iI v))))) H1 → xP K (logW K g L (uZ NU z v) TT) H1 := fun _ h => log_mk h rfl rfl rfl rfl rfl rfl rfl (vI_up 4 hz.1 (by omega)) (fun _ _ => rfl)
theorem lu_TT (K : KT) (g : Nat) (L NU TT : Int → Int) {z : Int} (v : Int) (hz : 0 ≤ z ∧ z < 80) : ∀ H1, xP K ((logW K g L NU TT).set 2 (g + 2, .inl (K.2.2.2.1, 80, .inl (upd (vI TT 0) z.toNat (iI v))))) H1 → xP K (logW K g L NU (uZ TT z v)) H1 := fun _ h => log_mk h rfl rfl rfl rfl rfl rfl rfl (fun _ _ => rfl) (vI_up 80 hz.1 (by omega))
theorem hu_G0 (K : KT) (h : Nat) (G : Int → Int) (v : Int) : ∀ H1, xP K ((histW K h G).set 0 (h, .inr (1, ([.int (iI (G 0)), .int (iI (G 1)), .ref (h + 1)] : List Value).set 0 (.int (iI v))))) H1 → xP K (histW K h (uZ G 0 v)) H1 := fun _ q => hist_mk q (by rw [uZ_eq]) (by rw [uZ_ne (by omega)])
theorem hu_G1 (K : KT) (h : Nat) (G : Int → Int) (v : Int) : ∀ H1, xP K ((histW K h G).set 0 (h, .inr (1, ([.int (iI (G 0)), .int (iI (G 1)), .ref (h + 1)] : List Value).set 1 (.int (iI v))))) H1 → xP K (histW K h (uZ G 1 v)) H1 := fun _ q => hist_mk q (by rw [uZ_ne (by omega)]) (by rw [uZ_eq])
