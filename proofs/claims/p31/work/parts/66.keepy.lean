theorem sTear_X {N : Int → Int} (h : InX N) (l : Int) : InX (sTear N l).2 := by
  refine ⟨sTear_inv h.1 l, ?_⟩
  have hY := inY h.1
  obtain ⟨b0, b1, b2, b3, b4, b5, b6, b7, b8, b9⟩ := inY_b hY
  unfold sTear
  split
  · exact h.2
  rename_i c1
  split
  · exact h.2
  rename_i c2
  have c1 := Decidable.not_not.mp c1
  have c2 := Decidable.not_not.mp c2
  obtain ⟨hC, hG, hE, hZ, hS, hP⟩ := h.2
  have hl := hY.2.1 l c1.1 (by omega)
  show EX (uZ (uZ N (14 + l) 2) (854 + N (19 + l)) 3)
  have e : ∀ k : Int, k < 14 ∨ (19 ≤ k ∧ k < 854) → uZ (uZ N (14 + l) 2) (854 + N (19 + l)) 3 k = N k := fun k hk => by rw [uZ_ne (by omega), uZ_ne (by omega)]
  refine ⟨ec_eq b6.2 hC fun k hk => e k (by omega), gm_eq b6.2 hG fun k hk => e k (by omega), ed_eq b6.2 hE fun k hk => e k (by omega), fun q k a b => ?_, es_end (v := 2) (w := 3) b4.2 b7.2 hY.2.1 hS c1 c2 (by omega) (by omega) (fun k a b => by rw [uZ_ne b, uZ_ne a]) (by rw [uZ_ne (by omega), uZ_eq]) uZ_eq, ep_eq b7.2 hP (by rw [e 1 (by omega)]; exact Int.le_refl _) (e 7 (by omega)) fun k a b => e k (by omega)⟩
  rw [e 0 (by omega)] at q
  rw [e 4 (by omega)] at b
  by_cases hk : k = l
  · rw [hk, uZ_ne (by omega), uZ_eq]
    omega
  · rw [uZ_ne (by omega), uZ_ne (by omega)]
    exact hZ q k a b
/-- units come into a locker under a bond -/
theorem bond_X {P M : Int → Int} {l g u b dt : Int} (h6 : b = P 6 ∧ 0 ≤ b ∧ b < 60) (hl : 0 ≤ l ∧ l < 5) (hg : 0 ≤ g ∧ g < 8) (hu : 1 ≤ u) (hdt : 1 ≤ dt) (hC : EC P) (hG : GM P) (hE : ED P) (hR : InR P) (m1 : M 1 = P 1) (m6 : M 6 = b + 1) (m9 : M 9 = P 9 + u * dt) (m10 : ∀ k : Int, 10 ≤ k → k < 14 → M k = P k) (mh : ∀ k : Int, 24 ≤ k → k < 104 → k ≠ 24 + 8 * l + g → M k = P k) (mh1 : M (24 + 8 * l + g) = P (24 + 8 * l + g) + u) (ma : ∀ k : Int, 112 ≤ k → k < 152 → k ≠ 112 + g → M k = P k) (ma1 : M (112 + g) = P (112 + g) + u) (mb : ∀ k : Int, 0 ≤ k → k < b → M (152 + k) = P (152 + k) ∧ M (212 + k) = P (212 + k) ∧ M (272 + k) = P (272 + k) ∧ M (332 + k) = P (332 + k) ∧ M (392 + k) = P (392 + k)) (n1 : M (152 + b) = g) (n2 : M (212 + b) = u) (n3 : M (272 + b) = u) (n4 : M (332 + b) = dt) (n5 : P 1 ≤ M (392 + b)) : EC M ∧ GM M ∧ ED M := by
  obtain ⟨q6, q60, q61⟩ := h6
  have hr : ∀ q : Int, restF M q = restF P q + if g = q then u else 0 := fun q => by
    unfold restF
    rw [m6, sumZ_step q60, n1, n3, ← q6]
    congr 1
    refine sumZ_congr _ fun k x y => ?_
    rw [(mb k x (by omega)).1, (mb k x (by omega)).2.2.1]
  have hh : heldF M = heldF P + u * dt := by
    unfold heldF
    rw [m6, sumZ_step q60, n3, n4, ← q6]
    congr 1
    refine sumZ_congr _ fun k x y => ?_
    rw [(mb k x (by omega)).2.2.1, (mb k x (by omega)).2.2.2.1]
  obtain ⟨hM, hA, hB⟩ := hG
  refine ⟨fun q a c => ?_, ⟨?_, fun q a c => ?_, fun k a c => ?_⟩, fun k a c d => ?_⟩
  · have h1 := hC q a c
    rw [hr q, missF_eq (N := P) ⟨a, c⟩ fun k x y => mh k (by omega) (by omega) (by omega)]
    by_cases hq : g = q
    · rw [if_pos hq, ← hq]
      rw [← hq] at h1
      have h2 : hasF M g = hasF P g + u := sumZ_one (f := fun l => P (24 + 8 * l + g)) (g := fun k => M (24 + 8 * k + g)) (i := l) (d := u) 5 hl.1 (by omega) mh1 fun k x y z => mh _ (by omega) (by omega) (by omega)
      omega
    · rw [if_neg hq]
      have h2 : hasF M q = hasF P q := sumZ_congr (f := fun k => M (24 + 8 * k + q)) (g := fun k => P (24 + 8 * k + q)) 5 fun k x y => mh _ (by omega) (by omega) (by omega)
      omega
  · unfold EM at hM ⊢
    rw [hh, m9, m10 10 (by omega) (by omega), m10 11 (by omega) (by omega), m10 12 (by omega) (by omega), m10 13 (by omega) (by omega)]
    omega
  · have h1 := hA q a c
    rw [hr q, ma (120 + 4 * q) (by omega) (by omega) (by omega), ma (121 + 4 * q) (by omega) (by omega) (by omega), ma (122 + 4 * q) (by omega) (by omega) (by omega), ma (123 + 4 * q) (by omega) (by omega) (by omega)]
    by_cases hq : g = q
    · rw [if_pos hq, ← hq, ma1]
      rw [← hq] at h1
      omega
    · rw [if_neg hq, ma (112 + q) (by omega) (by omega) (by omega)]
      omega
  · rw [m6] at c
    by_cases hk : k = b
    · rw [hk, n2, n3]
      exact Int.le_refl _
    · have h1 := mb k a (by omega)
      rw [h1.2.1, h1.2.2.1]
      exact hB k a (by omega)
  · rw [m6] at c
    rw [m1]
    by_cases hk : k = b
    · rw [hk]
      exact n5
    · have h1 := mb k a (by omega)
      rw [h1.2.2.1] at d
      rw [h1.2.2.2.2]
      exact hE k a (by omega) d
theorem sLoad_X {N : Int → Int} (h : InX N) (l g u : Int) : InX (sLoad N l g u).2 := by
  refine ⟨sLoad_inv h.1 l g u, ?_⟩
  have hY := inY h.1
  obtain ⟨b0, b1, b2, b3, b4, b5, b6, b7, b8, b9⟩ := inY_b hY
  unfold sLoad
  split
  · exact h.2
  rename_i c1
  split
  · exact h.2
  rename_i c2
  split
  · exact h.2
  rename_i c3
  have c1 := Decidable.not_not.mp c1
  obtain ⟨hC, hG, hE, hZ, hS, hP⟩ := h.2
  show EX (sealsF (bondF N l g u) l)
  have hl : 0 ≤ l ∧ l < 5 := by omega
  have hg : 0 ≤ g ∧ g < 8 := by omega
  have hd := h.1.2.2.2.2.1 g (by omega) (by omega)
  have oS := es_off (w := 2) hY hS (l := l) (by omega) (by omega)
  have oY := y_off (w := 2) hY hl
  have eO : ∀ k : Int, 0 ≤ k → k < 854 → k < 14 ∨ 19 ≤ k → offF N l 2 k = N k := fun k a b c => offF_ne (by have := (hY.2.1 l hl.1 hl.2).2.1.1; omega)
  have eO2 : ∀ k : Int, 14 ≤ k → k < 19 → k ≠ 14 + l → offF N l 2 k = N k := fun k a b c => offF_ne (by have := (hY.2.1 l hl.1 hl.2).2.1.1; omega)
  have ne : ∀ k : Int, k ≠ 152 + N 6 → k ≠ 212 + N 6 → k ≠ 272 + N 6 → k ≠ 332 + N 6 → k ≠ 392 + N 6 → k ≠ 6 → k ≠ 9 → k ≠ 112 + g → k ≠ 24 + 8 * l + g → bondF N l g u k = offF N l 2 k := fun k a b c d e f i j m => by
    unfold bondF
    rw [uZ_ne m, uZ_ne j, uZ_ne i, uZ_ne f, uZ_ne e, uZ_ne d, uZ_ne c, uZ_ne b, uZ_ne a]
  have neN : ∀ k : Int, 0 ≤ k → k < 854 → k < 14 ∨ 19 ≤ k → k ≠ 152 + N 6 → k ≠ 212 + N 6 → k ≠ 272 + N 6 → k ≠ 332 + N 6 → k ≠ 392 + N 6 → k ≠ 6 → k ≠ 9 → k ≠ 112 + g → k ≠ 24 + 8 * l + g → bondF N l g u k = N k := fun k x y z a b c d e f i j m => by rw [ne k a b c d e f i j m, eO k x y z]
  have hX : EC (bondF N l g u) ∧ GM (bondF N l g u) ∧ ED (bondF N l g u) := by
    refine bond_X (P := N) (l := l) (g := g) (u := u) (b := N 6) (dt := N (104 + g)) ⟨rfl, b6.1, by omega⟩ hl hg (by omega) hd.1 hC hG hE (inY_R hY) (neN 1 (by omega) (by omega) (by omega) (by omega) (by omega) (by omega) (by omega) (by omega) (by omega) (by omega) (by omega) (by omega)) ?_ ?_ (fun k a b => neN k (by omega) (by omega) (by omega) (by omega) (by omega) (by omega) (by omega) (by omega) (by omega) (by omega) (by omega) (by omega)) (fun k a b c => neN k (by omega) (by omega) (by omega) (by omega) (by omega) (by omega) (by omega) (by omega) (by omega) (by omega) (by omega) (by omega)) ?_ (fun k a b c => neN k (by omega) (by omega) (by omega) (by omega) (by omega) (by omega) (by omega) (by omega) (by omega) (by omega) (by omega) (by omega)) ?_ (fun k a b => ⟨neN _ (by omega) (by omega) (by omega) (by omega) (by omega) (by omega) (by omega) (by omega) (by omega) (by omega) (by omega) (by omega), neN _ (by omega) (by omega) (by omega) (by omega) (by omega) (by omega) (by omega) (by omega) (by omega) (by omega) (by omega) (by omega), neN _ (by omega) (by omega) (by omega) (by omega) (by omega) (by omega) (by omega) (by omega) (by omega) (by omega) (by omega) (by omega), neN _ (by omega) (by omega) (by omega) (by omega) (by omega) (by omega) (by omega) (by omega) (by omega) (by omega) (by omega) (by omega), neN _ (by omega) (by omega) (by omega) (by omega) (by omega) (by omega) (by omega) (by omega) (by omega) (by omega) (by omega) (by omega)⟩) ?_ ?_ ?_ ?_ ?_
    · unfold bondF
      rw [uZ_ne (by omega), uZ_ne (by omega), uZ_ne (by omega), uZ_eq]
    · unfold bondF
      rw [uZ_ne (by omega), uZ_ne (by omega), uZ_eq]
    · unfold bondF
      rw [uZ_eq]
    · unfold bondF
      rw [uZ_ne (by omega), uZ_eq]
    · unfold bondF
      rw [uZ_ne (by omega), uZ_ne (by omega), uZ_ne (by omega), uZ_ne (by omega), uZ_ne (by omega), uZ_ne (by omega), uZ_ne (by omega), uZ_ne (by omega), uZ_eq]
    · unfold bondF
      rw [uZ_ne (by omega), uZ_ne (by omega), uZ_ne (by omega), uZ_ne (by omega), uZ_ne (by omega), uZ_ne (by omega), uZ_ne (by omega), uZ_eq]
    · unfold bondF
      rw [uZ_ne (by omega), uZ_ne (by omega), uZ_ne (by omega), uZ_ne (by omega), uZ_ne (by omega), uZ_ne (by omega), uZ_eq]
    · unfold bondF
      rw [uZ_ne (by omega), uZ_ne (by omega), uZ_ne (by omega), uZ_ne (by omega), uZ_ne (by omega), uZ_eq]
    · unfold bondF
      rw [uZ_ne (by omega), uZ_ne (by omega), uZ_ne (by omega), uZ_ne (by omega), uZ_eq]
      omega
  have BS : ES (bondF N l g u) := es_eq (N := offF N l 2) (by rw [eO 4 (by omega) (by omega) (by omega)]; exact b4.2) (by rw [eO 7 (by omega) (by omega) (by omega)]; exact b7.2) oY.2.1 oS.1 fun k hk => ne k (by omega) (by omega) (by omega) (by omega) (by omega) (by omega) (by omega) (by omega) (by omega)
  have B14 : bondF N l g u (14 + l) ≠ 1 := by
    rw [ne (14 + l) (by omega) (by omega) (by omega) (by omega) (by omega) (by omega) (by omega) (by omega) (by omega)]
    exact oS.2
  have B0 : bondF N l g u 0 = N 0 := neN 0 (by omega) (by omega) (by omega) (by omega) (by omega) (by omega) (by omega) (by omega) (by omega) (by omega) (by omega) (by omega)
  have B1 : bondF N l g u 1 = N 1 := neN 1 (by omega) (by omega) (by omega) (by omega) (by omega) (by omega) (by omega) (by omega) (by omega) (by omega) (by omega) (by omega)
  have B4 : bondF N l g u 4 = N 4 := neN 4 (by omega) (by omega) (by omega) (by omega) (by omega) (by omega) (by omega) (by omega) (by omega) (by omega) (by omega) (by omega)
  have B7 : bondF N l g u 7 = N 7 := neN 7 (by omega) (by omega) (by omega) (by omega) (by omega) (by omega) (by omega) (by omega) (by omega) (by omega) (by omega) (by omega)
  have B6 : bondF N l g u 6 = N 6 + 1 := by
    unfold bondF
    rw [uZ_ne (by omega), uZ_ne (by omega), uZ_ne (by omega), uZ_eq]
  have BL : InL (bondF N l g u) := iL_eq oY.2.1 (by rw [B7, eO 7 (by omega) (by omega) (by omega)]; exact Int.le_refl _) fun k a b => ne k (by omega) (by omega) (by omega) (by omega) (by omega) (by omega) (by omega) (by omega) (by omega)
  have BP : EP (bondF N l g u) := ep_eq b7.2 hP (by rw [B1]; exact Int.le_refl _) B7 fun k a b => neN k (by omega) (by omega) (by omega) (by omega) (by omega) (by omega) (by omega) (by omega) (by omega) (by omega) (by omega) (by omega)
  have B14o : ∀ k : Int, 0 ≤ k → k < 5 → k ≠ l → bondF N l g u (14 + k) = N (14 + k) := fun k a b c => by rw [ne _ (by omega) (by omega) (by omega) (by omega) (by omega) (by omega) (by omega) (by omega) (by omega), eO2 _ (by omega) (by omega) (by omega)]
  generalize bondF N l g u = B at hX BS B14 B0 B1 B4 B7 B6 BL BP B14o ⊢
  have e : ∀ k : Int, 0 ≤ k → k < 452 → k ≠ 7 → k < 14 ∨ 24 ≤ k → sealsF B l k = B k := fun k a b c d => sealsF_lo hl (by omega) ⟨a, b⟩ c d
  refine ⟨ec_eq (by omega) hX.1 fun k hk => e k (by omega) (by omega) (by omega) (by omega), gm_eq (by omega) hX.2.1 fun k hk => e k (by omega) (by omega) (by omega) (by omega), ed_eq (by omega) hX.2.2 fun k hk => e k (by omega) (by omega) (by omega) (by omega), fun _ k a b => ?_, es_put (N := B) (by omega) (by omega) BL BS hl (fun _ => B14) (fun k _ => rfl) ?_ ?_, ep_put (N := B) (by omega) (by omega) BP hl fun k _ => rfl⟩
  · rw [e 4 (by omega) (by omega) (by omega) (by omega), B4] at b
    by_cases hk : k = l
    · rw [hk, sealsF_14 hl (by omega)]
      omega
    · rw [sealsF_ne (by omega), B14o k a (by omega) hk]
      exact hZ (by omega) k a b
  · rw [e 4 (by omega) (by omega) (by omega) (by omega), B4]
    exact ⟨by omega, Int.le_refl _, fun k q => Or.inr q⟩
  · rw [e 4 (by omega) (by omega) (by omega) (by omega), B4]
    exact b4.2
theorem sLocker_X {N : Int → Int} (h : InX N) : InX (sLocker N).2 := by
  refine ⟨sLocker_inv h.1, ?_⟩
  have hY := inY h.1
  obtain ⟨b0, b1, b2, b3, b4, b5, b6, b7, b8, b9⟩ := inY_b hY
  unfold sLocker
  split
  · exact h.2
  rename_i c1
  split
  · exact h.2
  rename_i c2
  have c1 := Decidable.not_not.mp c1
  obtain ⟨hC, hG, hE, hZ, hS, hP⟩ := h.2
  have hl : 0 ≤ N 4 ∧ N 4 < 5 := by omega
  have h7 : 0 ≤ N 7 ∧ N 7 < 200 := by omega
  show EX (uZ (sealsF N (N 4)) 4 (N 4 + 1))
  have e : ∀ k : Int, 0 ≤ k → k < 452 → k ≠ 7 → k ≠ 4 → k < 14 ∨ 24 ≤ k → uZ (sealsF N (N 4)) 4 (N 4 + 1) k = N k := fun k a b c d f => by rw [uZ_ne d, sealsF_lo hl b7.1 ⟨a, b⟩ c f]
  refine ⟨ec_eq b6.2 hC fun k hk => e k (by omega) (by omega) (by omega) (by omega) (by omega), gm_eq b6.2 hG fun k hk => e k (by omega) (by omega) (by omega) (by omega) (by omega), ed_eq b6.2 hE fun k hk => e k (by omega) (by omega) (by omega) (by omega) (by omega), fun _ k a b => ?_, es_put (N := N) b4.2 h7 hY.2.1 hS hl (fun q => absurd q (by omega)) (fun k hk => uZ_ne hk) ?_ ?_, ep_put (N := N) b1.1 h7 hP hl fun k hk => uZ_ne hk⟩
  · rw [uZ_eq] at b
    rw [uZ_ne (by omega)]
    by_cases hk : k = N 4
    · rw [hk, sealsF_14 hl b7.1]
      omega
    · rw [sealsF_ne (by omega)]
      exact hZ (by omega) k a (by omega)
  · rw [uZ_eq]
    exact ⟨by omega, by omega, fun k q => by omega⟩
  · rw [uZ_eq]
    omega
theorem sInspect_X {N : Int → Int} (h : InX N) (l : Int) : InX (sInspect N l).2 := by
  refine ⟨sInspect_inv h.1 l, ?_⟩
  have hY := inY h.1
  obtain ⟨b0, b1, b2, b3, b4, b5, b6, b7, b8, b9⟩ := inY_b hY
  unfold sInspect
  split
  · exact h.2
  rename_i c1
  split
  · exact h.2
  rename_i c2
  split
  · exact h.2
  rename_i c3
  have c1 := Decidable.not_not.mp c1
  have c3 : N 7 + 1 ≤ 200 := Decidable.not_not.mp fun q => c3 (Or.inl q)
  obtain ⟨hC, hG, hE, hZ, hS, hP⟩ := h.2
  show EX (sealsF (insF (N 5).toNat (offF (uZ N 8 (N 8 + finF N l)) l 2) l) l)
  have hl : 0 ≤ l ∧ l < 5 := by omega
  have hF := inF h.1
  unfold InF at hF
  have hf : 0 ≤ finF N l ∧ finF N l ≤ 100000 := by
    unfold finF
    split <;> omega
  have pY := y_one (i := 8) (v := N 8 + finF N l) hY (by omega) (by omega) (by omega) (by omega) (by omega) (by omega) (by omega)
  have e8 : ∀ k : Int, k ≠ 8 → uZ N 8 (N 8 + finF N l) k = N k := fun k hk => uZ_ne hk
  have pS : ES (uZ N 8 (N 8 + finF N l)) := es_eq b4.2 b7.2 hY.2.1 hS fun k hk => e8 k (by omega)
  generalize uZ N 8 (N 8 + finF N l) = P at pY e8 pS ⊢
  have P4 := e8 4 (by omega)
  have P7 := e8 7 (by omega)
  have oY := y_off (w := 2) pY hl
  have oS := es_off (w := 2) pY pS (l := l) (by omega) (by omega)
  have eO : ∀ k : Int, 0 ≤ k → k < 854 → k ≠ 8 → k < 14 ∨ 19 ≤ k → offF P l 2 k = N k := fun k a b d c => by rw [offF_ne (by have := (pY.2.1 l hl.1 hl.2).2.1.1; omega), e8 k d]
  have eO2 : ∀ k : Int, 14 ≤ k → k < 19 → k ≠ 14 + l → offF P l 2 k = N k := fun k a b c => by rw [offF_ne (by have := (pY.2.1 l hl.1 hl.2).2.1.1; omega), e8 k (by omega)]
  have oC : EC (offF P l 2) := ec_eq b6.2 hC fun k hk => eO k (by omega) (by omega) (by omega) (by omega)
  have oG : GM (offF P l 2) := gm_eq b6.2 hG fun k hk => eO k (by omega) (by omega) (by omega) (by omega)
  have oE : ED (offF P l 2) := ed_eq b6.2 hE fun k hk => eO k (by omega) (by omega) (by omega) (by omega)
  generalize offF P l 2 = O at oY oS eO eO2 oC oG oE ⊢
  obtain ⟨iY, ie⟩ := y_ins (N 5).toNat (l := l) (by omega) oY hl
  obtain ⟨iC, iG, iE⟩ := ins_X (N 5).toNat (l := l) (by omega) oY hl oC oG oE
  have O4 := eO 4 (by omega) (by omega) (by omega) (by omega)
  have O7 := eO 7 (by omega) (by omega) (by omega) (by omega)
  have O1 := eO 1 (by omega) (by omega) (by omega) (by omega)
  have iS : ES (insF (N 5).toNat O l) := es_eq (N := O) (by omega) (by omega) oY.2.1 oS.1 fun k hk => ie k (by omega)
  have i14 : insF (N 5).toNat O l (14 + l) ≠ 1 := by rw [ie (14 + l) (by omega)]; exact oS.2
  generalize insF (N 5).toNat O l = I at iY ie iC iG iE iS i14 ⊢
  have I4 : I 4 = N 4 := by rw [ie 4 (by omega), O4]
  have I7 : I 7 = N 7 := by rw [ie 7 (by omega), O7]
  have I1 : I 1 = N 1 := by rw [ie 1 (by omega), O1]
  have I6 : I 6 = N 6 := by rw [ie 6 (by omega), eO 6 (by omega) (by omega) (by omega) (by omega)]
  have iP : EP I := ep_eq b7.2 hP (by omega) I7 fun k a b => by rw [ie k (by omega), eO k (by omega) (by omega) (by omega) (by omega)]
  have e : ∀ k : Int, 0 ≤ k → k < 452 → k ≠ 7 → k < 14 ∨ 24 ≤ k → sealsF I l k = I k := fun k a b c d => sealsF_lo hl (by omega) ⟨a, b⟩ c d
  refine ⟨ec_eq (by omega) iC fun k hk => e k (by omega) (by omega) (by omega) (by omega), gm_eq (by omega) iG fun k hk => e k (by omega) (by omega) (by omega) (by omega), ed_eq (by omega) iE fun k hk => e k (by omega) (by omega) (by omega) (by omega), fun _ k a b => ?_, es_put (N := I) (by omega) (by omega) iY.2.1 iS hl (fun _ => i14) (fun k _ => rfl) ?_ ?_, ep_put (N := I) (by omega) (by omega) iP hl fun k _ => rfl⟩
  · rw [e 4 (by omega) (by omega) (by omega) (by omega), I4] at b
    by_cases hk : k = l
    · rw [hk, sealsF_14 hl (by omega)]
      omega
    · rw [sealsF_ne (by omega), ie _ (by omega), eO2 _ (by omega) (by omega) (by omega)]
      exact hZ (by omega) k a b
  · rw [e 4 (by omega) (by omega) (by omega) (by omega), I4]
    exact ⟨by omega, Int.le_refl _, fun k q => Or.inr q⟩
  · rw [e 4 (by omega) (by omega) (by omega) (by omega), I4]
    exact b4.2
/-- lockers are opened -/
theorem cr0_X : ∀ (n : Nat) {N : Int → Int} {w : Int}, (n : Int) ≤ N 4 → InY N → ES N → ES (crF n N 0 w) ∧ ∀ k : Int, 0 ≤ k → k < 854 → k < 14 ∨ 19 ≤ k → crF n N 0 w k = N k
  | 0, N, w, _, _, h => ⟨h, fun k _ _ _ => rfl⟩
  | n + 1, N, w, hn, hY, h => by
    obtain ⟨b0, b1, b2, b3, b4, b5, b6, b7, b8, b9⟩ := inY_b hY
    obtain ⟨i1, i2⟩ := cr0_X n (w := w) (by omega) hY h
    obtain ⟨j1, j2, -⟩ := y_cr0 n (w := w) (by omega) hY
    have e : crF (n + 1) N 0 w = uZ (offF (crF n N 0 w) (n : Int) 1) (14 + (n : Int)) 0 := if_pos rfl
    rw [e]
    generalize crF n N 0 w = C at i1 i2 j1 j2 ⊢
    have C4 := i2 4 (by omega) (by omega) (by omega)
    have C7 := i2 7 (by omega) (by omega) (by omega)
    have hL := (j1.2.1 (n : Int) (by omega) (by omega)).2.1.1
    have oS := es_off (w := 1) j1 i1 (l := (n : Int)) (by omega) (by omega)
    have oY := y_off (w := 1) j1 (l := (n : Int)) (by omega)
    have O4 : offF C (n : Int) 1 4 = N 4 := by rw [offF_ne (by omega), C4]
    have O7 : offF C (n : Int) 1 7 = N 7 := by rw [offF_ne (by omega), C7]
    refine ⟨es_state (by omega) (by omega) oY.2.1 oS.1 (by omega) oS.2 (by omega), fun k a b c => ?_⟩
    rw [uZ_ne (by omega), offF_ne (by omega), i2 k a b c]
/-- lockers are sealed -/
theorem cr1_X : ∀ (n : Nat) {N : Int → Int} {z : Int}, (n : Int) ≤ N 4 → z ≠ 0 → InY N → N 7 + (n : Int) ≤ 200 → ES N → EP N → (∀ l : Int, 0 ≤ l → l < N 4 → N (14 + l) = 0) → ES (crF n N z 0) ∧ EP (crF n N z 0) ∧ (∀ l : Int, 0 ≤ l → l < (n : Int) → crF n N z 0 (14 + l) = 1) ∧ (∀ l : Int, (n : Int) ≤ l → l < N 4 → crF n N z 0 (14 + l) = 0) ∧ crF n N z 0 1 = N 1
  | 0, N, z, _, _, _, _, h, hP, h0 => ⟨h, hP, fun l a b => by omega, fun l a b => h0 l (by omega) b, rfl⟩
  | n + 1, N, z, hn, hz, hY, h7, h, hP, h0 => by
    obtain ⟨b0, b1, b2, b3, b4, b5, b6, b7, b8, b9⟩ := inY_b hY
    obtain ⟨i1, i2, i3, i4, i5⟩ := cr1_X n (z := z) (by omega) hz hY (by omega) h hP h0
    obtain ⟨j1, j2, j3⟩ := y_cr1 n (z := z) (by omega) hz hY (by omega)
    have e : crF (n + 1) N z 0 = sealsF (crF n N z 0) (n : Int) := (if_neg hz).trans (if_pos rfl)
    rw [e]
    have C4 := j2 4 (by omega) (by omega) (by omega) (by omega)
    generalize crF n N z 0 = C at i1 i2 i3 i4 i5 j1 j2 j3 C4 ⊢
    have hl : 0 ≤ (n : Int) ∧ (n : Int) < 5 := by omega
    have hc7 : 0 ≤ C 7 ∧ C 7 < 200 := by omega
    have s4 : sealsF C (n : Int) 4 = N 4 := by rw [sealsF_ne (by omega), C4]
    have c14 := i4 (n : Int) (by omega) (by omega)
    refine ⟨es_put (by omega) hc7 j1.2.1 i1 hl (fun _ => by omega) (fun k _ => rfl) ⟨by omega, by omega, fun k q => by omega⟩ (by omega), ep_put (by omega) hc7 i2 hl fun k _ => rfl, fun l a b => ?_, fun l a b => ?_, by rw [sealsF_ne (by omega), i5]⟩
    · by_cases hk : l = (n : Int)
      · rw [hk, sealsF_14 hl hc7.1]
      · rw [sealsF_ne (by omega)]
        exact i3 l a (by omega)
    · rw [sealsF_ne (by omega)]
      exact i4 l (by omega) b
theorem sCross_X {N : Int → Int} (h : InX N) (z : Int) : InX (sCross N z).2 := by
  refine ⟨sCross_inv h.1 z, ?_⟩
  have hY := inY h.1
  obtain ⟨b0, b1, b2, b3, b4, b5, b6, b7, b8, b9⟩ := inY_b hY
  unfold sCross
  split
  · exact h.2
  rename_i c1
  split
  · exact h.2
  rename_i c2
  split
  · exact h.2
  rename_i c3
  have c1 := Decidable.not_not.mp c1
  obtain ⟨hC, hG, hE, hZ, hS, hP⟩ := h.2
  show EX (crF (N 4).toNat (uZ N 0 z) z (N 0))
  have pY : InY (uZ N 0 z) := y_one hY (by omega) (by omega) (by omega) (by omega) (by omega) (by omega) (by omega)
  have e0 : ∀ k : Int, k ≠ 0 → uZ N 0 z k = N k := fun k hk => uZ_ne hk
  have e00 : uZ N 0 z 0 = z := uZ_eq
  have pS : ES (uZ N 0 z) := es_eq b4.2 b7.2 hY.2.1 hS fun k hk => e0 k (by omega)
  have pP : EP (uZ N 0 z) := ep_eq b7.2 hP (by rw [e0 1 (by omega)]; exact Int.le_refl _) (e0 7 (by omega)) fun k a b => e0 k (by omega)
  have pC : EC (uZ N 0 z) := ec_eq b6.2 hC fun k hk => e0 k (by omega)
  have pG : GM (uZ N 0 z) := gm_eq b6.2 hG fun k hk => e0 k (by omega)
  have pE : ED (uZ N 0 z) := ed_eq b6.2 hE fun k hk => e0 k (by omega)
  generalize uZ N 0 z = P at pY e0 e00 pS pP pC pG pE ⊢
  have P4 := e0 4 (by omega)
  have P6 := e0 6 (by omega)
  have P7 := e0 7 (by omega)
  by_cases hz : z = 0
  · subst hz
    obtain ⟨i1, i2⟩ := cr0_X (N 4).toNat (w := N 0) (by omega) pY pS
    generalize crF (N 4).toNat P 0 (N 0) = C at i1 i2 ⊢
    refine ⟨ec_eq (by omega) pC fun k hk => i2 k (by omega) (by omega) (by omega), gm_eq (by omega) pG fun k hk => i2 k (by omega) (by omega) (by omega), ed_eq (by omega) pE fun k hk => i2 k (by omega) (by omega) (by omega), fun q => ?_, i1, ep_eq (by omega) pP (by rw [i2 1 (by omega) (by omega) (by omega)]; exact Int.le_refl _) (i2 7 (by omega) (by omega) (by omega)) fun k a b => i2 k (by omega) (by omega) (by omega)⟩
    rw [i2 0 (by omega) (by omega) (by omega), e00] at q
    exact absurd rfl q
  · by_cases hw : N 0 = 0
    · have hh : howmF N z = N 4 := by
        unfold howmF
        rw [if_pos hw]
        exact cntF_all b4.1 (inZ h.1 hw)
      rw [hw]
      obtain ⟨i1, i2, i3, -, i5⟩ := cr1_X (N 4).toNat (z := z) (by omega) hz pY (by omega) pS pP fun l a b => by rw [e0 _ (by omega)]; exact inZ h.1 hw l a (by omega)
      obtain ⟨-, j2, -⟩ := y_cr1 (N 4).toNat (z := z) (by omega) hz pY (by omega)
      generalize crF (N 4).toNat P z 0 = C at i1 i2 i3 i5 j2 ⊢
      refine ⟨ec_eq (by omega) pC fun k hk => j2 k (by omega) (by omega) (by omega) (by omega), gm_eq (by omega) pG fun k hk => j2 k (by omega) (by omega) (by omega) (by omega), ed_eq (by omega) pE fun k hk => j2 k (by omega) (by omega) (by omega) (by omega), fun _ l a b => ?_, i1, i2⟩
      rw [j2 4 (by omega) (by omega) (by omega) (by omega), P4] at b
      rw [i3 l a (by omega)]
      omega
    · rw [cr_2 _ hz hw]
      refine ⟨pC, pG, pE, fun _ l a b => ?_, pS, pP⟩
      rw [e0 _ (by omega)]
      exact hZ hw l a (by omega)
theorem inX_n0 (h : Inv n0F) : InX n0F := by
  have z : ∀ k : Int, k = 1 ∨ 4 ≤ k → n0F k = 0 := fun k h => n0F_z h
  have e6 : n0F 6 = 0 := z 6 (by omega)
  have hs : ∀ (f : Int → Int), sumZ f (n0F 6).toNat = 0 := fun f => by rw [e6]; rfl
  have hh : ∀ g : Int, 0 ≤ g → hasF n0F g = 0 := fun g a => by
    have h1 : hasF n0F g = sumZ (fun _ => (0 : Int)) 5 := sumZ_congr 5 fun k b c => z _ (by omega)
    rw [h1, sumZ_const]
    omega
  have hm : ∀ g : Int, 0 ≤ g → missF n0F g = 0 := fun g a => by
    have h1 : missF n0F g = sumZ (fun _ => (0 : Int)) 5 := sumZ_congr 5 fun k b c => z _ (by omega)
    rw [h1, sumZ_const]
    omega
  refine ⟨h, fun g a b => ?_, ⟨?_, fun g a b => ?_, fun b a c => ?_⟩, fun b a c => ?_, fun _ l a b => ?_, ⟨fun l a b => ?_, fun n a b => ?_, fun n a b => ?_⟩, fun n a b => ?_⟩
  · rw [hh g a, hm g a]
    unfold restF
    rw [hs]
    rfl
  · unfold EM heldF
    rw [hs, z 9 (by omega), z 10 (by omega), z 11 (by omega), z 12 (by omega), z 13 (by omega)]
    omega
  · unfold restF
    rw [hs, z (112 + g) (by omega), z (120 + 4 * g) (by omega), z (121 + 4 * g) (by omega), z (122 + 4 * g) (by omega), z (123 + 4 * g) (by omega)]
    rfl
  · rw [e6] at c
    omega
  · rw [e6] at c
    omega
  · rw [z 4 (by omega)] at b
    omega
  · rw [z 4 (by omega)] at b
    omega
  · rw [z 7 (by omega)] at b
    omega
  · rw [z 7 (by omega)] at b
    omega
  · rw [z 7 (by omega)] at b
    omega
