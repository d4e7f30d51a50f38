/-- releasing bond by bond comes to what is told behind a bond -/
theorem wor_rel : ∀ (n : Nat) {N M : Int → Int} {g p u r : Int}, InR M → M 6 = N 6 → (∀ k : Int, 0 ≤ k → k < N 6 → M (152 + k) = N (152 + k) ∧ M (332 + k) = N (332 + k) ∧ M (392 + k) = N (392 + k)) → (∀ k : Int, 0 ≤ k → k < N 6 → (okB M g (-1) k ↔ okB N g p k)) → (∀ k : Int, 0 ≤ k → k < N 6 → okB N g p k → M (272 + k) = N (272 + k)) → 0 ≤ g ∧ g < 8 → 0 ≤ r ∧ r < 4 → 0 ≤ u → u ≤ (n : Int) → u ≤ restF M g → (worF n N g p u).1 = (relF n M g u r).2
  | 0, N, M, g, p, u, r, hR, h6, hb, ho, hl, hg, hr, h0, hn, hu => by
    rw [relF_0 (by omega)]
    rfl
  | n + 1, N, M, g, p, u, r, hR, h6, hb, ho, hl, hg, hr, h0, hn, hu => by
    by_cases hu0 : u ≤ 0
    · rw [worF_0 (Or.inl hu0), relF_0 hu0]
    · have hz := nx_pos (by omega) (nxt_is M g (-1))
      have hf := hR.2 _ hz.1.1 hz.1.2
      have hbd := hR.1
      obtain ⟨b0, b1, b2, b3, b4, b5, b6, b7, b8, b9⟩ := hbd
      have hgd : M (152 + nxt M g (-1)) = g := by omega
      have hmin : ∀ k : Int, 0 ≤ k → k < M 6 → okB M g (-1) k → M (392 + nxt M g (-1)) < M (392 + k) ∨ (M (392 + nxt M g (-1)) = M (392 + k) ∧ nxt M g (-1) ≤ k) := by
        rcases nxt_is M g (-1) with ⟨h1, -⟩ | ⟨-, -, h3⟩
        · omega
        · exact h3
      have hzo : okB M g (-1) (nxt M g (-1)) := ⟨hz.2.1, Or.inr hgd, Or.inl (by omega)⟩
      have hby := byF_in hu0 hz.2.1
      have t1 := takeF_R (u := byF M g (-1) u) (r := r) hR hz.1 (by omega) hr
      have t2 := takeF_rest (u := byF M g (-1) u) (r := r) hR hz.1 hr
      have t3 : takeF M (nxt M g (-1)) (byF M g (-1) u) r (272 + nxt M g (-1)) = M (272 + nxt M g (-1)) - byF M g (-1) u := takeF_at (by omega) hr (by omega)
      have t4 : ∀ k : Int, k = 6 ∨ 152 ≤ k → k ≠ 272 + nxt M g (-1) → takeF M (nxt M g (-1)) (byF M g (-1) u) r k = M k := fun k a c => takeF_ne c (by omega) (by omega)
      have eby : byF M g (-1) u = u ∨ byF M g (-1) u = M (272 + nxt M g (-1)) := by
        unfold byF
        split
        · exact Or.inl rfl
        · exact Or.inr rfl
      rw [hgd] at t2
      have en : nxt N g p = nxt M g (-1) := by
        refine (nxt_eq (N := N) (g := g) (p := p) (z := nxt M g (-1)) (Or.inr ⟨by omega, (ho _ hz.1.1 (by omega)).mp hzo, fun k a c d => ?_⟩)).symm
        have := hmin k a (by omega) ((ho k a c).mpr d)
        rw [(hb _ hz.1.1 (by omega)).2.2, (hb k a c).2.2] at this
        exact this
      have ez := hl _ hz.1.1 (by omega) ((ho _ hz.1.1 (by omega)).mp hzo)
      have ed := (hb _ hz.1.1 (by omega)).2.1
      have e3 := (hb _ hz.1.1 (by omega)).2.2
      have eb : byF N g p u = byF M g (-1) u := by
        unfold byF
        rw [en, ez]
      have hzN := (ho _ hz.1.1 (by omega)).mp hzo
      rw [worF_s hu0 (by rw [en]; omega), relF_s hu0, eb, en, ed]
      dsimp only
      generalize nxt M g (-1) = z at hz hf hgd hmin hzo hby t1 t2 t3 t4 eby ez e3 hzN ⊢
      generalize byF M g (-1) u = t at hby t1 t2 t3 t4 eby ⊢
      by_cases hut : u - t ≤ 0
      · rw [worF_0 (Or.inl hut), relF_0 hut]
      · have hfull : t = M (272 + z) := by omega
        congr 1
        refine wor_rel n t1 ((t4 6 (by omega) (by omega)).trans h6) (fun k a c => ?_) (fun k a c => ?_) (fun k a c d => ?_) hg hr (by omega) (by omega) (by omega)
        · rw [t4 (152 + k) (by omega) (by omega), t4 (332 + k) (by omega) (by omega), t4 (392 + k) (by omega) (by omega)]
          exact hb k a c
        · by_cases hk : k = z
          · rw [hk]
            constructor
            · intro h
              unfold okB at h
              omega
            · intro h
              unfold okB at h
              omega
          · have i1 := ho k a c
            have i2 := hmin k a (by omega)
            have i3 := hb k a c
            have hkk : okB (takeF M z t r) g (-1) k ↔ okB M g (-1) k := by
              unfold okB
              rw [t4 (152 + k) (by omega) (by omega), t4 (272 + k) (by omega) (by omega)]
              omega
            rw [hkk]
            constructor
            · intro h
              have j := i2 h
              have j2 := i1.mp h
              unfold okB at j2 ⊢
              omega
            · intro h
              refine i1.mpr ?_
              unfold okB at h hzN ⊢
              omega
        · have hk : k ≠ z := fun q => by
            rw [q] at d
            unfold okB at d
            omega
          rw [t4 (272 + k) (by omega) (by omega)]
          refine hl k a c ?_
          unfold okB at d hzN ⊢
          omega
theorem worA_rel {N : Int → Int} {g u r : Int} (hR : InR N) (hg : 0 ≤ g ∧ g < 8) (hr : 0 ≤ r ∧ r < 4) (h0 : 0 ≤ u) (hu : u ≤ restF N g) : worA N g u = (relF u.toNat N g u r).2 := by
  rw [(worA_full hR hg.1 h0).1 hu]
  exact wor_rel u.toNat hR rfl (fun _ _ _ => ⟨rfl, rfl, rfl⟩) (fun _ _ _ => Iff.rfl) (fun _ _ _ _ => rfl) hg hr h0 (by omega) hu
/-- the bonds of a good are the same -/
def BE (g : Int) (N M : Int → Int) : Prop := M 6 = N 6 ∧ ∀ b : Int, 0 ≤ b → b < N 6 → (M (152 + b) = N (152 + b) ∧ M (332 + b) = N (332 + b) ∧ M (392 + b) = N (392 + b)) ∧ (N (152 + b) = g → M (272 + b) = N (272 + b))
theorem BE_rf {g : Int} {N : Int → Int} : BE g N N := ⟨rfl, fun _ _ _ => ⟨⟨rfl, rfl, rfl⟩, fun _ => rfl⟩⟩
theorem BE_tr {g : Int} {N M L : Int → Int} (h1 : BE g N M) (h2 : BE g M L) : BE g N L := ⟨h2.1.trans h1.1, fun b a c => by
  have i1 := h1.2 b a c
  have i2 := h2.2 b a (by rw [h1.1]; exact c)
  exact ⟨⟨i2.1.1.trans i1.1.1, i2.1.2.1.trans i1.1.2.1, i2.1.2.2.trans i1.1.2.2⟩, fun q => (i2.2 (i1.1.1.trans q)).trans (i1.2 q)⟩⟩
theorem BE_of {g : Int} {N M : Int → Int} (h60 : N 6 ≤ 60) (e : ∀ k : Int, k = 6 ∨ (152 ≤ k ∧ k < 452) → M k = N k) : BE g N M := ⟨e 6 (by omega), fun b a c => ⟨⟨e _ (by omega), e _ (by omega), e _ (by omega)⟩, fun _ => e _ (by omega)⟩⟩
theorem BE_rest {g : Int} {N M : Int → Int} (h : BE g N M) : restF M g = restF N g := by
  unfold restF
  rw [h.1]
  refine sumZ_congr _ fun k a b => ?_
  have i := h.2 k a (by omega)
  rw [i.1.1]
  by_cases hq : N (152 + k) = g
  · rw [if_pos hq, if_pos hq, i.2 hq]
  · rw [if_neg hq, if_neg hq]
theorem BE_nxt {g : Int} {N M : Int → Int} (hg : 0 ≤ g) (h : BE g N M) : nxt M g (-1) = nxt N g (-1) := by
  have ok : ∀ k : Int, 0 ≤ k → k < N 6 → (okB M g (-1) k ↔ okB N g (-1) k) := fun k a b => by
    have i := h.2 k a b
    unfold okB
    constructor
    · intro q
      have := i.2 (by omega)
      omega
    · intro q
      have := i.2 (by omega)
      omega
  refine nxt_eq (N := N) ?_
  rcases nxt_is M g (-1) with ⟨h1, h2⟩ | ⟨h1, h2, h3⟩
  · exact Or.inl ⟨h1, fun k a b q => h2 k a (by rw [h.1]; exact b) ((ok k a b).mpr q)⟩
  · have h6 := h.1
    refine Or.inr ⟨by omega, (ok _ h1.1 (by omega)).mp h2, fun k a b q => ?_⟩
    have := h3 k a (by omega) ((ok k a b).mpr q)
    rw [(h.2 _ h1.1 (by omega)).1.2.2, (h.2 k a b).1.2.2] at this
    exact this
theorem BE_take {g : Int} {N M : Int → Int} {z t r q : Int} (hN : InR N) (hM : InR M) (h : BE g N M) (hz : 0 ≤ z ∧ z < N 6) (hg : N (152 + z) = g) (hr : 0 ≤ r ∧ r < 4) (hq : 0 ≤ q ∧ q < 4) : BE g (takeF N z t r) (takeF M z t q) := by
  have f1 := hN.2 z hz.1 hz.2
  have f2 := hM.2 z hz.1 (by rw [h.1]; exact hz.2)
  have c1 := hN.1
  have c2 := hM.1
  obtain ⟨b0, b1, b2, b3, b4, b5, b6, b7, b8, b9⟩ := c1
  obtain ⟨d0, d1, d2, d3, d4, d5, d6, d7, d8, d9⟩ := c2
  have eN : ∀ k : Int, k = 6 ∨ 152 ≤ k → k ≠ 272 + z → takeF N z t r k = N k := fun k a c => takeF_ne c (by omega) (by omega)
  have eM : ∀ k : Int, k = 6 ∨ 152 ≤ k → k ≠ 272 + z → takeF M z t q k = M k := fun k a c => takeF_ne c (by omega) (by omega)
  have xN : takeF N z t r (272 + z) = N (272 + z) - t := takeF_at (by omega) hr (by omega)
  have xM : takeF M z t q (272 + z) = M (272 + z) - t := takeF_at (by omega) hq (by omega)
  refine ⟨by rw [eN 6 (by omega) (by omega), eM 6 (by omega) (by omega)]; exact h.1, fun b a c => ?_⟩
  rw [eN 6 (by omega) (by omega)] at c
  have i := h.2 b a c
  rw [eN (152 + b) (by omega) (by omega), eN (332 + b) (by omega) (by omega), eN (392 + b) (by omega) (by omega), eM (152 + b) (by omega) (by omega), eM (332 + b) (by omega) (by omega), eM (392 + b) (by omega) (by omega)]
  refine ⟨i.1, fun y => ?_⟩
  by_cases hb : b = z
  · rw [hb, xN, xM, ← hb, i.2 y]
  · rw [eN (272 + b) (by omega) (by omega), eM (272 + b) (by omega) (by omega)]
    exact i.2 y
/-- the same bonds of a good: the same amount, and the same bonds behind -/
theorem relF_BE : ∀ (n : Nat) {N M : Int → Int} {g u r q : Int}, InR N → InR M → BE g N M → 0 ≤ g ∧ g < 8 → 0 ≤ r ∧ r < 4 → 0 ≤ q ∧ q < 4 → 0 ≤ u → u ≤ (n : Int) → u ≤ restF N g → (relF n M g u q).2 = (relF n N g u r).2 ∧ BE g (relF n N g u r).1 (relF n M g u q).1
  | 0, N, M, g, u, r, q, hN, hM, h, hg, hr, hq, h0, hn, hu => by
    rw [relF_0 (by omega), relF_0 (by omega)]
    exact ⟨rfl, h⟩
  | n + 1, N, M, g, u, r, q, hN, hM, h, hg, hr, hq, h0, hn, hu => by
    by_cases hu0 : u ≤ 0
    · rw [relF_0 hu0, relF_0 hu0]
      exact ⟨rfl, h⟩
    · have hz := nx_pos (by omega) (nxt_is N g (-1))
      have en := BE_nxt hg.1 h
      have hgd : N (152 + nxt N g (-1)) = g := by omega
      have i := h.2 _ hz.1.1 hz.1.2
      have eb : byF M g (-1) u = byF N g (-1) u := by
        unfold byF
        rw [en, i.2 hgd]
      have hby := byF_in hu0 hz.2.1
      have t1 := takeF_R (u := byF N g (-1) u) (r := r) hN hz.1 (by omega) hr
      have t2 := takeF_rest (u := byF N g (-1) u) (r := r) hN hz.1 hr
      have h6 := h.1
      have t3 := takeF_R (u := byF N g (-1) u) (r := q) hM (b := nxt N g (-1)) (by omega) (by rw [i.2 hgd]; omega) hq
      have hb := BE_take (t := byF N g (-1) u) hN hM h hz.1 hgd hr hq
      rw [hgd] at t2
      obtain ⟨j1, j2⟩ := relF_BE n t1 t3 hb hg hr hq (u := u - byF N g (-1) u) (by omega) (by omega) (by omega)
      rw [relF_s hu0, relF_s hu0, en, eb, i.1.2.1]
      exact ⟨by dsimp only; rw [j1], j2⟩
theorem relF_other : ∀ (n : Nat) {N : Int → Int} {g u r q : Int}, InR N → 0 ≤ g ∧ g < 8 → 0 ≤ r ∧ r < 4 → 0 ≤ u → u ≤ (n : Int) → u ≤ restF N g → q ≠ g → BE q N (relF n N g u r).1
  | 0, N, g, u, r, q, hN, hg, hr, h0, hn, hu, hq => by
    rw [relF_0 (by omega)]
    exact BE_rf
  | n + 1, N, g, u, r, q, hN, hg, hr, h0, hn, hu, hq => by
    by_cases hu0 : u ≤ 0
    · rw [relF_0 hu0]
      exact BE_rf
    · have hz := nx_pos (by omega) (nxt_is N g (-1))
      have hgd : N (152 + nxt N g (-1)) = g := by omega
      have hf := hN.2 _ hz.1.1 hz.1.2
      have c1 := hN.1
      obtain ⟨b0, b1, b2, b3, b4, b5, b6, b7, b8, b9⟩ := c1
      have hby := byF_in hu0 hz.2.1
      have t1 := takeF_R (u := byF N g (-1) u) (r := r) hN hz.1 (by omega) hr
      have t2 := takeF_rest (u := byF N g (-1) u) (r := r) hN hz.1 hr
      rw [hgd] at t2
      have hb : BE q N (takeF N (nxt N g (-1)) (byF N g (-1) u) r) := by
        have e : ∀ k : Int, k = 6 ∨ 152 ≤ k → k ≠ 272 + nxt N g (-1) → takeF N (nxt N g (-1)) (byF N g (-1) u) r k = N k := fun k a c => takeF_ne c (by omega) (by omega)
        refine ⟨e 6 (by omega) (by omega), fun b a c => ⟨⟨e _ (by omega) (by omega), e _ (by omega) (by omega), e _ (by omega) (by omega)⟩, fun y => e _ (by omega) fun w => hq ?_⟩⟩
        rw [← y, ← hgd, show b = nxt N g (-1) by omega]
      rw [relF_s hu0]
      exact BE_tr hb (relF_other n t1 hg hr (u := u - byF N g (-1) u) (by omega) (by omega) (by omega) hq)
theorem relF_fuel : ∀ (n m : Nat) {N : Int → Int} {g u r : Int}, InR N → 0 ≤ g ∧ g < 8 → 0 ≤ r ∧ r < 4 → 0 ≤ u → u ≤ (n : Int) → u ≤ (m : Int) → u ≤ restF N g → relF n N g u r = relF m N g u r
  | 0, m, N, g, u, r, hN, hg, hr, h0, hn, hm, hu => by rw [relF_0 (by omega), relF_0 (by omega)]
  | n + 1, 0, N, g, u, r, hN, hg, hr, h0, hn, hm, hu => by rw [relF_0 (by omega), relF_0 (by omega)]
  | n + 1, m + 1, N, g, u, r, hN, hg, hr, h0, hn, hm, hu => by
    by_cases hu0 : u ≤ 0
    · rw [relF_0 hu0, relF_0 hu0]
    · have hz := nx_pos (by omega) (nxt_is N g (-1))
      have hgd : N (152 + nxt N g (-1)) = g := by omega
      have hby := byF_in hu0 hz.2.1
      have t1 := takeF_R (u := byF N g (-1) u) (r := r) hN hz.1 (by omega) hr
      have t2 := takeF_rest (u := byF N g (-1) u) (r := r) hN hz.1 hr
      rw [hgd] at t2
      rw [relF_s hu0, relF_s hu0, relF_fuel n m t1 hg hr (by omega) (by omega) (by omega) (by omega)]
theorem take_take {N : Int → Int} {z a c r : Int} (hz : 0 ≤ z ∧ z < 60) (hr : 0 ≤ r ∧ r < 4) (ho : 0 ≤ N (152 + z) ∧ N (152 + z) < 8) : takeF (takeF N z a r) z c r = takeF N z (a + c) r := by
  have e : ∀ (x k : Int), k ≠ 272 + z → k ≠ 10 + r → k ≠ 120 + 4 * N (152 + z) + r → takeF N z x r k = N k := fun x k u v w => takeF_ne u v w
  have x1 : ∀ x : Int, takeF N z x r (272 + z) = N (272 + z) - x := fun x => takeF_at hz hr ho
  have x2 : ∀ x : Int, takeF N z x r (10 + r) = N (10 + r) + x * N (332 + z) := fun x => takeF_10 hr hz.1 ho
  have x3 : ∀ x : Int, takeF N z x r (120 + 4 * N (152 + z) + r) = N (120 + 4 * N (152 + z) + r) + x := fun x => takeF_120
  have o1 : takeF N z a r (152 + z) = N (152 + z) := e a _ (by omega) (by omega) (by omega)
  have o2 : takeF N z a r (332 + z) = N (332 + z) := e a _ (by omega) (by omega) (by omega)
  funext k
  by_cases k1 : k = 272 + z
  · rw [k1, x1, takeF_at hz hr (by omega), x1]
    omega
  · by_cases k2 : k = 10 + r
    · rw [k2, x2, takeF_10 hr hz.1 (by omega), x2, o2, Int.add_mul]
      omega
    · by_cases k3 : k = 120 + 4 * N (152 + z) + r
      · have y := takeF_120 (N := takeF N z a r) (b := z) (u := c) (r := r)
        rw [o1] at y
        rw [k3, x3, y, x3]
        omega
      · rw [takeF_ne k1 k2 (by rw [o1]; exact k3), e _ k k1 k2 k3, e _ k k1 k2 k3]
/-- releasing a, then b, is releasing a + b -/
theorem relF_add : ∀ (n : Nat) {N : Int → Int} {g a b r : Int}, InR N → 0 ≤ g ∧ g < 8 → 0 ≤ r ∧ r < 4 → 0 ≤ a → 0 ≤ b → a + b ≤ (n : Int) → a + b ≤ restF N g → (relF n N g (a + b) r).2 = (relF n N g a r).2 + (relF n (relF n N g a r).1 g b r).2
  | 0, N, g, a, b, r, hN, hg, hr, ha, hb, hn, hu => by
    rw [relF_0 (by omega), relF_0 (by omega), relF_0 (by omega)]
    rfl
  | n + 1, N, g, a, b, r, hN, hg, hr, ha, hb, hn, hu => by
    by_cases ha0 : a ≤ 0
    · rw [show a = 0 by omega, relF_0 (u := 0) (by omega), Int.zero_add, Int.zero_add]
    by_cases hb0 : b ≤ 0
    · rw [show b = 0 by omega, relF_0 (u := 0) (by omega), Int.add_zero, Int.add_zero]
    have hz := nx_pos (by omega) (nxt_is N g (-1))
    have hgd : N (152 + nxt N g (-1)) = g := by omega
    have hf := hN.2 _ hz.1.1 hz.1.2
    have c1 := hN.1
    obtain ⟨b0, b1, b2, b3, b4, b5, b6, b7, b8, b9⟩ := c1
    have hmin : ∀ k : Int, 0 ≤ k → k < N 6 → okB N g (-1) k → N (392 + nxt N g (-1)) < N (392 + k) ∨ (N (392 + nxt N g (-1)) = N (392 + k) ∧ nxt N g (-1) ≤ k) := by
      rcases nxt_is N g (-1) with ⟨h1, -⟩ | ⟨-, -, h3⟩
      · omega
      · exact h3
    by_cases hL : N (272 + nxt N g (-1)) ≤ a
    · have e1 : byF N g (-1) a = N (272 + nxt N g (-1)) := by
        unfold byF
        split <;> omega
      have e2 : byF N g (-1) (a + b) = N (272 + nxt N g (-1)) := by
        unfold byF
        split <;> omega
      have t1 := takeF_R (u := N (272 + nxt N g (-1))) (r := r) hN hz.1 (by omega) hr
      have t2 := takeF_rest (u := N (272 + nxt N g (-1))) (r := r) hN hz.1 hr
      rw [hgd] at t2
      have ih := relF_add n t1 hg hr (a := a - N (272 + nxt N g (-1))) (b := b) (by omega) hb (by omega) (by omega)
      have q := relF_all n (r := r) t1 hg hr (u := a - N (272 + nxt N g (-1))) (by omega) (by omega) (by omega)
      rw [relF_s (show ¬ a + b ≤ 0 by omega), relF_s ha0, e1, e2, show a + b - N (272 + nxt N g (-1)) = a - N (272 + nxt N g (-1)) + b by omega, ih]
      dsimp only
      rw [relF_fuel (n + 1) n q.1 hg hr hb (by omega) (by omega) (by rw [q.2.2.1]; omega)]
      omega
    · have e1 : byF N g (-1) a = a := by
        unfold byF
        split <;> omega
      have T1R := takeF_R (u := a) (r := r) hN hz.1 (by omega) hr
      have T1x : takeF N (nxt N g (-1)) a r (272 + nxt N g (-1)) = N (272 + nxt N g (-1)) - a := takeF_at (by omega) hr (by omega)
      have T1e : ∀ k : Int, k = 6 ∨ 152 ≤ k → k ≠ 272 + nxt N g (-1) → takeF N (nxt N g (-1)) a r k = N k := fun k x y => takeF_ne y (by omega) (by omega)
      have T1T : ∀ c : Int, takeF (takeF N (nxt N g (-1)) a r) (nxt N g (-1)) c r = takeF N (nxt N g (-1)) (a + c) r := fun c => take_take (by omega) hr (by omega)
      have en : nxt (takeF N (nxt N g (-1)) a r) g (-1) = nxt N g (-1) := by
        generalize nxt N g (-1) = z at hz hgd hmin T1x T1e hL ⊢
        refine (nxt_eq (N := takeF N z a r) (g := g) (p := -1) (z := z) (Or.inr ⟨by rw [T1e 6 (by omega) (by omega)]; exact hz.1, ?_, fun k x y w => ?_⟩)).symm
        · refine ⟨by omega, Or.inr ?_, Or.inl (by omega)⟩
          rw [T1e (152 + z) (by omega) (by omega)]
          exact hgd
        · rw [T1e 6 (by omega) (by omega)] at y
          rw [T1e (392 + z) (by omega) (by omega), T1e (392 + k) (by omega) (by omega)]
          refine hmin k x y ?_
          by_cases hk : k = z
          · rw [hk]
            exact ⟨hz.2.1, Or.inr hgd, Or.inl (by omega)⟩
          · unfold okB at w
            rw [T1e (272 + k) (by omega) (by omega), T1e (152 + k) (by omega) (by omega)] at w
            unfold okB
            omega
      have ed : takeF N (nxt N g (-1)) a r (332 + nxt N g (-1)) = N (332 + nxt N g (-1)) := T1e _ (by omega) (by omega)
      have e3 : relF (n + 1) N g a r = (takeF N (nxt N g (-1)) a r, a * N (332 + nxt N g (-1))) := by
        rw [relF_s ha0, e1, relF_0 (show a - a ≤ 0 by omega), Int.add_zero]
      rw [e3, relF_s (show ¬ a + b ≤ 0 by omega)]
      dsimp only
      rw [relF_s hb0, en, ed]
      dsimp only
      have e4 : byF (takeF N (nxt N g (-1)) a r) g (-1) b = byF N g (-1) (a + b) - a := by
        unfold byF
        rw [en, T1x]
        split <;> split <;> omega
      rw [e4, T1T, show a + (byF N g (-1) (a + b) - a) = byF N g (-1) (a + b) by omega, show b - (byF N g (-1) (a + b) - a) = a + b - byF N g (-1) (a + b) by omega, Int.sub_mul]
      omega
