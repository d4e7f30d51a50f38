theorem sGood_X {N : Int → Int} (h : InX N) (d : Int) : InX (sGood N d).2 := by
  refine ⟨sGood_inv h.1 d, ?_⟩
  have hY := inY h.1
  obtain ⟨b0, b1, b2, b3, b4, b5, b6, b7, b8, b9⟩ := inY_b hY
  unfold sGood
  split
  · exact h.2
  rename_i c1
  split
  · exact h.2
  rename_i c2
  obtain ⟨hC, hG, hE, hZ, hS, hP⟩ := h.2
  show EX (uZ (uZ N (104 + N 5) d) 5 (N 5 + 1))
  have e : ∀ k : Int, k ≠ 5 → k < 104 ∨ 112 ≤ k → uZ (uZ N (104 + N 5) d) 5 (N 5 + 1) k = N k := fun k a b => by rw [uZ_ne a, uZ_ne (by omega)]
  exact ⟨ec_eq b6.2 hC fun k hk => e k (by omega) (by omega), gm_eq b6.2 hG fun k hk => e k (by omega) (by omega), ed_eq b6.2 hE fun k hk => e k (by omega) (by omega), ez_eq b4.2 hZ fun k hk => e k (by omega) (by omega), es_eq b4.2 b7.2 hY.2.1 hS fun k hk => e k (by omega) (by omega), ep_eq b7.2 hP (by rw [e 1 (by omega) (by omega)]; exact Int.le_refl _) (e 7 (by omega) (by omega)) fun k a b => e k (by omega) (by omega)⟩
theorem sDuty_X {N : Int → Int} (h : InX N) (g d : Int) : InX (sDuty N g d).2 := by
  refine ⟨sDuty_inv h.1 g d, ?_⟩
  have hY := inY h.1
  obtain ⟨b0, b1, b2, b3, b4, b5, b6, b7, b8, b9⟩ := inY_b hY
  unfold sDuty
  split
  · exact h.2
  rename_i c1
  have c1 := Decidable.not_not.mp c1
  obtain ⟨hC, hG, hE, hZ, hS, hP⟩ := h.2
  show EX (uZ N (104 + g) d)
  have e : ∀ k : Int, k < 104 ∨ 112 ≤ k → uZ N (104 + g) d k = N k := fun k b => uZ_ne (by omega)
  exact ⟨ec_eq b6.2 hC fun k hk => e k (by omega), gm_eq b6.2 hG fun k hk => e k (by omega), ed_eq b6.2 hE fun k hk => e k (by omega), ez_eq b4.2 hZ fun k hk => e k (by omega), es_eq b4.2 b7.2 hY.2.1 hS fun k hk => e k (by omega), ep_eq b7.2 hP (by rw [e 1 (by omega)]; exact Int.le_refl _) (e 7 (by omega)) fun k a b => e k (by omega)⟩
theorem setX_aux {N : Int → Int} (h : InX N) {i v : Int} (hi : i = 2 ∨ i = 3) : EX (uZ N i v) := by
  have hY := inY h.1
  obtain ⟨b0, b1, b2, b3, b4, b5, b6, b7, b8, b9⟩ := inY_b hY
  obtain ⟨hC, hG, hE, hZ, hS, hP⟩ := h.2
  have e : ∀ k : Int, k ≠ 2 → k ≠ 3 → uZ N i v k = N k := fun k a b => uZ_ne (by omega)
  exact ⟨ec_eq b6.2 hC fun k hk => e k (by omega) (by omega), gm_eq b6.2 hG fun k hk => e k (by omega) (by omega), ed_eq b6.2 hE fun k hk => e k (by omega) (by omega), ez_eq b4.2 hZ fun k hk => e k (by omega) (by omega), es_eq b4.2 b7.2 hY.2.1 hS fun k hk => e k (by omega) (by omega), ep_eq b7.2 hP (by rw [e 1 (by omega) (by omega)]; exact Int.le_refl _) (e 7 (by omega) (by omega)) fun k a b => e k (by omega) (by omega)⟩
theorem sSet_X {N : Int → Int} (h : InX N) (w v : Int) : InX (sSet N w v).2 := by
  refine ⟨sSet_inv h.1 w v, ?_⟩
  unfold sSet
  by_cases c1 : (0 ≤ w ∧ w ≤ 1) ∧ (w ≤ v ∧ v ≤ if w = 0 then 100000 else 99)
  · rw [if_neg (not_not_intro c1)]
    exact setX_aux h (by omega)
  · rw [if_pos c1]
    exact h.2
theorem sUse_X {N : Int → Int} (h : InX N) (l g u : Int) : InX (sUse N l g u).2 := by
  refine ⟨sUse_inv h.1 l g u, ?_⟩
  have hY := inY h.1
  obtain ⟨b0, b1, b2, b3, b4, b5, b6, b7, b8, b9⟩ := inY_b hY
  unfold sUse
  split
  · exact h.2
  rename_i c1
  split
  · exact h.2
  rename_i c2
  have c1 := Decidable.not_not.mp c1
  obtain ⟨hC, hG, hE, hZ, hS, hP⟩ := h.2
  have hl : 0 ≤ l ∧ l < 5 := by omega
  have hg : 0 ≤ g ∧ g < 8 := by omega
  have hh := lessRel (r := 0) hY hl hg (u := u) (by omega)
  have e : ∀ k : Int, k < 24 ∨ 64 ≤ k → uZ N (24 + 8 * l + g) (N (24 + 8 * l + g) - u) k = N k := fun k hk => uZ_ne (by omega)
  refine rel_X hh.1 hg (by omega) (by omega) ?_ (fun q a b c => ?_) (gm_eq b6.2 hG fun k hk => e k (by omega)) (ed_eq b6.2 hE fun k hk => e k (by omega)) (ez_eq b4.2 hZ fun k hk => e k (by omega)) (es_eq b4.2 b7.2 hY.2.1 hS fun k hk => e k (by omega)) (ep_eq b7.2 hP (by rw [e 1 (by omega)]; exact Int.le_refl _) (e 7 (by omega)) fun k a b => e k (by omega))
  · have h1 := hC g hg.1 hg.2
    rw [hasF_up hl hg, missF_eq (N := N) hg fun k a b => e k (by omega), rest_has g (by omega) b6.2]
    omega
  · have h1 := hC q a b
    rw [hasF_up2 hl hg ⟨a, b⟩ c, missF_eq (N := N) ⟨a, b⟩ fun k a b => e k (by omega), rest_has q (by omega) b6.2]
    exact h1
theorem sSmash_X {N : Int → Int} (h : InX N) (l g u w : Int) : InX (sSmash N l g u w).2 := by
  refine ⟨sSmash_inv h.1 l g u w, ?_⟩
  have hY := inY h.1
  obtain ⟨b0, b1, b2, b3, b4, b5, b6, b7, b8, b9⟩ := inY_b hY
  unfold sSmash
  split
  · exact h.2
  rename_i c1
  split
  · exact h.2
  rename_i c2
  have c1 := Decidable.not_not.mp c1
  obtain ⟨hC, hG, hE, hZ, hS, hP⟩ := h.2
  have hl : 0 ≤ l ∧ l < 5 := by omega
  have hg : 0 ≤ g ∧ g < 8 := by omega
  split
  · have hh := lessRel (r := 2) hY hl hg (u := u) (by omega)
    have e : ∀ k : Int, k < 24 ∨ 64 ≤ k → uZ N (24 + 8 * l + g) (N (24 + 8 * l + g) - u) k = N k := fun k hk => uZ_ne (by omega)
    refine rel_X hh.1 hg (by omega) (by omega) ?_ (fun q a b c => ?_) (gm_eq b6.2 hG fun k hk => e k (by omega)) (ed_eq b6.2 hE fun k hk => e k (by omega)) (ez_eq b4.2 hZ fun k hk => e k (by omega)) (es_eq b4.2 b7.2 hY.2.1 hS fun k hk => e k (by omega)) (ep_eq b7.2 hP (by rw [e 1 (by omega)]; exact Int.le_refl _) (e 7 (by omega)) fun k a b => e k (by omega))
    · have h1 := hC g hg.1 hg.2
      rw [hasF_up hl hg, missF_eq (N := N) hg fun k a b => e k (by omega), rest_has g (by omega) b6.2]
      omega
    · have h1 := hC q a b
      rw [hasF_up2 hl hg ⟨a, b⟩ c, missF_eq (N := N) ⟨a, b⟩ fun k a b => e k (by omega), rest_has q (by omega) b6.2]
      exact h1
  · show EX (uZ (uZ N (24 + 8 * l + g) (N (24 + 8 * l + g) - u)) (64 + 8 * l + g) (N (64 + 8 * l + g) + u))
    have e : ∀ k : Int, k < 24 ∨ 104 ≤ k → uZ (uZ N (24 + 8 * l + g) (N (24 + 8 * l + g) - u)) (64 + 8 * l + g) (N (64 + 8 * l + g) + u) k = N k := fun k hk => by rw [uZ_ne (by omega), uZ_ne (by omega)]
    refine ⟨fun q a b => ?_, gm_eq b6.2 hG fun k hk => e k (by omega), ed_eq b6.2 hE fun k hk => e k (by omega), ez_eq b4.2 hZ fun k hk => e k (by omega), es_eq b4.2 b7.2 hY.2.1 hS fun k hk => e k (by omega), ep_eq b7.2 hP (by rw [e 1 (by omega)]; exact Int.le_refl _) (e 7 (by omega)) fun k a b => e k (by omega)⟩
    have h1 := hC q a b
    rw [rest_has q (by omega) (by rw [uZ_ne (by omega)]; exact b6.2), rest_has q (by omega) b6.2, hasF_eq (N := uZ N (24 + 8 * l + g) (N (24 + 8 * l + g) - u)) ⟨a, b⟩ fun k x y => uZ_ne (by omega)]
    by_cases hq : q = g
    · rw [hq] at h1 ⊢
      rw [hasF_up hl hg, missF_up hl hg, missF_eq (N := N) hg fun k x y => uZ_ne (by omega), uZ_ne (i := 24 + 8 * l + g) (k := 64 + 8 * l + g) (by omega)]
      omega
    · rw [hasF_up2 hl hg ⟨a, b⟩ hq, missF_up2 hl hg ⟨a, b⟩ hq, missF_eq (N := N) ⟨a, b⟩ fun k x y => uZ_ne (by omega)]
      exact h1
theorem sBring_X {N : Int → Int} (h : InX N) (l g u : Int) : InX (sBring N l g u).2 := by
  refine ⟨sBring_inv h.1 l g u, ?_⟩
  have hY := inY h.1
  obtain ⟨b0, b1, b2, b3, b4, b5, b6, b7, b8, b9⟩ := inY_b hY
  unfold sBring
  split
  · exact h.2
  rename_i c1
  split
  · exact h.2
  rename_i c2
  split
  · exact h.2
  rename_i c3
  have c1 := Decidable.not_not.mp c1
  have c3 := Decidable.not_not.mp c3
  obtain ⟨hC, hG, hE, hZ, hS, hP⟩ := h.2
  have hl : 0 ≤ l ∧ l < 5 := by omega
  have hg : 0 ≤ g ∧ g < 8 := by omega
  have hO := y_off (w := 2) hY hl
  have oS := es_off (w := 2) hY hS (l := l) (by omega) (by omega)
  have eO : ∀ k : Int, 0 ≤ k → k < 854 → k < 14 ∨ 19 ≤ k → offF N l 2 k = N k := fun k a b c => offF_ne (by have := (hY.2.1 l hl.1 hl.2).2.1.1; omega)
  have eO2 : ∀ k : Int, 14 ≤ k → k < 19 → k ≠ 14 + l → offF N l 2 k = N k := fun k a b c => offF_ne (by have := (hY.2.1 l hl.1 hl.2).2.1.1; omega)
  have ec : offF N l 2 (24 + 8 * l + g) = N (24 + 8 * l + g) := eO _ (by omega) (by omega) (by omega)
  have hh := lessRel (r := 1) hO hl hg (u := u) (by omega)
  rw [ec] at hh
  have eU : ∀ k : Int, k < 24 ∨ 64 ≤ k → uZ (offF N l 2) (24 + 8 * l + g) (N (24 + 8 * l + g) - u) k = offF N l 2 k := fun k hk => uZ_ne (by omega)
  have uS : ES (uZ (offF N l 2) (24 + 8 * l + g) (N (24 + 8 * l + g) - u)) := es_eq (by rw [eO 4 (by omega) (by omega) (by omega)]; exact b4.2) (by rw [eO 7 (by omega) (by omega) (by omega)]; exact b7.2) hO.2.1 oS.1 fun k hk => eU k (by omega)
  have u14 : uZ (offF N l 2) (24 + 8 * l + g) (N (24 + 8 * l + g) - u) (14 + l) ≠ 1 := by rw [eU _ (by omega)]; exact oS.2
  have eV : ∀ k : Int, 0 ≤ k → k < 854 → k < 14 ∨ (19 ≤ k ∧ k < 24) ∨ 64 ≤ k → uZ (offF N l 2) (24 + 8 * l + g) (N (24 + 8 * l + g) - u) k = N k := fun k a b c => by rw [eU k (by omega), eO k a b (by omega)]
  have eV2 : ∀ k : Int, 14 ≤ k → k < 19 → k ≠ 14 + l → uZ (offF N l 2) (24 + 8 * l + g) (N (24 + 8 * l + g) - u) k = N k := fun k a b c => by rw [eU k (by omega), eO2 k a b c]
  have uh : ∀ q : Int, 0 ≤ q → q < 8 → hasF (uZ (offF N l 2) (24 + 8 * l + g) (N (24 + 8 * l + g) - u)) q = if q = g then hasF N q - u else hasF N q := fun q a b => by
    split
    · rename_i e
      have e1 := hasF_up (N := offF N l 2) (v := N (24 + 8 * l + g) - u) hl hg
      rw [e, e1, ec, hasF_eq (N := N) (M := offF N l 2) hg fun k x y => eO k (by omega) (by omega) (by omega)]
      omega
    · rename_i e
      rw [hasF_up2 hl hg ⟨a, b⟩ e, hasF_eq (N := N) (M := offF N l 2) ⟨a, b⟩ fun k x y => eO k (by omega) (by omega) (by omega)]
  have pU : InY (uZ (offF N l 2) (24 + 8 * l + g) (N (24 + 8 * l + g) - u)) := hh.1
  generalize uZ (offF N l 2) (24 + 8 * l + g) (N (24 + 8 * l + g) - u) = U at uS u14 eV eV2 uh pU ⊢
  have U0 : U 0 = N 0 := eV 0 (by omega) (by omega) (by omega)
  have U1 : U 1 = N 1 := eV 1 (by omega) (by omega) (by omega)
  have U4 : U 4 = N 4 := eV 4 (by omega) (by omega) (by omega)
  have U7 : U 7 = N 7 := eV 7 (by omega) (by omega) (by omega)
  have U6 : U 6 = N 6 := eV 6 (by omega) (by omega) (by omega)
  have e : ∀ k : Int, 0 ≤ k → k < 452 → k ≠ 7 → k < 14 ∨ 24 ≤ k → sealsF U l k = U k := fun k a b c d => sealsF_lo hl (by omega) ⟨a, b⟩ c d
  have pS := y_seal pU hl (by omega)
  have hr : ∀ q : Int, restF (sealsF U l) q = restF N q := fun q => by
    rw [sealsF_rest (inY_R pU) hl q]
    exact restF_eq U6 fun b x y => ⟨eV _ (by omega) (by omega) (by omega), eV _ (by omega) (by omega) (by omega)⟩
  have hmm : ∀ q : Int, 0 ≤ q → q < 8 → missF (sealsF U l) q = missF N q := fun q a b => missF_eq ⟨a, b⟩ fun k x y => by rw [e k (by omega) (by omega) (by omega) (by omega), eV k (by omega) (by omega) (by omega)]
  have hhh : ∀ q : Int, 0 ≤ q → q < 8 → hasF (sealsF U l) q = hasF U q := fun q a b => hasF_eq ⟨a, b⟩ fun k x y => e k (by omega) (by omega) (by omega) (by omega)
  have e2 : ∀ k : Int, 0 ≤ k → k < 452 → k ≠ 7 → k < 14 ∨ 64 ≤ k → sealsF U l k = N k := fun k a b c d => by rw [e k a b c (by omega), eV k a (by omega) (by omega)]
  refine rel_X pS hg (by omega) (by omega) ?_ (fun q a b c => ?_) (gm_eq b6.2 hG fun k hk => e2 k (by omega) (by omega) (by omega) (by omega)) (ed_eq b6.2 hE fun k hk => e2 k (by omega) (by omega) (by omega) (by omega)) (fun _ k a b => ?_) (es_put (N := U) (by omega) (by omega) pU.2.1 uS hl (fun _ => u14) (fun k _ => rfl) ?_ ?_) (ep_put (N := U) (by omega) (by omega) (ep_eq b7.2 hP (by rw [U1]; exact Int.le_refl _) U7 fun k a b => eV k (by omega) (by omega) (by omega)) hl fun k _ => rfl)
  · have h1 := hC g hg.1 hg.2
    rw [hr, hmm g hg.1 hg.2, hhh g hg.1 hg.2, uh g hg.1 hg.2, if_pos rfl]
    omega
  · have h1 := hC q a b
    rw [hr, hmm q a b, hhh q a b, uh q a b, if_neg c]
    exact h1
  · rw [e2 4 (by omega) (by omega) (by omega) (by omega)] at b
    by_cases hk : k = l
    · rw [hk, sealsF_14 hl (by omega)]
      omega
    · rw [sealsF_ne (by omega), eV2 _ (by omega) (by omega) (by omega)]
      exact hZ (by omega) k a b
  · rw [e2 4 (by omega) (by omega) (by omega) (by omega)]
    exact ⟨by omega, by omega, fun k q => Or.inr (by omega)⟩
  · rw [e2 4 (by omega) (by omega) (by omega) (by omega)]
    exact b4.2
