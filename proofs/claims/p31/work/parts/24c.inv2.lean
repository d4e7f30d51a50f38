/-- what stands below 10 changes, but 4 .. 7 do not -/
theorem y_low {N M : Int → Int} (h : InY N) (h0 : In0 M) (e : ∀ k : Int, 0 ≤ k → k < 452 → (k = 4 ∨ k = 5 ∨ k = 6 ∨ k = 7 ∨ 10 ≤ k) → M k = N k) : InY M := by
  obtain ⟨g0, hL, hH, hB, hD, hC, hG⟩ := h
  have h60 := g0.2.2.2.2.2.2.1
  have h8 := g0.2.2.2.2.2.1
  exact ⟨h0, iL_eq hL (by rw [e 7 (by omega) (by omega) (by omega)]; exact Int.le_refl _) fun k a b => e k (by omega) (by omega) (by omega), iH_eq hH (by rw [e 4 (by omega) (by omega) (by omega)]; exact Int.le_refl _) fun k a b => e k (by omega) (by omega) (by omega), iB_eq h60.2 hB (e 6 (by omega) (by omega) (by omega)) (by rw [e 5 (by omega) (by omega) (by omega)]; exact Int.le_refl _) fun k a b => e k (by omega) (by omega) (by omega), iD_eq h8.2 hD (e 5 (by omega) (by omega) (by omega)) fun k a b => e k (by omega) (by omega) (by omega), iC_eq hC (e 6 (by omega) (by omega) (by omega)) (fun k a b => e k (by omega) (by omega) (by omega)) fun b c d => ⟨e _ (by omega) (by omega) (by omega), e _ (by omega) (by omega) (by omega)⟩, iG_eq hG (e 6 (by omega) (by omega) (by omega)) (fun k a b => e k (by omega) (by omega) (by omega)) fun b c d => ⟨e _ (by omega) (by omega) (by omega), e _ (by omega) (by omega) (by omega)⟩⟩
theorem y_one {N : Int → Int} {i v : Int} (h : InY N) (hi : i = 0 ∨ i = 1 ∨ i = 2 ∨ i = 3 ∨ i = 8 ∨ i = 9) (h0 : i = 0 → 0 ≤ v ∧ v ≤ 2) (h1 : i = 1 → 0 ≤ v ∧ v ≤ 5000) (h2 : i = 2 → 0 ≤ v ∧ v ≤ 100000) (h3 : i = 3 → 1 ≤ v ∧ v ≤ 99) (h8 : i = 8 → 0 ≤ v ∧ v ≤ 30000000) (h9 : i = 9 → 0 ≤ v ∧ v ≤ 2147483647) : InY (uZ N i v) := by
  refine y_low h ?_ fun k a b c => uZ_ne (by omega)
  obtain ⟨b0, b1, b2, b3, b4, b5, b6, b7, b8, b9⟩ := inY_b h
  rcases hi with hi | hi | hi | hi | hi | hi
  · subst hi
    have := h0 rfl
    unfold In0
    rw [uZ_eq, uZ_ne (by omega), uZ_ne (by omega), uZ_ne (by omega), uZ_ne (by omega), uZ_ne (by omega), uZ_ne (by omega), uZ_ne (by omega), uZ_ne (by omega), uZ_ne (by omega)]
    omega
  · subst hi
    have := h1 rfl
    unfold In0
    rw [uZ_eq, uZ_ne (by omega), uZ_ne (by omega), uZ_ne (by omega), uZ_ne (by omega), uZ_ne (by omega), uZ_ne (by omega), uZ_ne (by omega), uZ_ne (by omega), uZ_ne (by omega)]
    omega
  · subst hi
    have := h2 rfl
    unfold In0
    rw [uZ_eq, uZ_ne (by omega), uZ_ne (by omega), uZ_ne (by omega), uZ_ne (by omega), uZ_ne (by omega), uZ_ne (by omega), uZ_ne (by omega), uZ_ne (by omega), uZ_ne (by omega)]
    omega
  · subst hi
    have := h3 rfl
    unfold In0
    rw [uZ_eq, uZ_ne (by omega), uZ_ne (by omega), uZ_ne (by omega), uZ_ne (by omega), uZ_ne (by omega), uZ_ne (by omega), uZ_ne (by omega), uZ_ne (by omega), uZ_ne (by omega)]
    omega
  · subst hi
    have := h8 rfl
    unfold In0
    rw [uZ_eq, uZ_ne (by omega), uZ_ne (by omega), uZ_ne (by omega), uZ_ne (by omega), uZ_ne (by omega), uZ_ne (by omega), uZ_ne (by omega), uZ_ne (by omega), uZ_ne (by omega)]
    omega
  · subst hi
    have := h9 rfl
    unfold In0
    rw [uZ_eq, uZ_ne (by omega), uZ_ne (by omega), uZ_ne (by omega), uZ_ne (by omega), uZ_ne (by omega), uZ_ne (by omega), uZ_ne (by omega), uZ_ne (by omega), uZ_ne (by omega)]
    omega
theorem y_four {N : Int → Int} {v : Int} (h : InY N) (hv : N 4 ≤ v ∧ v ≤ 5) : InY (uZ N 4 v) := by
  obtain ⟨h0, hL, hH, hB, hD, hC, hG⟩ := h
  have e : ∀ k : Int, k ≠ 4 → uZ N 4 v k = N k := fun k a => uZ_ne a
  have h00 := h0
  obtain ⟨b0, b1, b2, b3, b4, b5, b6, b7, b8, b9⟩ := h00
  refine ⟨?_, iL_eq hL (by rw [e 7 (by omega)]; exact Int.le_refl _) fun k a b => e k (by omega), iH_eq hH (by rw [uZ_eq]; exact hv.1) fun k a b => e k (by omega), iB_eq b6.2 hB (e 6 (by omega)) (by rw [e 5 (by omega)]; exact Int.le_refl _) fun k a b => e k (by omega), iD_eq b5.2 hD (e 5 (by omega)) fun k a b => e k (by omega), iC_eq hC (e 6 (by omega)) (fun k a b => e k (by omega)) fun b c d => ⟨e _ (by omega), e _ (by omega)⟩, iG_eq hG (e 6 (by omega)) (fun k a b => e k (by omega)) fun b c d => ⟨e _ (by omega), e _ (by omega)⟩⟩
  unfold In0
  rw [uZ_eq, e 0 (by omega), e 1 (by omega), e 2 (by omega), e 3 (by omega), e 5 (by omega), e 6 (by omega), e 7 (by omega), e 8 (by omega), e 9 (by omega)]
  omega
theorem y_duty {N : Int → Int} {g d : Int} (h : InY N) (hg : 0 ≤ g ∧ g < 8) (hd : 1 ≤ d ∧ d ≤ 1000000) : InY (uZ N (104 + g) d) := by
  obtain ⟨h0, hL, hH, hB, hD, hC, hG⟩ := h
  have e : ∀ k : Int, k < 104 ∨ 112 ≤ k → uZ N (104 + g) d k = N k := fun k a => uZ_ne (by omega)
  have h00 := h0
  obtain ⟨b0, b1, b2, b3, b4, b5, b6, b7, b8, b9⟩ := h00
  refine ⟨i0_eq h0 fun k a b => e k (by omega), iL_eq hL (by rw [e 7 (by omega)]; exact Int.le_refl _) fun k a b => e k (by omega), iH_eq hH (by rw [e 4 (by omega)]; exact Int.le_refl _) fun k a b => e k (by omega), iB_eq b6.2 hB (e 6 (by omega)) (by rw [e 5 (by omega)]; exact Int.le_refl _) fun k a b => e k (by omega), fun q a b => ?_, iC_eq hC (e 6 (by omega)) (fun k a b => e k (by omega)) fun b c d => ⟨e _ (by omega), e _ (by omega)⟩, iG_eq hG (e 6 (by omega)) (fun k a b => e k (by omega)) fun b c d => ⟨e _ (by omega), e _ (by omega)⟩⟩
  rw [e 5 (by omega)] at b
  by_cases hq : q = g
  · rw [hq, uZ_eq]
    exact hd
  · rw [uZ_ne (by omega)]
    exact hD q a b
theorem y_five {N : Int → Int} (h : InY N) (h8 : N 5 < 8) (hd : 1 ≤ N (104 + N 5) ∧ N (104 + N 5) ≤ 1000000) : InY (uZ N 5 (N 5 + 1)) := by
  obtain ⟨h0, hL, hH, hB, hD, hC, hG⟩ := h
  have e : ∀ k : Int, k ≠ 5 → uZ N 5 (N 5 + 1) k = N k := fun k a => uZ_ne a
  have h00 := h0
  obtain ⟨b0, b1, b2, b3, b4, b5, b6, b7, b8, b9⟩ := h00
  refine ⟨?_, iL_eq hL (by rw [e 7 (by omega)]; exact Int.le_refl _) fun k a b => e k (by omega), iH_eq hH (by rw [e 4 (by omega)]; exact Int.le_refl _) fun k a b => e k (by omega), iB_eq b6.2 hB (e 6 (by omega)) (by rw [uZ_eq]; omega) fun k a b => e k (by omega), fun q a b => ?_, iC_eq hC (e 6 (by omega)) (fun k a b => e k (by omega)) fun b c d => ⟨e _ (by omega), e _ (by omega)⟩, iG_eq hG (e 6 (by omega)) (fun k a b => e k (by omega)) fun b c d => ⟨e _ (by omega), e _ (by omega)⟩⟩
  · unfold In0
    rw [uZ_eq, e 0 (by omega), e 1 (by omega), e 2 (by omega), e 3 (by omega), e 4 (by omega), e 6 (by omega), e 7 (by omega), e 8 (by omega), e 9 (by omega)]
    omega
  · rw [uZ_eq] at b
    rw [e (104 + q) (by omega)]
    by_cases hq : q = N 5
    · rw [hq]
      exact hd
    · exact hD q a (by omega)
/-- a bond is made: the ship behind it -/
theorem y_bond {P M : Int → Int} {l g u b dt du sm : Int} (h : InY P) (hl : 0 ≤ l ∧ l < P 4) (hg : 0 ≤ g ∧ g < P 5) (hu : 1 ≤ u ∧ u ≤ 9999) (hb : b = P 6 ∧ b < 60) (hdt : 1 ≤ dt ∧ dt ≤ 1000000) (hdu : 0 ≤ du ∧ du ≤ 5099) (hsm : 0 ≤ sm ∧ sm ≤ 2147483647) (hc : P (24 + 8 * l + g) + u ≤ 99999) (hM : M = uZ (uZ (uZ (uZ (uZ (uZ (uZ (uZ (uZ P (152 + b) g) (212 + b) u) (272 + b) u) (332 + b) dt) (392 + b) du) 6 (b + 1)) 9 sm) (112 + g) (P (112 + g) + u)) (24 + 8 * l + g) (P (24 + 8 * l + g) + u)) : InY M := by
  obtain ⟨b0, b1, b2, b3, b4, b5, b6, b7, b8, b9⟩ := inY_b h
  have e : ∀ k : Int, k ≠ 152 + b → k ≠ 212 + b → k ≠ 272 + b → k ≠ 332 + b → k ≠ 392 + b → k ≠ 6 → k ≠ 9 → k ≠ 112 + g → k ≠ 24 + 8 * l + g → M k = P k := fun k a1 a2 a3 a4 a5 a6 a7 a8 a9 => by
    rw [hM, uZ_ne a9, uZ_ne a8, uZ_ne a7, uZ_ne a6, uZ_ne a5, uZ_ne a4, uZ_ne a3, uZ_ne a2, uZ_ne a1]
  have e9 : M (24 + 8 * l + g) = P (24 + 8 * l + g) + u := by rw [hM, uZ_eq]
  have e8 : M (112 + g) = P (112 + g) + u := by rw [hM, uZ_ne (by omega), uZ_eq]
  have e7 : M 9 = sm := by rw [hM, uZ_ne (by omega), uZ_ne (by omega), uZ_eq]
  have e6 : M 6 = b + 1 := by rw [hM, uZ_ne (by omega), uZ_ne (by omega), uZ_ne (by omega), uZ_eq]
  have e5 : M (392 + b) = du := by rw [hM, uZ_ne (by omega), uZ_ne (by omega), uZ_ne (by omega), uZ_ne (by omega), uZ_eq]
  have e4 : M (332 + b) = dt := by rw [hM, uZ_ne (by omega), uZ_ne (by omega), uZ_ne (by omega), uZ_ne (by omega), uZ_ne (by omega), uZ_eq]
  have e3 : M (272 + b) = u := by rw [hM, uZ_ne (by omega), uZ_ne (by omega), uZ_ne (by omega), uZ_ne (by omega), uZ_ne (by omega), uZ_ne (by omega), uZ_eq]
  have e2 : M (212 + b) = u := by rw [hM, uZ_ne (by omega), uZ_ne (by omega), uZ_ne (by omega), uZ_ne (by omega), uZ_ne (by omega), uZ_ne (by omega), uZ_ne (by omega), uZ_eq]
  have e1 : M (152 + b) = g := by rw [hM, uZ_ne (by omega), uZ_ne (by omega), uZ_ne (by omega), uZ_ne (by omega), uZ_ne (by omega), uZ_ne (by omega), uZ_ne (by omega), uZ_ne (by omega), uZ_eq]
  clear hM
  obtain ⟨h0, hL, hH, hB, hD, hC, hG⟩ := h
  have eB : ∀ k : Int, 0 ≤ k → k < b → M (152 + k) = P (152 + k) ∧ M (212 + k) = P (212 + k) ∧ M (272 + k) = P (272 + k) ∧ M (332 + k) = P (332 + k) ∧ M (392 + k) = P (392 + k) := fun k a c => ⟨e _ (by omega) (by omega) (by omega) (by omega) (by omega) (by omega) (by omega) (by omega) (by omega), e _ (by omega) (by omega) (by omega) (by omega) (by omega) (by omega) (by omega) (by omega) (by omega), e _ (by omega) (by omega) (by omega) (by omega) (by omega) (by omega) (by omega) (by omega) (by omega), e _ (by omega) (by omega) (by omega) (by omega) (by omega) (by omega) (by omega) (by omega) (by omega), e _ (by omega) (by omega) (by omega) (by omega) (by omega) (by omega) (by omega) (by omega) (by omega)⟩
  have eL : ∀ k : Int, k < 112 → k ≠ 6 → k ≠ 9 → k ≠ 24 + 8 * l + g → M k = P k := fun k a1 a2 a3 a4 => e k (by omega) (by omega) (by omega) (by omega) (by omega) a2 a3 (by omega) a4
  have eU : ∀ k : Int, 24 ≤ k → k < 104 → M k = uZ P (24 + 8 * l + g) (P (24 + 8 * l + g) + u) k := fun k a1 a2 => by
    by_cases hk : k = 24 + 8 * l + g
    · rw [hk, e9, uZ_eq]
    · rw [eL k (by omega) (by omega) (by omega) hk, uZ_ne hk]
  refine ⟨?_, iL_eq hL (by rw [eL 7 (by omega) (by omega) (by omega) (by omega)]; exact Int.le_refl _) fun k a c => eL k (by omega) (by omega) (by omega) (by omega), ?_, ?_, iD_eq b5.2 hD (eL 5 (by omega) (by omega) (by omega) (by omega)) fun k a c => eL k (by omega) (by omega) (by omega) (by omega), ?_, ?_⟩
  · unfold In0
    rw [e6, e7, eL 0 (by omega) (by omega) (by omega) (by omega), eL 1 (by omega) (by omega) (by omega) (by omega), eL 2 (by omega) (by omega) (by omega) (by omega), eL 3 (by omega) (by omega) (by omega) (by omega), eL 4 (by omega) (by omega) (by omega) (by omega), eL 5 (by omega) (by omega) (by omega) (by omega), eL 7 (by omega) (by omega) (by omega) (by omega), eL 8 (by omega) (by omega) (by omega) (by omega)]
    omega
  · have hh := hH l g hl.1 (by omega) hg.1 (by omega)
    exact iH_eq (iH_up hH ⟨hl.1, by omega⟩ ⟨hg.1, by omega⟩ ⟨by omega, hc⟩ (fun q => by omega)) (by rw [eL 4 (by omega) (by omega) (by omega) (by omega), uZ_ne (by omega)]; exact Int.le_refl _) eU
  · intro k a c
    rw [e6] at c
    rw [eL 5 (by omega) (by omega) (by omega) (by omega)]
    by_cases hk : k = b
    · rw [hk, e1, e2, e3, e4, e5]
      omega
    · obtain ⟨a1, a2, a3, a4, a5⟩ := eB k a (by omega)
      rw [a1, a2, a3, a4, a5]
      exact hB k a (by omega)
  · intro q a c
    have hr : restF M q = restF P q + (if g = q then u else 0) := by
      unfold restF
      rw [e6, sumZ_step (by omega), e1, e3, ← hb.1]
      congr 1
      refine sumZ_congr _ fun k x y => ?_
      obtain ⟨a1, a2, a3, a4, a5⟩ := eB k x (by omega)
      rw [a1, a3]
    rw [hr, hasF_eq (N := uZ P (24 + 8 * l + g) (P (24 + 8 * l + g) + u)) ⟨a, c⟩ fun k x y => eU k (by omega) (by omega), missF_eq (N := P) ⟨a, c⟩ fun k x y => eL k (by omega) (by omega) (by omega) (by omega)]
    have h1 := hC q a c
    by_cases hq : q = g
    · rw [hq, hasF_up ⟨hl.1, by omega⟩ ⟨hg.1, by omega⟩, if_pos rfl]
      rw [hq] at h1
      omega
    · rw [hasF_up2 ⟨hl.1, by omega⟩ ⟨hg.1, by omega⟩ ⟨a, c⟩ hq, if_neg (fun x => hq x.symm)]
      omega
  · intro q a c
    have h1 := hG q a c
    have hr : sumZ (fun k => if M (152 + k) = q then M (212 + k) else 0) (M 6).toNat = sumZ (fun k => if P (152 + k) = q then P (212 + k) else 0) (P 6).toNat + (if g = q then u else 0) := by
      rw [e6, sumZ_step (by omega), e1, e2, ← hb.1]
      congr 1
      refine sumZ_congr _ fun k x y => ?_
      obtain ⟨a1, a2, a3, a4, a5⟩ := eB k x (by omega)
      rw [a1, a2]
    rw [hr]
    by_cases hq : q = g
    · rw [hq, e8, if_pos rfl]
      rw [hq] at h1
      omega
    · rw [if_neg (fun x => hq x.symm), e (112 + q) (by omega) (by omega) (by omega) (by omega) (by omega) (by omega) (by omega) (by omega) (by omega)]
      omega
/-- the missing units of a good and a locker are taxed -/
theorem y_relz {N : Int → Int} {l g : Int} (h : InY N) (hl : 0 ≤ l ∧ l < 5) (hg : 0 ≤ g ∧ g < 8) : InY (uZ (relF (N (64 + 8 * l + g)).toNat N g (N (64 + 8 * l + g)) 3).1 (64 + 8 * l + g) 0) ∧ ∀ k : Int, k < 10 ∨ (14 ≤ k ∧ k < 64) ∨ (104 ≤ k ∧ k < 120) ∨ (152 ≤ k ∧ k < 272) ∨ 332 ≤ k → uZ (relF (N (64 + 8 * l + g)).toNat N g (N (64 + 8 * l + g)) 3).1 (64 + 8 * l + g) 0 k = N k := by
  have hm := (h.2.2.1 l g hl.1 hl.2 hg.1 hg.2).2.1
  have hms : N (64 + 8 * l + g) ≤ missF N g := sumZ_ge (f := fun l => N (64 + 8 * l + g)) 5 (fun k a b => (h.2.2.1 k g a (by omega) hg.1 hg.2).2.1.1) hl.1 (by omega)
  have hc := inY_c h hg
  obtain ⟨r1, r2, r3, r4⟩ := relF_all (N (64 + 8 * l + g)).toNat (N := N) (g := g) (u := N (64 + 8 * l + g)) (r := 3) (inY_R h) hg (by omega) hm.1 (by omega) (by omega)
  obtain ⟨b0, b1, b2, b3, b4, b5, b6, b7, b8, b9⟩ := inY_b h
  have eR : ∀ k : Int, k < 10 ∨ (14 ≤ k ∧ k < 120) ∨ (152 ≤ k ∧ k < 272) ∨ 332 ≤ k → (relF (N (64 + 8 * l + g)).toNat N g (N (64 + 8 * l + g)) 3).1 k = N k := r2
  generalize (relF (N (64 + 8 * l + g)).toNat N g (N (64 + 8 * l + g)) 3).1 = R at r1 r2 r3 r4 eR ⊢
  have e : ∀ k : Int, k < 10 ∨ (14 ≤ k ∧ k < 64) ∨ (104 ≤ k ∧ k < 120) ∨ (152 ≤ k ∧ k < 272) ∨ 332 ≤ k → uZ R (64 + 8 * l + g) 0 k = N k := fun k hk => by rw [uZ_ne (by omega), eR k (by omega)]
  refine ⟨?_, e⟩
  obtain ⟨h0, hL, hH, hB, hD, hC, hG⟩ := h
  refine ⟨i0_eq h0 fun k a b => e k (by omega), iL_eq hL (by rw [e 7 (by omega)]; exact Int.le_refl _) fun k a b => e k (by omega), ?_, iB_eq (N := R) (by rw [eR 6 (by omega)]; exact b6.2) r1.2 (uZ_ne (by omega)) (by rw [uZ_ne (by omega)]; exact Int.le_refl _) fun k a b => uZ_ne (by omega), iD_eq b5.2 hD (e 5 (by omega)) fun k a b => e k (by omega), fun q a b => ?_, iG_eq hG (e 6 (by omega)) (fun k a b => e k (by omega)) fun b c d => ⟨e _ (by omega), e _ (by omega)⟩⟩
  · refine iH_upM (iH_eq (M := R) hH (by rw [eR 4 (by omega)]; exact Int.le_refl _) fun k a b => eR k (by omega)) hl hg (by omega) fun _ => rfl
  · rw [rest_has q (by omega) (by rw [eR 6 (by omega)]; exact b6.2), hasF_eq (N := N) ⟨a, b⟩ fun k c d => e k (by omega)]
    have h1 := hC q a b
    by_cases hq : q = g
    · rw [hq, missF_up hl hg, missF_eq (N := N) hg fun k c d => eR k (by omega), eR (64 + 8 * l + g) (by omega), r3]
      rw [hq] at h1
      omega
    · rw [missF_up2 hl hg ⟨a, b⟩ hq, missF_eq (N := N) ⟨a, b⟩ fun k c d => eR k (by omega), r4 q hq]
      exact h1
theorem y_ins : ∀ (n : Nat) {N : Int → Int} {l : Int}, n ≤ 8 → InY N → 0 ≤ l ∧ l < 5 → InY (insF n N l) ∧ ∀ k : Int, k < 10 ∨ (14 ≤ k ∧ k < 64) ∨ (104 ≤ k ∧ k < 120) ∨ (152 ≤ k ∧ k < 272) ∨ 332 ≤ k → insF n N l k = N k
  | 0, N, l, _, h, _ => ⟨h, fun k _ => rfl⟩
  | n + 1, N, l, hn, h, hl => by
    obtain ⟨i1, i2⟩ := y_ins n (by omega) h hl
    obtain ⟨j1, j2⟩ := y_relz (l := l) (g := (n : Int)) i1 hl (by omega)
    exact ⟨j1, fun k hk => (j2 k hk).trans (i2 k hk)⟩
/-- the ten places where units of a good are looked for: their sum -/
def sumA (N : Int → Int) (g : Int) (n : Nat) : Int := sumZ (fun k => N (atF k g)) n
theorem sumA_10 (N : Int → Int) (g : Int) : sumA N g 10 = missF N g + hasF N g := by
  have e0 : atF 0 g = 64 + 8 * 0 + g := if_pos (by omega)
  have e1 : atF 1 g = 64 + 8 * 1 + g := if_pos (by omega)
  have e2 : atF 2 g = 64 + 8 * 2 + g := if_pos (by omega)
  have e3 : atF 3 g = 64 + 8 * 3 + g := if_pos (by omega)
  have e4 : atF 4 g = 64 + 8 * 4 + g := if_pos (by omega)
  have e5 : atF 5 g = 24 + 8 * 0 + g := if_neg (by omega)
  have e6 : atF 6 g = 24 + 8 * 1 + g := if_neg (by omega)
  have e7 : atF 7 g = 24 + 8 * 2 + g := if_neg (by omega)
  have e8 : atF 8 g = 24 + 8 * 3 + g := if_neg (by omega)
  have e9 : atF 9 g = 24 + 8 * 4 + g := if_neg (by omega)
  show 0 + N (atF 0 g) + N (atF 1 g) + N (atF 2 g) + N (atF 3 g) + N (atF 4 g) + N (atF 5 g) + N (atF 6 g) + N (atF 7 g) + N (atF 8 g) + N (atF 9 g) = (0 + N (64 + 8 * 0 + g) + N (64 + 8 * 1 + g) + N (64 + 8 * 2 + g) + N (64 + 8 * 3 + g) + N (64 + 8 * 4 + g)) + (0 + N (24 + 8 * 0 + g) + N (24 + 8 * 1 + g) + N (24 + 8 * 2 + g) + N (24 + 8 * 3 + g) + N (24 + 8 * 4 + g))
  rw [e0, e1, e2, e3, e4, e5, e6, e7, e8, e9]
  omega
theorem atF_ne {j k g : Int} (hj : 0 ≤ j ∧ j < 10) (hk : 0 ≤ k ∧ k < 10) (hn : j ≠ k) (hg : 0 ≤ g ∧ g < 8) : atF j g ≠ atF k g := by
  unfold atF
  split <;> split <;> omega
theorem atF_has {k g l q : Int} (hk : 0 ≤ k ∧ k < 10) (hg : 0 ≤ g ∧ g < 8) (hl : 0 ≤ l ∧ l < 5) (hq : 0 ≤ q ∧ q < 8) (hn : q ≠ g) : atF k g ≠ 24 + 8 * l + q ∧ atF k g ≠ 64 + 8 * l + q := by
  unfold atF
  split <;> omega
/-- units are lost: the cells fall, none below 0, and what is wanting behind has emptied them -/
theorem losF_all : ∀ (n : Nat) {N : Int → Int} {g u : Int}, n ≤ 10 → 0 ≤ g ∧ g < 8 → 0 ≤ u → (∀ k : Int, 24 ≤ k → k < 104 → 0 ≤ N k) → (∀ k : Int, 24 ≤ k → k < 104 → 0 ≤ (losF n N g u).1 k ∧ (losF n N g u).1 k ≤ N k) ∧ 0 ≤ (losF n N g u).2 ∧ sumA (losF n N g u).1 g n = sumA N g n - (u - (losF n N g u).2) ∧ ((losF n N g u).2 = 0 ∨ sumA (losF n N g u).1 g n = 0) ∧ (∀ k : Int, (∀ j : Int, 0 ≤ j → j < (n : Int) → k ≠ atF j g) → (losF n N g u).1 k = N k)
  | 0, N, g, u, _, _, hu, h => ⟨fun k a b => ⟨h k a b, Int.le_refl _⟩, hu, by show (0 : Int) = 0 - (u - u); omega, Or.inr rfl, fun k _ => rfl⟩
  | n + 1, N, g, u, hn, hg, hu, h => by
    obtain ⟨h1, h2, h3, h4, h5⟩ := losF_all n (by omega) hg hu h
    have ha := atF_in (k := (n : Int)) (by omega) hg
    have hc := h1 (atF (n : Int) g) ha.1 ha.2
    have hsame : (losF n N g u).1 (atF (n : Int) g) = N (atF (n : Int) g) := h5 _ fun j a b => atF_ne (by omega) (by omega) (by omega) hg
    have hm : 0 ≤ minF (losF n N g u).2 ((losF n N g u).1 (atF (n : Int) g)) ∧ minF (losF n N g u).2 ((losF n N g u).1 (atF (n : Int) g)) ≤ (losF n N g u).2 ∧ minF (losF n N g u).2 ((losF n N g u).1 (atF (n : Int) g)) ≤ (losF n N g u).1 (atF (n : Int) g) ∧ (minF (losF n N g u).2 ((losF n N g u).1 (atF (n : Int) g)) = (losF n N g u).2 ∨ minF (losF n N g u).2 ((losF n N g u).1 (atF (n : Int) g)) = (losF n N g u).1 (atF (n : Int) g)) := by
      unfold minF
      split <;> omega
    have eS : (losF (n + 1) N g u) = (uZ (losF n N g u).1 (atF (n : Int) g) ((losF n N g u).1 (atF (n : Int) g) - minF (losF n N g u).2 ((losF n N g u).1 (atF (n : Int) g))), (losF n N g u).2 - minF (losF n N g u).2 ((losF n N g u).1 (atF (n : Int) g))) := rfl
    rw [eS]
    generalize minF (losF n N g u).2 ((losF n N g u).1 (atF (n : Int) g)) = mm at hm ⊢
    generalize losF n N g u = L at h1 h2 h3 h4 h5 hc hsame hm ⊢
    dsimp only
    have hs1 : sumA (uZ L.1 (atF (n : Int) g) (L.1 (atF (n : Int) g) - mm)) g n = sumA L.1 g n := sumZ_congr n fun k a b => uZ_ne (atF_ne (by omega) (by omega) (by omega) hg)
    have hs2 : sumA (uZ L.1 (atF (n : Int) g) (L.1 (atF (n : Int) g) - mm)) g (n + 1) = sumA L.1 g n + (L.1 (atF (n : Int) g) - mm) := by
      show sumA (uZ L.1 (atF (n : Int) g) (L.1 (atF (n : Int) g) - mm)) g n + uZ L.1 (atF (n : Int) g) (L.1 (atF (n : Int) g) - mm) (atF (n : Int) g) = _
      rw [hs1, uZ_eq]
    have hs3 : sumA N g (n + 1) = sumA N g n + N (atF (n : Int) g) := rfl
    have hs4 : 0 ≤ sumA L.1 g n := sumZ_nonneg n fun k a b => (h1 _ (atF_in (by omega) hg).1 (atF_in (by omega) hg).2).1
    refine ⟨fun k a b => ?_, by omega, by rw [hs2, hs3]; omega, ?_, fun k hk => ?_⟩
    · by_cases e : k = atF (n : Int) g
      · rw [e, uZ_eq]
        omega
      · rw [uZ_ne e]
        exact h1 k a b
    · rw [hs2]
      rcases h4 with h4 | h4 <;> omega
    · rw [uZ_ne (hk (n : Int) (by omega) (by omega))]
      exact h5 k fun j a b => hk j a (by omega)
theorem restF_ge {N : Int → Int} {b : Int} (h : InR N) (hb : 0 ≤ b ∧ b < N 6) : N (272 + b) ≤ restF N (N (152 + b)) := by
  have h1 := sumZ_ge (f := fun k => if N (152 + k) = N (152 + b) then N (272 + k) else 0) (i := b) (N 6).toNat (fun k a c => by have := h.2 k a (by omega); split <;> omega) hb.1 (by omega)
  rw [if_pos rfl] at h1
  exact h1
/-- a bond runs out: its units are taxed, and lost -/
theorem y_run {N : Int → Int} {b : Int} (h : InY N) (hb : 0 ≤ b ∧ b < N 6) : InY (losF 10 (takeF N b (N (272 + b)) 3) (N (152 + b)) (N (272 + b))).1 ∧ ∀ k : Int, k < 10 ∨ (14 ≤ k ∧ k < 24) ∨ (104 ≤ k ∧ k < 120) ∨ (152 ≤ k ∧ k < 272) ∨ 332 ≤ k → (losF 10 (takeF N b (N (272 + b)) 3) (N (152 + b)) (N (272 + b))).1 k = N k := by
  have hf := h.2.2.2.1 b hb.1 hb.2
  obtain ⟨b0, b1, b2, b3, b4, b5, b6, b7, b8, b9⟩ := inY_b h
  have hR := inY_R h
  have hg : 0 ≤ N (152 + b) ∧ N (152 + b) < 8 := by omega
  have tR := takeF_R (u := N (272 + b)) (r := 3) hR hb (by omega) (by omega)
  have tr := takeF_rest (u := N (272 + b)) (r := 3) hR hb (by omega)
  have tr2 : ∀ q : Int, q ≠ N (152 + b) → restF (takeF N b (N (272 + b)) 3) q = restF N q := fun q hq => takeF_rest2 hR hb (by omega) hq
  have eT : ∀ k : Int, k < 10 ∨ (14 ≤ k ∧ k < 120) ∨ (152 ≤ k ∧ k < 272) ∨ 332 ≤ k → takeF N b (N (272 + b)) 3 k = N k := fun k hk => takeF_ne (by omega) (by omega) (by omega)
  have lR := losF_R (u := N (272 + b)) tR hg
  have hp : ∀ k : Int, 24 ≤ k → k < 104 → 0 ≤ N k := fun k a c => by
    by_cases hk : k < 64
    · have h1 := (h.2.2.1 ((k - 24) / 8) ((k - 24) % 8) (by omega) (by omega) (by omega) (by omega)).1.1
      rw [show 24 + 8 * ((k - 24) / 8) + (k - 24) % 8 = k by omega] at h1
      exact h1
    · have h1 := (h.2.2.1 ((k - 64) / 8) ((k - 64) % 8) (by omega) (by omega) (by omega) (by omega)).2.1.1
      rw [show 64 + 8 * ((k - 64) / 8) + (k - 64) % 8 = k by omega] at h1
      exact h1
  obtain ⟨l1, l2, l3, l4, l5⟩ := losF_all 10 (N := takeF N b (N (272 + b)) 3) (g := N (152 + b)) (u := N (272 + b)) (by omega) hg (by omega) fun k a c => by rw [eT k (by omega)]; exact hp k a c
  have eL : ∀ k : Int, k < 24 ∨ 104 ≤ k → (losF 10 (takeF N b (N (272 + b)) 3) (N (152 + b)) (N (272 + b))).1 k = takeF N b (N (272 + b)) 3 k := fun k hk => losF_ne 10 (by omega) hg hk
  rw [sumA_10, sumA_10] at l3
  rw [sumA_10] at l4
  rw [hasF_eq (N := N) (M := takeF N b (N (272 + b)) 3) hg fun k a c => eT k (by omega), missF_eq (N := N) (M := takeF N b (N (272 + b)) 3) hg fun k a c => eT k (by omega)] at l3
  generalize losF 10 (takeF N b (N (272 + b)) 3) (N (152 + b)) (N (272 + b)) = L at lR l1 l2 l3 l4 l5 eL ⊢
  generalize takeF N b (N (272 + b)) 3 = T at tR tr tr2 eT lR l1 l5 eL
  have e : ∀ k : Int, k < 10 ∨ (14 ≤ k ∧ k < 24) ∨ (104 ≤ k ∧ k < 120) ∨ (152 ≤ k ∧ k < 272) ∨ 332 ≤ k → L.1 k = N k := fun k hk => by rw [eL k (by omega), eT k (by omega)]
  refine ⟨?_, e⟩
  obtain ⟨h0, hL, hH, hB, hD, hC, hG⟩ := h
  refine ⟨lR.1, iL_eq hL (by rw [e 7 (by omega)]; exact Int.le_refl _) fun k a b => e k (by omega), fun l g a b c d => ?_, lR.2, iD_eq b5.2 hD (e 5 (by omega)) fun k a b => e k (by omega), fun q a c => ?_, iG_eq hG (e 6 (by omega)) (fun k a b => e k (by omega)) fun b c d => ⟨e _ (by omega), e _ (by omega)⟩⟩
  · obtain ⟨h1, h2, h3⟩ := hH l g a b c d
    have x1 := l1 (24 + 8 * l + g) (by omega) (by omega)
    have x2 := l1 (64 + 8 * l + g) (by omega) (by omega)
    rw [eT _ (by omega)] at x1 x2
    rw [e 4 (by omega)]
    exact ⟨by omega, by omega, fun z => by have := h3 z; omega⟩
  · have hr : restF L.1 q = restF T q := restF_eq (eL 6 (by omega)) fun k x y => ⟨eL _ (by omega), eL _ (by omega)⟩
    have h1 := hC q a c
    rw [hr]
    by_cases hq : q = N (152 + b)
    · rw [hq] at h1 ⊢
      rw [tr]
      have h2 := restF_ge hR hb
      rcases l4 with l4 | l4 <;> omega
    · rw [tr2 q hq]
      have e1 : hasF L.1 q = hasF N q := sumZ_congr (f := fun k => L.1 (24 + 8 * k + q)) (g := fun k => N (24 + 8 * k + q)) 5 fun k x y => by
        show L.1 (24 + 8 * k + q) = N (24 + 8 * k + q)
        rw [l5 (24 + 8 * k + q) fun j z w => (atF_has (k := j) (l := k) (by omega) hg (by omega) ⟨a, c⟩ hq).1.symm, eT _ (by omega)]
      have e2 : missF L.1 q = missF N q := sumZ_congr (f := fun k => L.1 (64 + 8 * k + q)) (g := fun k => N (64 + 8 * k + q)) 5 fun k x y => by
        show L.1 (64 + 8 * k + q) = N (64 + 8 * k + q)
        rw [l5 (64 + 8 * k + q) fun j z w => (atF_has (k := j) (l := k) (by omega) hg (by omega) ⟨a, c⟩ hq).2.symm, eT _ (by omega)]
      rw [e1, e2]
      exact h1
theorem y_ro : ∀ (n : Nat) {N : Int → Int}, InY N → InY (roF n N).1 ∧ ∀ k : Int, k < 10 ∨ (14 ≤ k ∧ k < 24) ∨ (104 ≤ k ∧ k < 120) ∨ (152 ≤ k ∧ k < 272) ∨ 332 ≤ k → (roF n N).1 k = N k
  | 0, N, h => ⟨h, fun k _ => rfl⟩
  | n + 1, N, h => by
    by_cases hc : nxt N (-1) (-1) < 0 ∨ N 1 ≤ N (392 + nxt N (-1) (-1))
    · rw [roF_0 hc]
      exact ⟨h, fun k _ => rfl⟩
    · rw [roF_s hc]
      have h2 := nxt_or N (-1) (-1)
      obtain ⟨j1, j2⟩ := y_run h (b := nxt N (-1) (-1)) (by omega)
      obtain ⟨i1, i2⟩ := y_ro n j1
      exact ⟨i1, fun k hk => (i2 k hk).trans (j2 k hk)⟩
theorem y_day : ∀ (d : Nat) {N : Int → Int}, InY N → N 1 + (d : Int) ≤ 5000 → InY (dayF d N).1 ∧ (dayF d N).1 1 = N 1 + (d : Int) ∧ ∀ k : Int, k ≠ 1 → k < 10 ∨ (14 ≤ k ∧ k < 24) ∨ (104 ≤ k ∧ k < 120) ∨ (152 ≤ k ∧ k < 272) ∨ 332 ≤ k → (dayF d N).1 k = N k
  | 0, N, h, _ => ⟨h, by show N 1 = N 1 + ((0 : Nat) : Int); omega, fun k _ _ => rfl⟩
  | d + 1, N, h, hd => by
    obtain ⟨i1, i2, i3⟩ := y_day d h (by omega)
    have b1 := (inY_b h).2.1
    obtain ⟨j1, j2⟩ := y_ro 61 (N := uZ (dayF d N).1 1 ((dayF d N).1 1 + 1)) (y_one i1 (by omega) (by omega) (by omega) (by omega) (by omega) (by omega) (by omega))
    refine ⟨j1, ?_, fun k hk1 hk => ?_⟩
    · show (roF 61 (uZ (dayF d N).1 1 ((dayF d N).1 1 + 1))).1 1 = _
      rw [j2 1 (by omega), uZ_eq, i2]
      omega
    · show (roF 61 (uZ (dayF d N).1 1 ((dayF d N).1 1 + 1))).1 k = _
      rw [j2 k hk, uZ_ne hk1, i3 k hk1 hk]
theorem y_cr0 : ∀ (n : Nat) {N : Int → Int} {w : Int}, n ≤ 5 → InY N → InY (crF n N 0 w) ∧ (∀ k : Int, 0 ≤ k → k < 452 → k < 14 ∨ 19 ≤ k → crF n N 0 w k = N k) ∧ ∀ l : Int, 0 ≤ l → l < (n : Int) → crF n N 0 w (14 + l) = 0
  | 0, N, w, _, h => ⟨h, fun k _ _ _ => rfl, fun l a b => by omega⟩
  | n + 1, N, w, hn, h => by
    obtain ⟨i1, i2, i3⟩ := y_cr0 n (w := w) (by omega) h
    have e : crF (n + 1) N 0 w = uZ (offF (crF n N 0 w) (n : Int) 1) (14 + (n : Int)) 0 := if_pos rfl
    have hL := (i1.2.1 (n : Int) (by omega) (by omega)).2.1.1
    rw [e]
    refine ⟨y_state (y_off i1 (by omega)) (by omega) (Or.inl rfl), fun k a b c => ?_, fun l a b => ?_⟩
    · rw [uZ_ne (by omega), offF_ne (by omega), i2 k a b c]
    · by_cases hl : l = (n : Int)
      · rw [hl, uZ_eq]
      · rw [uZ_ne (by omega), offF_ne (by omega), i3 l a (by omega)]
theorem y_cr1 : ∀ (n : Nat) {N : Int → Int} {z : Int}, n ≤ 5 → z ≠ 0 → InY N → N 7 + (n : Int) ≤ 200 → InY (crF n N z 0) ∧ (∀ k : Int, 0 ≤ k → k < 452 → k ≠ 7 → k < 14 ∨ 24 ≤ k → crF n N z 0 k = N k) ∧ crF n N z 0 7 = N 7 + (n : Int)
  | 0, N, z, _, _, h, _ => ⟨h, fun k _ _ _ _ => rfl, by show N 7 = N 7 + ((0 : Nat) : Int); omega⟩
  | n + 1, N, z, hn, hz, h, h7 => by
    obtain ⟨i1, i2, i3⟩ := y_cr1 n (by omega) hz h (by omega)
    have e : crF (n + 1) N z 0 = sealsF (crF n N z 0) (n : Int) := (if_neg hz).trans (if_pos rfl)
    have b7 := (inY_b h).2.2.2.2.2.2.2.1
    rw [e]
    refine ⟨y_seal i1 (by omega) (by omega), fun k a b c d => ?_, ?_⟩
    · rw [sealsF_lo (by omega) (by omega) ⟨a, b⟩ c d, i2 k a b c d]
    · rw [sealsF_7 (by omega) (by omega), i3]
      omega
theorem cr_2 : ∀ (n : Nat) {N : Int → Int} {z w : Int}, z ≠ 0 → w ≠ 0 → crF n N z w = N
  | 0, N, z, w, _, _ => rfl
  | n + 1, N, z, w, hz, hw => ((if_neg hz).trans (if_neg hw)).trans (cr_2 n hz hw)
