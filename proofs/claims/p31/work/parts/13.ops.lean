def mvP (N : Int → Int) (l g u : Int) : Prop := (0 ≤ l ∧ l < N 4) ∧ (0 ≤ g ∧ g < N 5) ∧ (1 ≤ u ∧ u ≤ 9999)
def sLocker (N : Int → Int) : Int × (Int → Int) := if N 0 ≠ 2 then (-2, N) else if N 4 = 5 ∨ ¬ N 7 + 1 ≤ 200 then (-3, N) else (N 4, uZ (sealsF N (N 4)) 4 (N 4 + 1))
def sGood (N : Int → Int) (d : Int) : Int × (Int → Int) := if ¬ (1 ≤ d ∧ d ≤ 1000000) then (-1, N) else if N 5 = 8 then (-3, N) else (N 5, uZ (uZ N (104 + N 5) d) 5 (N 5 + 1))
def sDuty (N : Int → Int) (g d : Int) : Int × (Int → Int) := if ¬ ((0 ≤ g ∧ g < N 5) ∧ (1 ≤ d ∧ d ≤ 1000000)) then (-1, N) else (N (104 + g), uZ N (104 + g) d)
/-- units u of the good g come into the locker l under the next bond: the bond -/
def bondF (N : Int → Int) (l g u : Int) : Int → Int := uZ (uZ (uZ (uZ (uZ (uZ (uZ (uZ (uZ (offF N l 2) (152 + N 6) g) (212 + N 6) u) (272 + N 6) u) (332 + N 6) (N (104 + g))) (392 + N 6) (N 1 + N 3)) 6 (N 6 + 1)) 9 (N 9 + u * N (104 + g))) (112 + g) (N (112 + g) + u)) (24 + 8 * l + g) (N (24 + 8 * l + g) + u)
noncomputable def sLoad (N : Int → Int) (l g u : Int) : Int × (Int → Int) := if ¬ ((0 ≤ l ∧ l < N 4) ∧ (0 ≤ g ∧ g < N 5) ∧ (1 ≤ u ∧ u ≤ 9999)) then (-1, N) else if N 0 ≠ 2 ∨ N (14 + l) = 2 then (-2, N) else if N 6 = 60 ∨ ¬ N 7 + 1 ≤ 200 ∨ 99999 < N (24 + 8 * l + g) + u ∨ 2147483647 < N 9 + u * N (104 + g) then (-3, N) else (N 6, sealsF (bondF N l g u) l)
/-- the answer and the state of a release -/
noncomputable def relP (N : Int → Int) (g u r : Int) : Int × (Int → Int) := ((relF u.toNat N g u r).2, (relF u.toNat N g u r).1)
noncomputable def sUse (N : Int → Int) (l g u : Int) : Int × (Int → Int) := if ¬ ((0 ≤ l ∧ l < N 4) ∧ (0 ≤ g ∧ g < N 5) ∧ (1 ≤ u ∧ u ≤ 9999)) then (-1, N) else if N 0 ≠ 0 ∨ N (24 + 8 * l + g) < u then (-2, N) else relP (uZ N (24 + 8 * l + g) (N (24 + 8 * l + g) - u)) g u 0
noncomputable def sBring (N : Int → Int) (l g u : Int) : Int × (Int → Int) := if ¬ ((0 ≤ l ∧ l < N 4) ∧ (0 ≤ g ∧ g < N 5) ∧ (1 ≤ u ∧ u ≤ 9999)) then (-1, N) else if N 0 ≠ 2 ∨ N (14 + l) = 2 ∨ N (24 + 8 * l + g) < u then (-2, N) else if ¬ N 7 + 1 ≤ 200 then (-3, N) else relP (sealsF (uZ (offF N l 2) (24 + 8 * l + g) (N (24 + 8 * l + g) - u)) l) g u 1
noncomputable def sSmash (N : Int → Int) (l g u w : Int) : Int × (Int → Int) := if ¬ (((0 ≤ l ∧ l < N 4) ∧ (0 ≤ g ∧ g < N 5) ∧ (1 ≤ u ∧ u ≤ 9999)) ∧ (0 ≤ w ∧ w ≤ 9)) then (-1, N) else if N 0 ≠ 0 ∨ N (24 + 8 * l + g) < u then (-2, N) else if 0 < w then relP (uZ N (24 + 8 * l + g) (N (24 + 8 * l + g) - u)) g u 2 else (0, uZ (uZ N (24 + 8 * l + g) (N (24 + 8 * l + g) - u)) (64 + 8 * l + g) (N (64 + 8 * l + g) + u))
def sTear (N : Int → Int) (l : Int) : Int × (Int → Int) := if ¬ (0 ≤ l ∧ l < N 4) then (-1, N) else if N (14 + l) ≠ 1 then (-2, N) else (N (19 + l), uZ (uZ N (14 + l) 2) (854 + N (19 + l)) 3)
def sSet (N : Int → Int) (w v : Int) : Int × (Int → Int) := if ¬ ((0 ≤ w ∧ w ≤ 1) ∧ (w ≤ v ∧ v ≤ if w = 0 then 100000 else 99)) then (-1, N) else (N (2 + w), uZ N (2 + w) v)
theorem inR_has {N : Int → Int} {i v : Int} (h : InR N) (hi : 10 ≤ i ∧ i < 152) : InR (uZ N i v) := by
  obtain ⟨h0, hB⟩ := h
  have e : ∀ k : Int, k < 10 ∨ 152 ≤ k → uZ N i v k = N k := fun k hk => uZ_ne (by omega)
  refine ⟨?_, fun k h1 h2 => ?_⟩
  · unfold In0
    rw [e 0 (by omega), e 1 (by omega), e 2 (by omega), e 3 (by omega), e 4 (by omega), e 5 (by omega), e 6 (by omega), e 7 (by omega), e 8 (by omega), e 9 (by omega)]
    exact h0
  · rw [e 6 (by omega)] at h2
    rw [e (152 + k) (by omega), e (212 + k) (by omega), e (272 + k) (by omega), e (332 + k) (by omega), e (392 + k) (by omega), e 5 (by omega)]
    exact hB k h1 h2
/-- two states with the same bonds have the same units left -/
theorem restF_eq {N M : Int → Int} {g : Int} (h6 : M 6 = N 6) (h : ∀ b : Int, 0 ≤ b → b < N 6 → M (152 + b) = N (152 + b) ∧ M (272 + b) = N (272 + b)) : restF M g = restF N g := by
  unfold restF
  rw [h6]
  refine sumZ_congr _ fun k h1 h2 => ?_
  rw [(h k h1 (by omega)).1, (h k h1 (by omega)).2]
theorem inR_eq {N M : Int → Int} (h : InR N) (h0 : In0 M) (h6 : M 6 = N 6) (h5 : M 5 = N 5) (hb : ∀ k : Int, 152 ≤ k → k < 452 → M k = N k) : InR M := by
  obtain ⟨g0, hB⟩ := h
  have g00 := g0
  obtain ⟨b0, b1, b2, b3, b4, b5, b6, b7, b8, b9⟩ := g00
  refine ⟨h0, fun k h1 h2 => ?_⟩
  rw [h6] at h2
  rw [hb (152 + k) (by omega) (by omega), hb (212 + k) (by omega) (by omega), hb (272 + k) (by omega) (by omega), hb (332 + k) (by omega) (by omega), hb (392 + k) (by omega) (by omega), h5]
  exact hB k h1 h2
/-- what is in one locker is left in bonds -/
theorem has_rest {N : Int → Int} {l g : Int} (hI : Inv N) (hl : 0 ≤ l ∧ l < 5) (hg : 0 ≤ g ∧ g < 8) : N (24 + 8 * l + g) + N (64 + 8 * l + g) ≤ restF N g ∧ missF N g ≤ restF N g ∧ 0 ≤ hasF N g ∧ N (64 + 8 * l + g) ≤ missF N g := by
  obtain ⟨hI0, hIL, hIH, hIB, hID, hIC, hIG, hIZ, hIF⟩ := hI
  have h1 := hIC g hg.1 hg.2
  have h2 : N (24 + 8 * l + g) ≤ hasF N g := sumZ_ge (f := fun l => N (24 + 8 * l + g)) 5 (fun k a b => (hIH k g a (by omega) hg.1 hg.2).1.1) hl.1 (by omega)
  have h3 : N (64 + 8 * l + g) ≤ missF N g := sumZ_ge (f := fun l => N (64 + 8 * l + g)) 5 (fun k a b => (hIH k g a (by omega) hg.1 hg.2).2.1.1) hl.1 (by omega)
  have h4 : 0 ≤ hasF N g := sumZ_nonneg (f := fun l => N (24 + 8 * l + g)) 5 (fun k a b => (hIH k g a (by omega) hg.1 hg.2).1.1)
  exact ⟨by omega, by omega, h4, h3⟩
theorem rest_max {N : Int → Int} (h : InR N) (g : Int) : 0 ≤ restF N g ∧ restF N g ≤ 600000 := by
  obtain ⟨h0, hB⟩ := h
  obtain ⟨b0, b1, b2, b3, b4, b5, b6, b7, b8, b9⟩ := h0
  constructor
  · refine sumZ_nonneg _ fun k h1 h2 => ?_
    have := hB k h1 (by omega)
    split <;> omega
  · have h1 : restF N g ≤ sumZ (fun _ => (9999 : Int)) (N 6).toNat := by
      refine sumZ_le _ fun k h1 h2 => ?_
      have := hB k h1 (by omega)
      split <;> omega
    rw [sumZ_const] at h1
    omega
theorem rest_has {N : Int → Int} {i v : Int} (g : Int) (hi : 10 ≤ i ∧ i < 152) (h6 : N 6 ≤ 60) : restF (uZ N i v) g = restF N g := restF_eq (uZ_ne (by omega)) fun b h1 h2 => ⟨uZ_ne (by omega), uZ_ne (by omega)⟩
theorem in0_of {N M : Int → Int} (h : In0 N) (e : ∀ k : Int, 0 ≤ k → k < 10 → k ≠ 7 → M k = N k) (h7 : N 7 ≤ M 7 ∧ M 7 ≤ 200) : In0 M := by
  have h' := h
  obtain ⟨b0, b1, b2, b3, b4, b5, b6, b7, b8, b9⟩ := h'
  unfold In0
  rw [e 0 (by omega) (by omega) (by omega), e 1 (by omega) (by omega) (by omega), e 2 (by omega) (by omega) (by omega), e 3 (by omega) (by omega) (by omega), e 4 (by omega) (by omega) (by omega), e 5 (by omega) (by omega) (by omega), e 6 (by omega) (by omega) (by omega), e 8 (by omega) (by omega) (by omega), e 9 (by omega) (by omega) (by omega)]
  omega
theorem sealsF_7 {N : Int → Int} {l : Int} (hl : 0 ≤ l ∧ l < 5) (h : 0 ≤ N 7) : sealsF N l 7 = N 7 + 1 := by
  unfold sealsF
  rw [uZ_ne (by omega), uZ_ne (by omega), uZ_ne (by omega), uZ_ne (by omega), uZ_ne (by omega), uZ_eq]
theorem sealsF_R {N : Int → Int} {l : Int} (h : InR N) (hl : 0 ≤ l ∧ l < 5) (h7 : N 7 < 200) : InR (sealsF N l) := by
  have h0 := h.1
  obtain ⟨b0, b1, b2, b3, b4, b5, b6, b7, b8, b9⟩ := h0
  exact inR_eq h (in0_of h.1 (fun k h1 h2 h3 => sealsF_ne (by omega)) (by rw [sealsF_7 hl b7.1]; omega)) (sealsF_ne (by omega)) (sealsF_ne (by omega)) fun k h1 h2 => sealsF_ne (by omega)
theorem sealsF_rest {N : Int → Int} {l : Int} (h : InR N) (hl : 0 ≤ l ∧ l < 5) (g : Int) : restF (sealsF N l) g = restF N g := by
  have h0 := h.1
  obtain ⟨b0, b1, b2, b3, b4, b5, b6, b7, b8, b9⟩ := h0
  exact restF_eq (sealsF_ne (by omega)) fun b h1 h2 => ⟨sealsF_ne (by omega), sealsF_ne (by omega)⟩
theorem offF_R {N : Int → Int} {l w : Int} (h : InR N) (hl : 0 ≤ l ∧ l < 5) (h9 : 0 ≤ N (19 + l) ∧ N (19 + l) ≤ 200) : InR (offF N l w) := inR_eq h (in0_of h.1 (fun k h1 h2 h3 => offF_ne (by omega)) (by
  have h0 := h.1
  obtain ⟨b0, b1, b2, b3, b4, b5, b6, b7, b8, b9⟩ := h0
  rw [offF_ne (by omega)]
  omega)) (offF_ne (by omega)) (offF_ne (by omega)) fun k h1 h2 => offF_ne (by omega)
theorem offF_rest {N : Int → Int} {l w : Int} (h : InR N) (hl : 0 ≤ l ∧ l < 5) (h9 : 0 ≤ N (19 + l) ∧ N (19 + l) ≤ 200) (g : Int) : restF (offF N l w) g = restF N g := by
  have h0 := h.1
  obtain ⟨b0, b1, b2, b3, b4, b5, b6, b7, b8, b9⟩ := h0
  exact restF_eq (offF_ne (by omega)) fun b h1 h2 => ⟨offF_ne (by omega), offF_ne (by omega)⟩
