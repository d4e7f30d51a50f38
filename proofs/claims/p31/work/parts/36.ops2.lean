/-- units of a good that are left behind p -/
def raF (N : Int → Int) (g p : Int) : Int := sumZ (fun k => if 0 < N (272 + k) ∧ (g < 0 ∨ N (152 + k) = g) ∧ (p < 0 ∨ N (392 + p) < N (392 + k) ∨ (N (392 + p) = N (392 + k) ∧ p < k)) then N (272 + k) else 0) (N 6).toNat
theorem raF_no {N : Int → Int} {g p : Int} (h : nxt N g p < 0) : raF N g p = 0 := by
  rcases nxt_is N g p with ⟨-, h2⟩ | ⟨h1, -⟩
  · have h3 : raF N g p = sumZ (fun _ => (0 : Int)) (N 6).toNat := sumZ_congr _ fun k a b => if_neg (h2 k a (by omega))
    rw [h3, sumZ_const]
    omega
  · omega
theorem raF_s {N : Int → Int} {g p : Int} (h : ¬ nxt N g p < 0) : raF N g p = raF N g (nxt N g p) + N (272 + nxt N g p) := by
  rcases nxt_is N g p with ⟨h1, -⟩ | ⟨h1, h2, h3⟩
  · omega
  · unfold raF
    refine sumZ_one (i := nxt N g p) (N 6).toNat h1.1 (by omega) ?_ fun k a b c => ?_
    · unfold okB at h2
      rw [if_pos h2, if_neg (by omega)]
      omega
    · by_cases hk : okB N g p k
      · have h4 := h3 k a (by omega) hk
        unfold okB at hk
        rw [if_pos hk, if_pos (by omega)]
      · have h5 : ¬ (0 < N (272 + k) ∧ (g < 0 ∨ N (152 + k) = g) ∧ (nxt N g p < 0 ∨ N (392 + nxt N g p) < N (392 + k) ∨ (N (392 + nxt N g p) = N (392 + k) ∧ nxt N g p < k))) := by
          unfold okB at hk h2
          omega
        unfold okB at hk
        rw [if_neg hk, if_neg h5]
theorem raF_all {N : Int → Int} {g : Int} (hR : InR N) (hg : 0 ≤ g) : raF N g (-1) = restF N g := by
  refine sumZ_congr _ fun k a b => ?_
  have hf := hR.2 k a (by omega)
  by_cases h : N (152 + k) = g
  · rw [if_pos h]
    split <;> omega
  · rw [if_neg h, if_neg (by omega)]
theorem raF_nn {N : Int → Int} {g p : Int} (hR : InR N) : 0 ≤ raF N g p := sumZ_nonneg _ fun k a b => by
  have hf := hR.2 k a (by omega)
  split <;> omega
theorem worF_left : ∀ (n : Nat) {N : Int → Int} {g p u : Int}, InR N → 0 ≤ u → u ≤ (n : Int) → (u ≤ raF N g p → (worF n N g p u).2 = 0) ∧ (raF N g p < u → 0 < (worF n N g p u).2)
  | 0, N, g, p, u, hR, h0, hn => by
    have := raF_nn (g := g) (p := p) hR
    constructor
    · intro _
      show u = 0
      omega
    · intro _
      omega
  | n + 1, N, g, p, u, hR, h0, hn => by
    by_cases h1 : u ≤ 0
    · rw [worF_0 (Or.inl h1)]
      have := raF_nn (g := g) (p := p) hR
      constructor
      · intro _
        show u = 0
        omega
      · intro _
        omega
    · by_cases h2 : nxt N g p < 0
      · rw [worF_0 (Or.inr h2), raF_no h2]
        constructor
        · intro _
          omega
        · intro _
          show 0 < u
          omega
      · have h3 := nxt_or N g p
        have hp := isNx_pos (nxt_is N g p) (by omega)
        have hby := byF_in h1 hp
        have hb2 : byF N g p u = u ∨ byF N g p u = N (272 + nxt N g p) := by
          unfold byF
          split <;> omega
        have hnn := raF_nn (g := g) (p := nxt N g p) hR
        rw [worF_s h1 h2, raF_s h2]
        obtain ⟨i1, i2⟩ := worF_left n (g := g) (p := nxt N g p) (u := u - byF N g p u) hR (by omega) (by omega)
        dsimp only
        exact ⟨fun h => i1 (by omega), fun h => i2 (by omega)⟩
theorem worA_full {N : Int → Int} {g u : Int} (hR : InR N) (hg : 0 ≤ g) (hu : 0 ≤ u) : (u ≤ restF N g → worA N g u = (worF u.toNat N g (-1) u).1) ∧ (restF N g < u → worA N g u = -1) := by
  obtain ⟨h1, h2⟩ := worF_left u.toNat (g := g) (p := -1) (u := u) hR hu (by omega)
  rw [raF_all hR hg] at h1 h2
  unfold worA
  constructor
  · intro h
    rw [if_neg (by rw [h1 h]; omega)]
  · intro h
    rw [if_pos (h2 h)]
theorem crF_z0 {w : Int} : ∀ (n : Nat) (N : Int → Int), crF n N 0 w = crF n N 0 0
  | 0, _ => rfl
  | n + 1, N => by
    show (if (0 : Int) = 0 then uZ (offF (crF n N 0 w) (n : Int) 1) (14 + (n : Int)) 0 else _) = (if (0 : Int) = 0 then uZ (offF (crF n N 0 0) (n : Int) 1) (14 + (n : Int)) 0 else _)
    rw [if_pos rfl, if_pos rfl, crF_z0 n N]
theorem bring_eq {M : Int → Int} {l a v : Int} (hl : 0 ≤ l ∧ l < 5) (ha : (a < 7 ∧ a ≠ 1) ∨ (24 ≤ a ∧ a < 452)) (h7 : 0 ≤ M 7) : uZ (sealsF M l) a v = sealsF (uZ M a v) l := by
  unfold sealsF
  rw [show uZ M a v 7 = M 7 from uZ_ne (by omega), show uZ M a v 1 = M 1 from uZ_ne (by omega)]
  funext k
  by_cases hk1 : k = a
  · rw [hk1]
    exact (uZ_eq).trans ((uZ_ne (by omega)).trans ((uZ_ne (by omega)).trans ((uZ_ne (by omega)).trans ((uZ_ne (by omega)).trans ((uZ_ne (by omega)).trans ((uZ_ne (by omega)).trans (uZ_eq))))))).symm
  by_cases hk2 : k = 855 + M 7
  · rw [hk2]
    exact ((uZ_ne (by omega)).trans (uZ_eq)).trans (uZ_eq).symm
  by_cases hk3 : k = 654 + M 7
  · rw [hk3]
    exact ((uZ_ne (by omega)).trans ((uZ_ne (by omega)).trans (uZ_eq))).trans ((uZ_ne (by omega)).trans (uZ_eq)).symm
  by_cases hk4 : k = 453 + M 7
  · rw [hk4]
    exact ((uZ_ne (by omega)).trans ((uZ_ne (by omega)).trans ((uZ_ne (by omega)).trans (uZ_eq)))).trans ((uZ_ne (by omega)).trans ((uZ_ne (by omega)).trans (uZ_eq))).symm
  by_cases hk5 : k = 19 + l
  · rw [hk5]
    exact ((uZ_ne (by omega)).trans ((uZ_ne (by omega)).trans ((uZ_ne (by omega)).trans ((uZ_ne (by omega)).trans (uZ_eq))))).trans ((uZ_ne (by omega)).trans ((uZ_ne (by omega)).trans ((uZ_ne (by omega)).trans (uZ_eq)))).symm
  by_cases hk6 : k = 14 + l
  · rw [hk6]
    exact ((uZ_ne (by omega)).trans ((uZ_ne (by omega)).trans ((uZ_ne (by omega)).trans ((uZ_ne (by omega)).trans ((uZ_ne (by omega)).trans (uZ_eq)))))).trans ((uZ_ne (by omega)).trans ((uZ_ne (by omega)).trans ((uZ_ne (by omega)).trans ((uZ_ne (by omega)).trans (uZ_eq))))).symm
  by_cases hk7 : k = 7
  · rw [hk7]
    exact ((uZ_ne (by omega)).trans ((uZ_ne (by omega)).trans ((uZ_ne (by omega)).trans ((uZ_ne (by omega)).trans ((uZ_ne (by omega)).trans ((uZ_ne (by omega)).trans (uZ_eq))))))).trans ((uZ_ne (by omega)).trans ((uZ_ne (by omega)).trans ((uZ_ne (by omega)).trans ((uZ_ne (by omega)).trans ((uZ_ne (by omega)).trans (uZ_eq)))))).symm
  exact ((uZ_ne (by omega)).trans ((uZ_ne (by omega)).trans ((uZ_ne (by omega)).trans ((uZ_ne (by omega)).trans ((uZ_ne (by omega)).trans ((uZ_ne (by omega)).trans (uZ_ne (by omega)))))))).trans ((uZ_ne (by omega)).trans ((uZ_ne (by omega)).trans ((uZ_ne (by omega)).trans ((uZ_ne (by omega)).trans ((uZ_ne (by omega)).trans ((uZ_ne (by omega)).trans (uZ_ne (by omega)))))))).symm
theorem load_eq {N D : Int → Int} {l g u : Int} (hl : 0 ≤ l ∧ l < 5) (hg : 0 ≤ g ∧ g < 8) (h6 : 0 ≤ N 6 ∧ N 6 < 60) (h7 : 0 ≤ N 7 ∧ N 7 < 200) (hD : D = offF N l 2) (h9 : 0 ≤ N (19 + l) ∧ N (19 + l) ≤ 200) : ∀ k : Int, (k < 112 ∨ 120 ≤ k) → addF (uZ (sealsF D l) (24 + 8 * l + g) (N (24 + 8 * l + g) + u)) g u (N (104 + g)) (N 1 + N 3) k = sealsF (bondF N l g u) l k := by
  have e : ∀ k : Int, k ≠ 14 + l → k ≠ 854 + N (19 + l) → D k = N k := fun k a b => by rw [hD, offF_ne ⟨a, b⟩]
  have d7 := e 7 (by omega) (by omega)
  have d1 := e 1 (by omega) (by omega)
  have d6 := e 6 (by omega) (by omega)
  have d9 := e 9 (by omega) (by omega)
  have s6 : uZ (sealsF D l) (24 + 8 * l + g) (N (24 + 8 * l + g) + u) 6 = N 6 := by rw [uZ_ne (by omega), sealsF_ne (by omega), d6]
  have s9 : uZ (sealsF D l) (24 + 8 * l + g) (N (24 + 8 * l + g) + u) 9 = N 9 := by rw [uZ_ne (by omega), sealsF_ne (by omega), d9]
  have t7 : bondF N l g u 7 = N 7 := by
    unfold bondF
    rw [← hD, uZ_ne (by omega), uZ_ne (by omega), uZ_ne (by omega), uZ_ne (by omega), uZ_ne (by omega), uZ_ne (by omega), uZ_ne (by omega), uZ_ne (by omega), uZ_ne (by omega), d7]
  have t1 : bondF N l g u 1 = N 1 := by
    unfold bondF
    rw [← hD, uZ_ne (by omega), uZ_ne (by omega), uZ_ne (by omega), uZ_ne (by omega), uZ_ne (by omega), uZ_ne (by omega), uZ_ne (by omega), uZ_ne (by omega), uZ_ne (by omega), d1]
  intro k hk0
  unfold addF
  rw [s6, s9]
  unfold sealsF
  rw [d7, d1, t7, t1]
  unfold bondF
  rw [← hD]
  by_cases hk1 : k = 9
  · rw [hk1]
    exact (uZ_eq).trans ((uZ_ne (by omega)).trans ((uZ_ne (by omega)).trans ((uZ_ne (by omega)).trans ((uZ_ne (by omega)).trans ((uZ_ne (by omega)).trans ((uZ_ne (by omega)).trans ((uZ_ne (by omega)).trans ((uZ_ne (by omega)).trans (uZ_eq))))))))).symm
  by_cases hk2 : k = 392 + N 6
  · rw [hk2]
    exact ((uZ_ne (by omega)).trans (uZ_eq)).trans ((uZ_ne (by omega)).trans ((uZ_ne (by omega)).trans ((uZ_ne (by omega)).trans ((uZ_ne (by omega)).trans ((uZ_ne (by omega)).trans ((uZ_ne (by omega)).trans ((uZ_ne (by omega)).trans ((uZ_ne (by omega)).trans ((uZ_ne (by omega)).trans ((uZ_ne (by omega)).trans (uZ_eq))))))))))).symm
  by_cases hk3 : k = 332 + N 6
  · rw [hk3]
    exact ((uZ_ne (by omega)).trans ((uZ_ne (by omega)).trans (uZ_eq))).trans ((uZ_ne (by omega)).trans ((uZ_ne (by omega)).trans ((uZ_ne (by omega)).trans ((uZ_ne (by omega)).trans ((uZ_ne (by omega)).trans ((uZ_ne (by omega)).trans ((uZ_ne (by omega)).trans ((uZ_ne (by omega)).trans ((uZ_ne (by omega)).trans ((uZ_ne (by omega)).trans ((uZ_ne (by omega)).trans (uZ_eq)))))))))))).symm
  by_cases hk4 : k = 272 + N 6
  · rw [hk4]
    exact ((uZ_ne (by omega)).trans ((uZ_ne (by omega)).trans ((uZ_ne (by omega)).trans (uZ_eq)))).trans ((uZ_ne (by omega)).trans ((uZ_ne (by omega)).trans ((uZ_ne (by omega)).trans ((uZ_ne (by omega)).trans ((uZ_ne (by omega)).trans ((uZ_ne (by omega)).trans ((uZ_ne (by omega)).trans ((uZ_ne (by omega)).trans ((uZ_ne (by omega)).trans ((uZ_ne (by omega)).trans ((uZ_ne (by omega)).trans ((uZ_ne (by omega)).trans (uZ_eq))))))))))))).symm
  by_cases hk5 : k = 212 + N 6
  · rw [hk5]
    exact ((uZ_ne (by omega)).trans ((uZ_ne (by omega)).trans ((uZ_ne (by omega)).trans ((uZ_ne (by omega)).trans (uZ_eq))))).trans ((uZ_ne (by omega)).trans ((uZ_ne (by omega)).trans ((uZ_ne (by omega)).trans ((uZ_ne (by omega)).trans ((uZ_ne (by omega)).trans ((uZ_ne (by omega)).trans ((uZ_ne (by omega)).trans ((uZ_ne (by omega)).trans ((uZ_ne (by omega)).trans ((uZ_ne (by omega)).trans ((uZ_ne (by omega)).trans ((uZ_ne (by omega)).trans ((uZ_ne (by omega)).trans (uZ_eq)))))))))))))).symm
  by_cases hk6 : k = 152 + N 6
  · rw [hk6]
    exact ((uZ_ne (by omega)).trans ((uZ_ne (by omega)).trans ((uZ_ne (by omega)).trans ((uZ_ne (by omega)).trans ((uZ_ne (by omega)).trans (uZ_eq)))))).trans ((uZ_ne (by omega)).trans ((uZ_ne (by omega)).trans ((uZ_ne (by omega)).trans ((uZ_ne (by omega)).trans ((uZ_ne (by omega)).trans ((uZ_ne (by omega)).trans ((uZ_ne (by omega)).trans ((uZ_ne (by omega)).trans ((uZ_ne (by omega)).trans ((uZ_ne (by omega)).trans ((uZ_ne (by omega)).trans ((uZ_ne (by omega)).trans ((uZ_ne (by omega)).trans ((uZ_ne (by omega)).trans (uZ_eq))))))))))))))).symm
  by_cases hk7 : k = 6
  · rw [hk7]
    exact ((uZ_ne (by omega)).trans ((uZ_ne (by omega)).trans ((uZ_ne (by omega)).trans ((uZ_ne (by omega)).trans ((uZ_ne (by omega)).trans ((uZ_ne (by omega)).trans (uZ_eq))))))).trans ((uZ_ne (by omega)).trans ((uZ_ne (by omega)).trans ((uZ_ne (by omega)).trans ((uZ_ne (by omega)).trans ((uZ_ne (by omega)).trans ((uZ_ne (by omega)).trans ((uZ_ne (by omega)).trans ((uZ_ne (by omega)).trans ((uZ_ne (by omega)).trans (uZ_eq)))))))))).symm
  by_cases hk8 : k = 24 + 8 * l + g
  · rw [hk8]
    exact ((uZ_ne (by omega)).trans ((uZ_ne (by omega)).trans ((uZ_ne (by omega)).trans ((uZ_ne (by omega)).trans ((uZ_ne (by omega)).trans ((uZ_ne (by omega)).trans ((uZ_ne (by omega)).trans (uZ_eq)))))))).trans ((uZ_ne (by omega)).trans ((uZ_ne (by omega)).trans ((uZ_ne (by omega)).trans ((uZ_ne (by omega)).trans ((uZ_ne (by omega)).trans ((uZ_ne (by omega)).trans (uZ_eq))))))).symm
  by_cases hk9 : k = 855 + N 7
  · rw [hk9]
    exact ((uZ_ne (by omega)).trans ((uZ_ne (by omega)).trans ((uZ_ne (by omega)).trans ((uZ_ne (by omega)).trans ((uZ_ne (by omega)).trans ((uZ_ne (by omega)).trans ((uZ_ne (by omega)).trans ((uZ_ne (by omega)).trans (uZ_eq))))))))).trans (uZ_eq).symm
  by_cases hk10 : k = 654 + N 7
  · rw [hk10]
    exact ((uZ_ne (by omega)).trans ((uZ_ne (by omega)).trans ((uZ_ne (by omega)).trans ((uZ_ne (by omega)).trans ((uZ_ne (by omega)).trans ((uZ_ne (by omega)).trans ((uZ_ne (by omega)).trans ((uZ_ne (by omega)).trans ((uZ_ne (by omega)).trans (uZ_eq)))))))))).trans ((uZ_ne (by omega)).trans (uZ_eq)).symm
  by_cases hk11 : k = 453 + N 7
  · rw [hk11]
    exact ((uZ_ne (by omega)).trans ((uZ_ne (by omega)).trans ((uZ_ne (by omega)).trans ((uZ_ne (by omega)).trans ((uZ_ne (by omega)).trans ((uZ_ne (by omega)).trans ((uZ_ne (by omega)).trans ((uZ_ne (by omega)).trans ((uZ_ne (by omega)).trans ((uZ_ne (by omega)).trans (uZ_eq))))))))))).trans ((uZ_ne (by omega)).trans ((uZ_ne (by omega)).trans (uZ_eq))).symm
  by_cases hk12 : k = 19 + l
  · rw [hk12]
    exact ((uZ_ne (by omega)).trans ((uZ_ne (by omega)).trans ((uZ_ne (by omega)).trans ((uZ_ne (by omega)).trans ((uZ_ne (by omega)).trans ((uZ_ne (by omega)).trans ((uZ_ne (by omega)).trans ((uZ_ne (by omega)).trans ((uZ_ne (by omega)).trans ((uZ_ne (by omega)).trans ((uZ_ne (by omega)).trans (uZ_eq)))))))))))).trans ((uZ_ne (by omega)).trans ((uZ_ne (by omega)).trans ((uZ_ne (by omega)).trans (uZ_eq)))).symm
  by_cases hk13 : k = 14 + l
  · rw [hk13]
    exact ((uZ_ne (by omega)).trans ((uZ_ne (by omega)).trans ((uZ_ne (by omega)).trans ((uZ_ne (by omega)).trans ((uZ_ne (by omega)).trans ((uZ_ne (by omega)).trans ((uZ_ne (by omega)).trans ((uZ_ne (by omega)).trans ((uZ_ne (by omega)).trans ((uZ_ne (by omega)).trans ((uZ_ne (by omega)).trans ((uZ_ne (by omega)).trans (uZ_eq))))))))))))).trans ((uZ_ne (by omega)).trans ((uZ_ne (by omega)).trans ((uZ_ne (by omega)).trans ((uZ_ne (by omega)).trans (uZ_eq))))).symm
  by_cases hk14 : k = 7
  · rw [hk14]
    exact ((uZ_ne (by omega)).trans ((uZ_ne (by omega)).trans ((uZ_ne (by omega)).trans ((uZ_ne (by omega)).trans ((uZ_ne (by omega)).trans ((uZ_ne (by omega)).trans ((uZ_ne (by omega)).trans ((uZ_ne (by omega)).trans ((uZ_ne (by omega)).trans ((uZ_ne (by omega)).trans ((uZ_ne (by omega)).trans ((uZ_ne (by omega)).trans ((uZ_ne (by omega)).trans (uZ_eq)))))))))))))).trans ((uZ_ne (by omega)).trans ((uZ_ne (by omega)).trans ((uZ_ne (by omega)).trans ((uZ_ne (by omega)).trans ((uZ_ne (by omega)).trans (uZ_eq)))))).symm
  exact ((uZ_ne (by omega)).trans ((uZ_ne (by omega)).trans ((uZ_ne (by omega)).trans ((uZ_ne (by omega)).trans ((uZ_ne (by omega)).trans ((uZ_ne (by omega)).trans ((uZ_ne (by omega)).trans ((uZ_ne (by omega)).trans ((uZ_ne (by omega)).trans ((uZ_ne (by omega)).trans ((uZ_ne (by omega)).trans ((uZ_ne (by omega)).trans ((uZ_ne (by omega)).trans (uZ_ne (by omega))))))))))))))).trans ((uZ_ne (by omega)).trans ((uZ_ne (by omega)).trans ((uZ_ne (by omega)).trans ((uZ_ne (by omega)).trans ((uZ_ne (by omega)).trans ((uZ_ne (by omega)).trans ((uZ_ne (by omega)).trans ((uZ_ne (by omega)).trans ((uZ_ne (by omega)).trans ((uZ_ne (by omega)).trans ((uZ_ne (by omega)).trans ((uZ_ne (by omega)).trans ((uZ_ne (by omega)).trans ((uZ_ne (by omega)).trans (uZ_ne (by omega)))))))))))))))).symm
theorem sumZ_pad {f : Int → Int} {n : Nat} : ∀ (m : Nat), n ≤ m → (∀ k : Int, (n : Int) ≤ k → k < (m : Int) → f k = 0) → sumZ f m = sumZ f n
  | 0, h, _ => by rw [show n = 0 by omega]
  | m + 1, h, hf => by
    by_cases e : n = m + 1
    · rw [e]
    · show sumZ f m + f (m : Int) = sumZ f n
      rw [hf (m : Int) (by omega) (by omega), sumZ_pad m (by omega) fun k a b => hf k a (by omega)]
      omega
theorem sumL {N : Int → Int} {g : Int} (hI : Inv N) (hg : 0 ≤ g ∧ g < 8) : sumZ (fun k => N (64 + 8 * k + g)) (N 4).toNat = sumZ (fun k => N (64 + 8 * k + g)) 5 ∧ sumZ (fun k => N (24 + 8 * k + g)) (N 4).toNat = sumZ (fun k => N (24 + 8 * k + g)) 5 := by
  have h4 := hI.1.2.2.2.2.1
  constructor
  · exact (sumZ_pad 5 (by omega) fun k a b => ((hI.2.2.1 k g (by omega) b hg.1 hg.2).2.2 (by omega)).2).symm
  · exact (sumZ_pad 5 (by omega) fun k a b => ((hI.2.2.1 k g (by omega) b hg.1 hg.2).2.2 (by omega)).1).symm
theorem in0_zone {N : Int → Int} {z : Int} (h : In0 N) (hz : 0 ≤ z ∧ z ≤ 2) : In0 (uZ N 0 z) := by
  obtain ⟨b0, b1, b2, b3, b4, b5, b6, b7, b8, b9⟩ := h
  unfold In0
  rw [uZ_eq, uZ_ne (by omega), uZ_ne (by omega), uZ_ne (by omega), uZ_ne (by omega), uZ_ne (by omega), uZ_ne (by omega), uZ_ne (by omega), uZ_ne (by omega), uZ_ne (by omega)]
  omega
