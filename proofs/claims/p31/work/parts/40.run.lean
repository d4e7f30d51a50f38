theorem loS_all {b : Int} (hb : b = 24 ∨ b = 64) : ∀ (n : Nat) {N : Int → Int} {g u : Int}, n ≤ 5 → 0 ≤ g ∧ g < 8 → 0 ≤ u → InK N → InK (loS b n N g u).1 ∧ 0 ≤ (loS b n N g u).2 ∧ (loS b n N g u).2 ≤ u
  | 0, N, g, u, _, _, hu, h => ⟨h, hu, Int.le_refl u⟩
  | n + 1, N, g, u, hn, hg, hu, h => by
    obtain ⟨h1, h2, h3⟩ := loS_all hb n (by omega) hg hu h
    have hk := h1 (n : Int) g (by omega) (by omega) hg.1 hg.2
    have ha : 0 ≤ (loS b n N g u).1 (b + 8 * (n : Int) + g) ∧ (loS b n N g u).1 (b + 8 * (n : Int) + g) ≤ 600000 := by
      rcases hb with hb | hb
      · subst hb; exact hk.1
      · subst hb; exact hk.2
    have hm := minF_nn h2 ha.1
    refine ⟨inK_up h1 (by omega), ?_, ?_⟩
    · show 0 ≤ (loS b n N g u).2 - minF (loS b n N g u).2 ((loS b n N g u).1 (b + 8 * (n : Int) + g))
      omega
    · show (loS b n N g u).2 - minF (loS b n N g u).2 ((loS b n N g u).1 (b + 8 * (n : Int) + g)) ≤ u
      omega
theorem livF_no {N : Int → Int} (h : livF N ≤ 0) : nxt N (-1) (-1) < 0 := by
  rcases nxt_is N (-1) (-1) with ⟨h1, -⟩ | ⟨h1, h2, -⟩
  · omega
  · exfalso
    have h3 := sumZ_ge (f := fun b => if 0 < N (272 + b) then 1 else 0) (i := nxt N (-1) (-1)) (N 6).toNat (fun k a b => by split <;> omega) h1.1 (by omega)
    unfold livF at h
    rw [if_pos h2.1] at h3
    omega
theorem rad_take {N : Int → Int} {b : Int} (hb : 0 ≤ b ∧ b < 60) (ho : 0 ≤ N (152 + b) ∧ N (152 + b) < 8) : radF (uZ N (272 + b) 0) (N (152 + b)) 3 (N (272 + b)) (N (272 + b) * N (332 + b)) = takeF N b (N (272 + b)) 3 := by
  unfold radF takeF
  rw [show uZ N (272 + b) 0 (120 + 4 * N (152 + b) + 3) = N (120 + 4 * N (152 + b) + 3) from uZ_ne (by omega), show uZ N (272 + b) 0 (10 + 3) = N (10 + 3) from uZ_ne (by omega), Int.sub_self]
  funext k
  by_cases hk1 : k = 10 + 3
  · rw [hk1]
    exact (uZ_eq).trans ((uZ_ne (by omega)).trans (uZ_eq)).symm
  by_cases hk2 : k = 120 + 4 * N (152 + b) + 3
  · rw [hk2]
    exact ((uZ_ne (by omega)).trans (uZ_eq)).trans (uZ_eq).symm
  by_cases hk3 : k = 272 + b
  · rw [hk3]
    exact ((uZ_ne (by omega)).trans ((uZ_ne (by omega)).trans (uZ_eq))).trans ((uZ_ne (by omega)).trans ((uZ_ne (by omega)).trans (uZ_eq))).symm
  exact ((uZ_ne (by omega)).trans ((uZ_ne (by omega)).trans (uZ_ne (by omega)))).trans ((uZ_ne (by omega)).trans ((uZ_ne (by omega)).trans (uZ_ne (by omega)))).symm
/-- cells of lockers that there are not stay empty -/
theorem losF_Z1 : ∀ (n : Nat) {N : Int → Int} {g u : Int}, n ≤ 10 → 0 ≤ g ∧ g < 8 → 0 ≤ u → InK N → ∀ k : Int, 24 ≤ k → k < 104 → N k = 0 → (losF n N g u).1 k = 0
  | 0, N, g, u, _, _, _, _, k, _, _, h => h
  | n + 1, N, g, u, hn, hg, hu, hK, k, h1, h2, h => by
    obtain ⟨a1, a2, a3⟩ := losF_K n (by omega) hg hu hK
    have ih := losF_Z1 n (u := u) (by omega) hg hu hK k h1 h2 h
    show uZ (losF n N g u).1 (atF (n : Int) g) ((losF n N g u).1 (atF (n : Int) g) - minF (losF n N g u).2 ((losF n N g u).1 (atF (n : Int) g))) k = 0
    by_cases e : k = atF (n : Int) g
    · rw [← e, uZ_eq, ih]
      have hm := minF_nn a2 (show (0 : Int) ≤ 0 by omega)
      omega
    · rw [uZ_ne e]
      exact ih
theorem losF_Z {N : Int → Int} {g0 u l g nl : Int} (hg0 : 0 ≤ g0 ∧ g0 < 8) (hu : 0 ≤ u) (hK : InK N) (_ : ∀ l2 : Int, nl ≤ l2 → l2 < 5 → N (64 + 8 * l2 + g0) = 0 ∧ N (24 + 8 * l2 + g0) = 0) (h : N (64 + 8 * l + g) = 0 ∧ N (24 + 8 * l + g) = 0) (h1 : nl ≤ l) (h2 : l < 5) (h3 : 0 ≤ g) (h4 : g < 8) (h0 : 0 ≤ l := by omega) : (losF 10 N g0 u).1 (64 + 8 * l + g) = 0 ∧ (losF 10 N g0 u).1 (24 + 8 * l + g) = 0 := ⟨losF_Z1 10 (by omega) hg0 hu hK _ (by omega) (by omega) h.1, losF_Z1 10 (by omega) hg0 hu hK _ (by omega) (by omega) h.2⟩
