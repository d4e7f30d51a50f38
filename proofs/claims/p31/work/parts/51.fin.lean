theorem sumZ_tail {f : Int → Int} {n : Nat} : ∀ (m : Nat), n ≤ m → (∀ k : Int, (n : Int) ≤ k → k < (m : Int) → f k = 0) → sumZ f m = sumZ f n
  | 0, h, _ => by rw [show n = 0 by omega]
  | m + 1, h, hz => by
    by_cases e : n = m + 1
    · rw [e]
    · show sumZ f m + f (m : Int) = sumZ f n
      rw [sumZ_tail m (by omega) fun k h1 h2 => hz k h1 (by omega), hz (m : Int) (by omega) (by omega)]
      omega
theorem acc_1 {N : Int → Int} (h0 : In0 N) (hH : InH N) {g : Int} (hg : 0 ≤ g ∧ g < 8) : sumZ (fun k => N (24 + 8 * k + g)) 5 = sumZ (fun k => N (24 + 8 * k + g)) (N 4).toNat ∧ sumZ (fun k => N (64 + 8 * k + g)) 5 = sumZ (fun k => N (64 + 8 * k + g)) (N 4).toNat := by
  obtain ⟨b0, b1, b2, b3, b4, b5, b6, b7, b8, b9⟩ := h0
  exact ⟨sumZ_tail 5 (by omega) fun k h1 h2 => ((hH k g (by omega) (by omega) hg.1 hg.2).2.2 (by omega)).1, sumZ_tail 5 (by omega) fun k h1 h2 => ((hH k g (by omega) (by omega) hg.1 hg.2).2.2 (by omega)).2⟩
