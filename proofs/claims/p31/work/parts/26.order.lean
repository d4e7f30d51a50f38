theorem ordG_inv {N F : Int → Int} (h : Inv N) (L a b c d : Int) : Inv (ordG N F L a b c d).2.1 := by
  unfold ordG
  split
  · exact h
  split
  · exact sCross_inv h a
  split
  · exact sUse_inv h a b c
  split
  · exact sBring_inv h a b c
  split
  · exact sSmash_inv h a b c d
  split
  · exact sTear_inv h a
  split
  · exact sInspect_inv h a
  split
  · exact sPass_inv h a
  · exact h
theorem ordG_f {N F : Int → Int} (L a b c d : Int) : (∀ k : Int, k ≠ 4 → (ordG N F L a b c d).2.2 k = F k) ∧ ((F 4 = 0 ∨ F 4 = 1) → (ordG N F L a b c d).2.2 4 = 0 ∨ (ordG N F L a b c d).2.2 4 = 1) := by
  unfold ordG
  repeat' split
  all_goals first | exact ⟨fun k h => rfl, fun h => h⟩ | (dsimp only; exact ⟨fun k h => uZ_ne h, fun h => Or.inl uZ_eq⟩)
theorem ordX_f (TT F : Int → Int) : (∀ k : Int, k ≠ 3 → k ≠ 4 → (ordX TT F).2.2 k = F k) ∧ (F 3 + 1 ≤ (ordX TT F).2.2 3 ∧ (ordX TT F).2.2 3 ≤ F 3 + 15) ∧ ((ordX TT F).2.2 4 = 0 ∨ (ordX TT F).2.2 4 = 1) ∧ (0 ≤ (ordX TT F).1 ∧ (ordX TT F).1 ≤ 9999) ∧ (0 ≤ (ordX TT F).2.1 ∧ (ordX TT F).2.1 ≤ 9999) := by
  have h0 := numP_f TT (uZ (uZ F 4 1) 3 (F 3 + 1))
  rw [uZ_eq] at h0
  have h1 := psF_f TT (ord0 TT F).2 44
  have h2 := numP_f TT (psF TT (ord0 TT F).2 44)
  have h3 := psF_f TT (numP TT (psF TT (ord0 TT F).2 44)).2 44
  have h4 := numP_f TT (psF TT (numP TT (psF TT (ord0 TT F).2 44)).2 44)
  have e0 : ∀ k : Int, k ≠ 3 → k ≠ 4 → (ord0 TT F).2 k = F k := fun k a b => by
    show (numP TT (uZ (uZ F 4 1) 3 (F 3 + 1))).2 k = F k
    rw [h0.1 k a b, uZ_ne a, uZ_ne b]
  have e1 : F 3 + 1 ≤ (ord0 TT F).2 3 ∧ (ord0 TT F).2 3 ≤ F 3 + 5 := by
    show F 3 + 1 ≤ (numP TT (uZ (uZ F 4 1) 3 (F 3 + 1))).2 3 ∧ (numP TT (uZ (uZ F 4 1) 3 (F 3 + 1))).2 3 ≤ F 3 + 5
    omega
  unfold ordX ordB
  split
  · dsimp only
    refine ⟨fun k a b => ?_, ?_, h4.2.2.1, h2.2.2.2, h4.2.2.2⟩
    · rw [h4.1 k a b, h3.1 k a b, h2.1 k a b, h1.1 k a b, e0 k a b]
    · omega
  · dsimp only
    exact ⟨e0, by omega, h0.2.2.1, by omega, by omega⟩
theorem ordZ_f (TT F : Int → Int) : (∀ k : Int, k ≠ 3 → k ≠ 4 → ordZ TT F k = F k) ∧ (F 3 + 1 ≤ ordZ TT F 3 ∧ ordZ TT F 3 ≤ F 3 + 25) ∧ (ordZ TT F 4 = 0 ∨ ordZ TT F 4 = 1) := by
  have h0 := ordX_f TT F
  have h1 := psF_f TT (ordX TT F).2.2 44
  have h2 := numP_f TT (psF TT (ordX TT F).2.2 44)
  have h3 := psF_f TT (ordY TT F).2 59
  have e0 : (∀ k : Int, k ≠ 3 → k ≠ 4 → (ordY TT F).2 k = F k) ∧ (F 3 + 1 ≤ (ordY TT F).2 3 ∧ (ordY TT F).2 3 ≤ F 3 + 20) := by
    unfold ordY ordD
    split
    · exact ⟨fun k a b => by rw [h2.1 k a b, h1.1 k a b, h0.1 k a b], by omega⟩
    · dsimp only
      exact ⟨h0.1, by omega⟩
  refine ⟨fun k a b => ?_, ?_, h3.2.2⟩
  · show psF TT (ordY TT F).2 59 k = F k
    rw [h3.1 k a b, e0.1 k a b]
  · show F 3 + 1 ≤ psF TT (ordY TT F).2 59 3 ∧ psF TT (ordY TT F).2 59 3 ≤ F 3 + 25
    omega
theorem ordP_f (TT N F : Int → Int) : (∀ k : Int, k ≠ 3 → k ≠ 4 → (ordP TT N F).2.2 k = F k) ∧ (F 3 + 1 ≤ (ordP TT N F).2.2 3 ∧ (ordP TT N F).2.2 3 ≤ F 3 + 25) ∧ ((ordP TT N F).2.2 4 = 0 ∨ (ordP TT N F).2.2 4 = 1) := by
  have h0 := ordZ_f TT F
  have h1 := ordG_f (N := N) (F := ordZ TT F) (letF TT F) (ord0 TT F).1 (ordX TT F).1 (ordX TT F).2.1 (ordY TT F).1
  refine ⟨fun k a b => ?_, ?_, h1.2 h0.2.2⟩
  · show (ordG N (ordZ TT F) (letF TT F) (ord0 TT F).1 (ordX TT F).1 (ordX TT F).2.1 (ordY TT F).1).2.2 k = F k
    rw [h1.1 k b, h0.1 k a b]
  · show F 3 + 1 ≤ (ordG N (ordZ TT F) (letF TT F) (ord0 TT F).1 (ordX TT F).1 (ordX TT F).2.1 (ordY TT F).1).2.2 3 ∧ (ordG N (ordZ TT F) (letF TT F) (ord0 TT F).1 (ordX TT F).1 (ordX TT F).2.1 (ordY TT F).1).2.2 3 ≤ F 3 + 25
    rw [h1.1 3 (by omega)]
    exact h0.2.1
theorem ordP_inv {N : Int → Int} (h : Inv N) (TT F : Int → Int) : Inv (ordP TT N F).2.1 := ordG_inv h _ _ _ _ _
theorem aftF_f (F : Int → Int) (z : Int) : (∀ k : Int, k ≠ 6 → k ≠ 7 → k ≠ 8 → aftF F z k = F k) ∧ (0 ≤ aftF F z 6 ∧ aftF F z 6 ≤ 2) ∧ aftF F z 8 = F 8 + 1 := by
  unfold aftF
  refine ⟨fun k a b c => by rw [uZ_ne c, uZ_ne a, uZ_ne b], ?_, ?_⟩
  · rw [uZ_ne (by omega), uZ_eq]
    split <;> (try split) <;> omega
  · rw [uZ_eq]
