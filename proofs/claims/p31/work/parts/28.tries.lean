theorem trF_f : ∀ (n : Nat) {TT N F : Int → Int}, (F 4 = 0 ∨ F 4 = 1) → 0 ≤ F 6 ∧ F 6 ≤ 2 → (∀ k : Int, k < 3 → (trF n TT N F).2 k = F k) ∧ ((trF n TT N F).2 4 = 0 ∨ (trF n TT N F).2 4 = 1) ∧ (0 ≤ (trF n TT N F).2 6 ∧ (trF n TT N F).2 6 ≤ 2)
  | 0, TT, N, F, h4, h6 => ⟨fun k _ => rfl, h4, h6⟩
  | n + 1, TT, N, F, h4, h6 => by
    by_cases h : F 3 < F 2 ∧ F 6 = 0
    · rw [trF_s h]
      have h1 := ordP_f TT N (uZ F 5 (F 3))
      have h2 := aftF_f (ordP TT N (uZ F 5 (F 3))).2.2 (ordP TT N (uZ F 5 (F 3))).1
      have h5 : aftF (ordP TT N (uZ F 5 (F 3))).2.2 (ordP TT N (uZ F 5 (F 3))).1 4 = (ordP TT N (uZ F 5 (F 3))).2.2 4 := h2.1 4 (by omega) (by omega) (by omega)
      obtain ⟨a1, a2, a3⟩ := trF_f n (TT := TT) (N := (ordP TT N (uZ F 5 (F 3))).2.1) (F := aftF (ordP TT N (uZ F 5 (F 3))).2.2 (ordP TT N (uZ F 5 (F 3))).1) (by rw [h5]; exact h1.2.2) h2.2.1
      refine ⟨fun k hk => ?_, a2, a3⟩
      rw [a1 k hk, h2.1 k (by omega) (by omega) (by omega), h1.1 k (by omega) (by omega), uZ_ne (by omega)]
    · rw [trF_e h]
      exact ⟨fun k _ => rfl, h4, h6⟩
theorem triP_f {TT N F : Int → Int} (h4 : F 4 = 0 ∨ F 4 = 1) : (∀ k : Int, k < 3 → (triP TT N F).2 k = F k) ∧ ((triP TT N F).2 4 = 0 ∨ (triP TT N F).2 4 = 1) ∧ (0 ≤ (triP TT N F).2 6 ∧ (triP TT N F).2 6 ≤ 2) := by
  unfold triP
  obtain ⟨a1, a2, a3⟩ := trF_f 81 (TT := TT) (N := N) (F := uZ (uZ (uZ F 3 0) 8 0) 6 0) (by rw [uZ_ne (by omega), uZ_ne (by omega), uZ_ne (by omega)]; exact h4) (by rw [uZ_eq]; omega)
  exact ⟨fun k hk => by rw [a1 k hk, uZ_ne (by omega), uZ_ne (by omega), uZ_ne (by omega)], a2, a3⟩
theorem trF_inv : ∀ (n : Nat) {TT N F : Int → Int}, Inv N → Inv (trF n TT N F).1
  | 0, TT, N, F, h => h
  | n + 1, TT, N, F, h => by
    by_cases hc : F 3 < F 2 ∧ F 6 = 0
    · rw [trF_s hc]
      exact trF_inv n (ordP_inv h TT (uZ F 5 (F 3)))
    · rw [trF_e hc]
      exact h
theorem triP_inv {TT N F : Int → Int} (h : Inv N) : Inv (triP TT N F).1 := trF_inv 81 h
def qFault (F : Int → Int) (w : Int) : Int := if ¬ (0 ≤ w ∧ w ≤ 2) then -1 else if F 6 = 0 ∨ (w = 2 ∧ F 6 = 1) then -4 else if w = 0 then F 5 else if w = 1 then F 6 else F 7
noncomputable def plaP (TT N SS F : Int → Int) : Int × (Int → Int) × (Int → Int) × (Int → Int) := if (triP TT N F).2 6 = 0 then ((triP TT N F).2 8, (triP TT N F).1, recP N SS (triP TT N F).2 ((triP TT N F).2 8)) else (-2, N, SS, (triP TT N F).2)
