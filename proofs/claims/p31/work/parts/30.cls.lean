def rkF (N : Int → Int) (k : Int) : Int := N (392 + k) * 60 + k
/-- what the class's loop knows: the best among the bonds below b -/
def NxU (N : Int → Int) (g p b z : Int) : Prop := (z = -1 ∧ ∀ k : Int, 0 ≤ k → k < b → ¬ okB N g p k) ∨ ((0 ≤ z ∧ z < b) ∧ okB N g p z ∧ ∀ k : Int, 0 ≤ k → k < b → okB N g p k → rkF N z ≤ rkF N k)
theorem nxU_0 {N : Int → Int} {g p : Int} : NxU N g p 0 (-1) := Or.inl ⟨rfl, fun k h1 h2 => by omega⟩
theorem nxU_at {N : Int → Int} {g p b z : Int} (h : NxU N g p b z) : z = -1 ∨ (0 ≤ z ∧ z < b) := h.elim (fun q => Or.inl q.1) (fun q => Or.inr q.1)
theorem nxU_no {N : Int → Int} {g p b z : Int} (h : NxU N g p b z) (hb : ¬ okB N g p b) : NxU N g p (b + 1) z := by
  rcases h with ⟨h1, h2⟩ | ⟨h1, h2, h3⟩
  · refine Or.inl ⟨h1, fun k a1 a2 => ?_⟩
    by_cases e : k = b
    · rw [e]; exact hb
    · exact h2 k a1 (by omega)
  · refine Or.inr ⟨by omega, h2, fun k a1 a2 a3 => ?_⟩
    by_cases e : k = b
    · rw [e] at a3; exact absurd a3 hb
    · exact h3 k a1 (by omega) a3
theorem nxU_yes {N : Int → Int} {g p b z : Int} (h : NxU N g p b z) (hb : okB N g p b) (hb0 : 0 ≤ b) (hz : z = -1 ∨ rkF N b < rkF N z) : NxU N g p (b + 1) b := by
  refine Or.inr ⟨by omega, hb, fun k a1 a2 a3 => ?_⟩
  by_cases e : k = b
  · rw [e]; exact Int.le_refl _
  · rcases h with ⟨h1, h2⟩ | ⟨h1, h2, h3⟩
    · exact absurd a3 (h2 k a1 (by omega))
    · have := h3 k a1 (by omega) a3
      omega
theorem nxU_not {N : Int → Int} {g p b z : Int} (h : NxU N g p b z) (hz : z ≠ -1) (hd : rkF N z ≤ rkF N b) : NxU N g p (b + 1) z := by
  rcases h with ⟨h1, h2⟩ | ⟨h1, h2, h3⟩
  · omega
  · refine Or.inr ⟨by omega, h2, fun k a1 a2 a3 => ?_⟩
    by_cases e : k = b
    · rw [e]; exact hd
    · exact h3 k a1 (by omega) a3
/-- the class's answer -/
noncomputable def nxC (N : Int → Int) (g p : Int) : Int := if nxt N g p < 0 then -1 else nxt N g p
theorem nxU_end {N : Int → Int} {g p b z : Int} (h : NxU N g p b z) (hb : b = N 6) (h6 : N 6 ≤ 60) : z = nxC N g p := by
  subst hb
  rcases h with ⟨h1, h2⟩ | ⟨h1, h2, h3⟩
  · have e : (-4 : Int) = nxt N g p := nxt_eq (Or.inl ⟨rfl, h2⟩)
    unfold nxC
    rw [← e, if_pos (by omega), h1]
  · have e : z = nxt N g p := nxt_eq (Or.inr ⟨h1, h2, fun k a1 a2 a3 => by
      have := h3 k a1 a2 a3
      unfold rkF at this
      omega⟩)
    unfold nxC
    rw [← e, if_neg (by omega)]
theorem nxC_or (N : Int → Int) (g p : Int) : (nxC N g p = -1 ∧ nxt N g p = -4) ∨ ((0 ≤ nxC N g p ∧ nxC N g p < N 6) ∧ nxC N g p = nxt N g p) := by
  have h := nxt_or N g p
  unfold nxC
  split <;> omega
theorem okB_rk {N : Int → Int} {g p b : Int} (hp : p = -1 ∨ (0 ≤ p ∧ p < 60)) (hb : 0 ≤ b ∧ b < 60) (hd : 0 ≤ N (392 + b)) : okB N g p b ↔ 0 < N (272 + b) ∧ (g < 0 ∨ N (152 + b) = g) ∧ (if p = -1 then -1 else rkF N p) < rkF N b := by
  unfold okB rkF
  split <;> omega
