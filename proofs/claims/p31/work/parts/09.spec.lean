theorem sumZ_step {f : Int → Int} {i : Int} (h : 0 ≤ i) : sumZ f (i + 1).toNat = sumZ f i.toNat + f i := by
  rw [show (i + 1).toNat = i.toNat + 1 by omega]
  show sumZ f i.toNat + f ((i.toNat : Nat) : Int) = _
  rw [Int.toNat_of_nonneg h]
theorem sumZ_congr {f g : Int → Int} : ∀ (n : Nat), (∀ k : Int, 0 ≤ k → k < (n : Int) → f k = g k) → sumZ f n = sumZ g n
  | 0, _ => rfl
  | n + 1, h => by
    show sumZ f n + f (n : Int) = sumZ g n + g (n : Int)
    rw [sumZ_congr n fun k h1 h2 => h k h1 (by omega), h (n : Int) (by omega) (by omega)]
theorem sumZ_add {f g : Int → Int} : ∀ (n : Nat), sumZ (fun k => f k + g k) n = sumZ f n + sumZ g n
  | 0 => rfl
  | n + 1 => by
    show sumZ (fun k => f k + g k) n + (f (n : Int) + g (n : Int)) = (sumZ f n + f (n : Int)) + (sumZ g n + g (n : Int))
    rw [sumZ_add n]
    omega
theorem sumZ_nonneg {f : Int → Int} : ∀ (n : Nat), (∀ k : Int, 0 ≤ k → k < (n : Int) → 0 ≤ f k) → 0 ≤ sumZ f n
  | 0, _ => Int.le_refl 0
  | n + 1, h => by
    show 0 ≤ sumZ f n + f (n : Int)
    have h1 := sumZ_nonneg n fun k h1 h2 => h k h1 (by omega)
    have h2 := h (n : Int) (by omega) (by omega)
    omega
theorem sumZ_le {f g : Int → Int} : ∀ (n : Nat), (∀ k : Int, 0 ≤ k → k < (n : Int) → f k ≤ g k) → sumZ f n ≤ sumZ g n
  | 0, _ => Int.le_refl 0
  | n + 1, h => by
    show sumZ f n + f (n : Int) ≤ sumZ g n + g (n : Int)
    have h1 := sumZ_le n fun k h1 h2 => h k h1 (by omega)
    have h2 := h (n : Int) (by omega) (by omega)
    omega
theorem sumZ_const (c : Int) : ∀ (n : Nat), sumZ (fun _ => c) n = c * n
  | 0 => by simp [sumZ]
  | n + 1 => by
    show sumZ (fun _ => c) n + c = _
    rw [sumZ_const c n]
    push_cast
    rw [Int.mul_add, Int.mul_one]
/-- one place of a sum is changed by d -/
theorem sumZ_one {f g : Int → Int} {i d : Int} : ∀ (n : Nat), 0 ≤ i → i < (n : Int) → g i = f i + d → (∀ k : Int, 0 ≤ k → k < (n : Int) → k ≠ i → g k = f k) → sumZ g n = sumZ f n + d
  | 0, h0, h1, _, _ => by omega
  | n + 1, h0, h1, hi, ho => by
    show sumZ g n + g (n : Int) = sumZ f n + f (n : Int) + d
    by_cases hn : i = (n : Int)
    · rw [sumZ_congr (f := g) (g := f) n fun k h2 h3 => ho k h2 (by omega) (by omega), ← hn, hi]
      omega
    · rw [sumZ_one n h0 (by omega) hi fun k h2 h3 h4 => ho k h2 (by omega) h4, ho (n : Int) (by omega) (by omega) (by omega)]
      omega
/-- one place of a sum of what is not below 0 -/
theorem sumZ_ge {f : Int → Int} {i : Int} : ∀ (n : Nat), (∀ k : Int, 0 ≤ k → k < (n : Int) → 0 ≤ f k) → 0 ≤ i → i < (n : Int) → f i ≤ sumZ f n
  | 0, _, h0, h1 => by omega
  | n + 1, h, h0, h1 => by
    show f i ≤ sumZ f n + f (n : Int)
    have hn := h (n : Int) (by omega) (by omega)
    by_cases hi : i = (n : Int)
    · rw [hi]
      have := sumZ_nonneg n fun k h1 h2 => h k h1 (by omega)
      omega
    · have := sumZ_ge n (fun k h1 h2 => h k h1 (by omega)) h0 (by omega)
      omega
/-- a bond that comes behind p, of the good g (any, below 0), with units left -/
def okB (N : Int → Int) (g p b : Int) : Prop := 0 < N (272 + b) ∧ (g < 0 ∨ N (152 + b) = g) ∧ (p < 0 ∨ N (392 + p) < N (392 + b) ∨ (N (392 + p) = N (392 + b) ∧ p < b))
def IsNx (N : Int → Int) (g p z : Int) : Prop := (z = -4 ∧ ∀ k : Int, 0 ≤ k → k < N 6 → ¬ okB N g p k) ∨ ((0 ≤ z ∧ z < N 6) ∧ okB N g p z ∧ ∀ k : Int, 0 ≤ k → k < N 6 → okB N g p k → N (392 + z) < N (392 + k) ∨ (N (392 + z) = N (392 + k) ∧ z ≤ k))
/-- the same among the bonds above b: what the reference's loop knows -/
def NxI (N : Int → Int) (g p b z : Int) : Prop := (z = -4 ∧ ∀ k : Int, b < k → k < N 6 → ¬ okB N g p k) ∨ ((b < z ∧ z < N 6) ∧ okB N g p z ∧ ∀ k : Int, b < k → k < N 6 → okB N g p k → N (392 + z) < N (392 + k) ∨ (N (392 + z) = N (392 + k) ∧ z ≤ k))
theorem nxI_0 {N : Int → Int} {g p b : Int} (h : N 6 - 1 = b) : NxI N g p b (-4) := Or.inl ⟨rfl, fun k h1 h2 => by omega⟩
theorem nxI_at {N : Int → Int} {g p b z : Int} (h : NxI N g p b z) : z = -4 ∨ (b < z ∧ z < N 6) := h.elim (fun q => Or.inl q.1) (fun q => Or.inr q.1)
theorem nxI_no {N : Int → Int} {g p b z : Int} (h : NxI N g p b z) (hb : ¬ okB N g p b) : NxI N g p (b - 1) z := by
  rcases h with ⟨h1, h2⟩ | ⟨h1, h2, h3⟩
  · refine Or.inl ⟨h1, fun k a1 a2 => ?_⟩
    by_cases e : k = b
    · rw [e]; exact hb
    · exact h2 k (by omega) a2
  · refine Or.inr ⟨by omega, h2, fun k a1 a2 a3 => ?_⟩
    by_cases e : k = b
    · rw [e] at a3; exact absurd a3 hb
    · exact h3 k (by omega) a2 a3
theorem nxI_yes {N : Int → Int} {g p b z : Int} (h : NxI N g p b z) (hb : okB N g p b) (hl : b < N 6) (hz : z < 0 ∨ N (392 + b) ≤ N (392 + z)) (hb0 : 0 ≤ b) : NxI N g p (b - 1) b := by
  refine Or.inr ⟨by omega, hb, fun k a1 a2 a3 => ?_⟩
  by_cases e : k = b
  · rw [e]; exact Or.inr ⟨rfl, Int.le_refl b⟩
  · rcases h with ⟨h1, h2⟩ | ⟨h1, h2, h3⟩
    · exact absurd a3 (h2 k (by omega) a2)
    · have := h3 k (by omega) a2 a3
      omega
theorem nxI_not {N : Int → Int} {g p b z : Int} (h : NxI N g p b z) (hz : ¬ z < 0) (hd : N (392 + z) < N (392 + b)) : NxI N g p (b - 1) z := by
  rcases h with ⟨h1, h2⟩ | ⟨h1, h2, h3⟩
  · omega
  · refine Or.inr ⟨by omega, h2, fun k a1 a2 a3 => ?_⟩
    by_cases e : k = b
    · rw [e]; exact Or.inl hd
    · exact h3 k (by omega) a2 a3
theorem nxI_end {N : Int → Int} {g p b z : Int} (h : NxI N g p b z) (hb : b = -1) : IsNx N g p z := by
  subst hb
  rcases h with ⟨h1, h2⟩ | ⟨h1, h2, h3⟩
  · exact Or.inl ⟨h1, fun k a1 a2 => h2 k (by omega) a2⟩
  · exact Or.inr ⟨by omega, h2, fun k a1 a2 a3 => h3 k (by omega) a2 a3⟩
theorem isNx_1 {N : Int → Int} {g p y z : Int} (hy : IsNx N g p y) (hz : IsNx N g p z) : y = z := by
  rcases hy with ⟨a1, a2⟩ | ⟨a1, a2, a3⟩ <;> rcases hz with ⟨b1, b2⟩ | ⟨b1, b2, b3⟩
  · omega
  · exact absurd b2 (a2 z b1.1 b1.2)
  · exact absurd a2 (b2 y a1.1 a1.2)
  · have h1 := a3 z b1.1 b1.2 b2
    have h2 := b3 y a1.1 a1.2 a2
    omega
theorem nxI_ex (N : Int → Int) (g p : Int) : ∀ (n : Nat), (n : Int) ≤ N 6 → ∃ z, NxI N g p (N 6 - 1 - n) z
  | 0, _ => ⟨-4, nxI_0 (by omega)⟩
  | n + 1, h => by
    obtain ⟨z, hz⟩ := nxI_ex N g p n (by omega)
    have e : N 6 - 1 - ((n + 1 : Nat) : Int) = N 6 - 1 - n - 1 := by omega
    rw [e]
    by_cases hb : okB N g p (N 6 - 1 - n)
    · by_cases hq : z < 0 ∨ N (392 + (N 6 - 1 - n)) ≤ N (392 + z)
      · exact ⟨_, nxI_yes hz hb (by omega) hq (by omega)⟩
      · exact ⟨_, nxI_not hz (by omega) (by omega)⟩
    · exact ⟨_, nxI_no hz hb⟩
theorem isNx_ex (N : Int → Int) (g p : Int) : ∃ z, IsNx N g p z := by
  by_cases h : 0 ≤ N 6
  · obtain ⟨z, hz⟩ := nxI_ex N g p (N 6).toNat (by omega)
    exact ⟨z, nxI_end hz (by omega)⟩
  · exact ⟨-4, Or.inl ⟨rfl, fun k h1 h2 => by omega⟩⟩
noncomputable def nxt (N : Int → Int) (g p : Int) : Int := Classical.choose (isNx_ex N g p)
theorem nxt_is (N : Int → Int) (g p : Int) : IsNx N g p (nxt N g p) := Classical.choose_spec (isNx_ex N g p)
theorem nxt_eq {N : Int → Int} {g p z : Int} (h : IsNx N g p z) : z = nxt N g p := isNx_1 h (nxt_is N g p)
theorem nxt_or (N : Int → Int) (g p : Int) : nxt N g p = -4 ∨ (0 ≤ nxt N g p ∧ nxt N g p < N 6) := (nxt_is N g p).elim (fun h => Or.inl h.1) (fun h => Or.inr h.1)
/-- a seal is put on the locker l -/
def sealsF (N : Int → Int) (l : Int) : Int → Int := uZ (uZ (uZ (uZ (uZ (uZ N 7 (N 7 + 1)) (14 + l) 1) (19 + l) (N 7 + 1)) (453 + N 7) l) (654 + N 7) (N 1)) (855 + N 7) 0
/-- the seal of l is taken off, if there is one on it -/
def offF (N : Int → Int) (l w : Int) : Int → Int := if N (14 + l) = 1 then uZ (uZ N (854 + N (19 + l)) w) (14 + l) 0 else N
/-- units of the bond b are released for the reason r -/
def takeF (N : Int → Int) (b u r : Int) : Int → Int := uZ (uZ (uZ N (272 + b) (N (272 + b) - u)) (10 + r) (N (10 + r) + u * N (332 + b))) (120 + 4 * N (152 + b) + r) (N (120 + 4 * N (152 + b) + r) + u)
