def TxT (TT : Int → Int) (lt : Int) : Prop := ∀ k : Int, 0 ≤ k → k < lt → 32 ≤ TT k ∧ TT k ≤ 126
theorem here_in {TT : Int → Int} {lt p : Int} (h : TxT TT lt) (hp : 0 ≤ p) : 0 ≤ hereF TT lt p ∧ hereF TT lt p ≤ 126 := by
  unfold hereF
  split
  · have := h p hp (by assumption)
    omega
  · omega
/-- a sign is passed: the form holds on if it is this one -/
def psF (TT F : Int → Int) (sg : Int) : Int → Int := uZ (uZ F 4 (if F 4 ≠ 0 ∧ hereF TT (F 2) (F 3) = sg then 1 else 0)) 3 (F 3 + 1)
/-- figures are read: the value, how many, the place behind them -/
def nuF : Nat → (Int → Int) → Int → Int → Int → Int → Int × Int × Int
  | 0, _, _, v, fg, p => (v, fg, p)
  | n + 1, TT, lt, v, fg, p => if 48 ≤ hereF TT lt p ∧ hereF TT lt p ≤ 57 then nuF n TT lt (10 * v + hereF TT lt p - 48) (fg + 1) (p + 1) else (v, fg, p)
theorem nuF_e {n : Nat} {TT : Int → Int} {lt v fg p : Int} (h : n = 0 ∨ ¬ (48 ≤ hereF TT lt p ∧ hereF TT lt p ≤ 57)) : nuF n TT lt v fg p = (v, fg, p) := by
  cases n with
  | zero => rfl
  | succ n => exact if_neg (by omega)
theorem nuF_s {n : Nat} {TT : Int → Int} {lt v fg p : Int} (h : 48 ≤ hereF TT lt p ∧ hereF TT lt p ≤ 57) : nuF (n + 1) TT lt v fg p = nuF n TT lt (10 * v + hereF TT lt p - 48) (fg + 1) (p + 1) := if_pos h
theorem nuF_in : ∀ (n : Nat) {TT : Int → Int} {lt v fg p : Int} (M : Int), 0 ≤ v → v ≤ M → 0 ≤ fg → 0 ≤ (nuF n TT lt v fg p).1 ∧ (nuF n TT lt v fg p).1 ≤ 10 ^ n * M + 10 ^ n - 1 ∧ fg ≤ (nuF n TT lt v fg p).2.1 ∧ (nuF n TT lt v fg p).2.2 = p + (nuF n TT lt v fg p).2.1 - fg ∧ (nuF n TT lt v fg p).2.1 ≤ fg + (n : Int)
  | 0, TT, lt, v, fg, p, M, h0, h1, h2 => by
    show 0 ≤ v ∧ v ≤ 10 ^ 0 * M + 10 ^ 0 - 1 ∧ fg ≤ fg ∧ p = p + fg - fg ∧ fg ≤ fg + ((0 : Nat) : Int)
    refine ⟨h0, ?_, by omega, by omega, by omega⟩
    rw [Int.pow_zero]
    omega
  | n + 1, TT, lt, v, fg, p, M, h0, h1, h2 => by
    by_cases h : 48 ≤ hereF TT lt p ∧ hereF TT lt p ≤ 57
    · rw [nuF_s h]
      obtain ⟨a1, a2, a3, a4, a5⟩ := nuF_in n (TT := TT) (lt := lt) (v := 10 * v + hereF TT lt p - 48) (fg := fg + 1) (p := p + 1) (10 * M + 9) (by omega) (by omega) (by omega)
      refine ⟨a1, ?_, by omega, by omega, by push_cast; omega⟩
      have e : (10 : Int) ^ (n + 1) * M + 10 ^ (n + 1) - 1 = 10 ^ n * (10 * M + 9) + 10 ^ n - 1 := by
        rw [Int.pow_succ, Int.mul_add, Int.mul_assoc]
        omega
      rw [e]
      exact a2
    · rw [nuF_e (Or.inr h)]
      have hp : (1 : Int) ≤ 10 ^ (n + 1) := by
        have : (0 : Int) < 10 ^ (n + 1) := Int.pow_pos (by omega)
        omega
      have hm : M ≤ 10 ^ (n + 1) * M := by
        have := Int.mul_le_mul_of_nonneg_right hp (show (0 : Int) ≤ M by omega)
        omega
      refine ⟨h0, ?_, Int.le_refl _, ?_, ?_⟩
      · show v ≤ 10 ^ (n + 1) * M + 10 ^ (n + 1) - 1
        omega
      · show p = p + fg - fg
        omega
      · show fg ≤ fg + ((n + 1 : Nat) : Int)
        omega
/-- a number is read: its value, the fields -/
def numP (TT F : Int → Int) : Int × (Int → Int) := ((nuF 4 TT (F 2) 0 0 (F 3)).1, uZ (uZ F 3 (nuF 4 TT (F 2) 0 0 (F 3)).2.2) 4 (if F 4 ≠ 0 ∧ 0 < (nuF 4 TT (F 2) 0 0 (F 3)).2.1 then 1 else 0))
theorem numP_f (TT F : Int → Int) : (∀ k : Int, k ≠ 3 → k ≠ 4 → (numP TT F).2 k = F k) ∧ (F 3 ≤ (numP TT F).2 3 ∧ (numP TT F).2 3 ≤ F 3 + 4) ∧ ((numP TT F).2 4 = 0 ∨ (numP TT F).2 4 = 1) ∧ (0 ≤ (numP TT F).1 ∧ (numP TT F).1 ≤ 9999) := by
  obtain ⟨a1, a2, a3, a4, a5⟩ := nuF_in 4 (TT := TT) (lt := F 2) (v := 0) (fg := 0) (p := F 3) 0 (by omega) (by omega) (by omega)
  refine ⟨fun k h3 h4 => ?_, ?_, ?_, ?_⟩
  · unfold numP
    dsimp only
    rw [uZ_ne h4, uZ_ne h3]
  · unfold numP
    dsimp only
    rw [uZ_ne (by omega), uZ_eq]
    omega
  · unfold numP
    dsimp only
    rw [uZ_eq]
    split <;> omega
  · show 0 ≤ (nuF 4 TT (F 2) 0 0 (F 3)).1 ∧ (nuF 4 TT (F 2) 0 0 (F 3)).1 ≤ 9999
    omega
theorem psF_f (TT F : Int → Int) (sg : Int) : (∀ k : Int, k ≠ 3 → k ≠ 4 → psF TT F sg k = F k) ∧ psF TT F sg 3 = F 3 + 1 ∧ (psF TT F sg 4 = 0 ∨ psF TT F sg 4 = 1) := by
  refine ⟨fun k h3 h4 => ?_, ?_, ?_⟩
  · unfold psF
    rw [uZ_ne h3, uZ_ne h4]
  · unfold psF
    rw [uZ_eq]
  · unfold psF
    rw [uZ_ne (by omega), uZ_eq]
    split <;> omega
/-- what stands behind the first number: the second and the third number, the fields -/
def ordB (TT F : Int → Int) (L : Int) : Int × Int × (Int → Int) := if L = 117 ∨ L = 114 ∨ L = 98 then ((numP TT (psF TT F 44)).1, (numP TT (psF TT (numP TT (psF TT F 44)).2 44)).1, (numP TT (psF TT (numP TT (psF TT F 44)).2 44)).2) else (0, 0, F)
def ordD (TT F : Int → Int) (L : Int) : Int × (Int → Int) := if L = 98 then numP TT (psF TT F 44) else (0, F)
def ord0 (TT F : Int → Int) : Int × (Int → Int) := numP TT (uZ (uZ F 4 1) 3 (F 3 + 1))
def letF (TT F : Int → Int) : Int := hereF TT (F 2) (F 3)
def ordX (TT F : Int → Int) : Int × Int × (Int → Int) := ordB TT (ord0 TT F).2 (letF TT F)
def ordY (TT F : Int → Int) : Int × (Int → Int) := ordD TT (ordX TT F).2.2 (letF TT F)
/-- the fields behind an order -/
def ordZ (TT F : Int → Int) : Int → Int := psF TT (ordY TT F).2 59
/-- an order that has its form is done: the answer, the state, the fields -/
noncomputable def ordG (N F : Int → Int) (L a b c d : Int) : Int × (Int → Int) × (Int → Int) := if F 4 = 0 then (0, N, F) else if L = 122 then ((sCross N a).1, (sCross N a).2, F) else if L = 117 then ((sUse N a b c).1, (sUse N a b c).2, F) else if L = 114 then ((sBring N a b c).1, (sBring N a b c).2, F) else if L = 98 then ((sSmash N a b c d).1, (sSmash N a b c d).2, F) else if L = 116 then ((sTear N a).1, (sTear N a).2, F) else if L = 99 then ((sInspect N a).1, (sInspect N a).2, F) else if L = 100 then ((sPass N a).1, (sPass N a).2, F) else (0, N, uZ F 4 0)
noncomputable def ordP (TT N F : Int → Int) : Int × (Int → Int) × (Int → Int) := ordG N (ordZ TT F) (letF TT F) (ord0 TT F).1 (ordX TT F).1 (ordX TT F).2.1 (ordY TT F).1
/-- behind an order: the fault, how many orders -/
def aftF (F : Int → Int) (z : Int) : Int → Int := uZ (uZ (uZ F 7 z) 6 (if F 4 = 0 then 1 else if iI z < 0 then 2 else 0)) 8 (F 8 + 1)
/-- orders are done, up to one that is not possible -/
noncomputable def trF : Nat → (Int → Int) → (Int → Int) → (Int → Int) → (Int → Int) × (Int → Int)
  | 0, _, N, F => (N, F)
  | n + 1, TT, N, F => if F 3 < F 2 ∧ F 6 = 0 then trF n TT (ordP TT N (uZ F 5 (F 3))).2.1 (aftF (ordP TT N (uZ F 5 (F 3))).2.2 (ordP TT N (uZ F 5 (F 3))).1) else (N, F)
noncomputable def triP (TT N F : Int → Int) : (Int → Int) × (Int → Int) := trF 81 TT N (uZ (uZ (uZ F 3 0) 8 0) 6 0)
theorem trF_s {n : Nat} {TT N F : Int → Int} (h : F 3 < F 2 ∧ F 6 = 0) : trF (n + 1) TT N F = trF n TT (ordP TT N (uZ F 5 (F 3))).2.1 (aftF (ordP TT N (uZ F 5 (F 3))).2.2 (ordP TT N (uZ F 5 (F 3))).1) := if_pos h
theorem trF_e {n : Nat} {TT N F : Int → Int} (h : ¬ (F 3 < F 2 ∧ F 6 = 0)) : trF n TT N F = (N, F) := by
  cases n with
  | zero => rfl
  | succ n => exact if_neg h
