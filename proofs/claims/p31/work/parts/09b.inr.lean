def InR (N : Int → Int) : Prop := In0 N ∧ InB N
theorem sealsF_ne {N : Int → Int} {l k : Int} (h : k ≠ 7 ∧ k ≠ 14 + l ∧ k ≠ 19 + l ∧ k ≠ 453 + N 7 ∧ k ≠ 654 + N 7 ∧ k ≠ 855 + N 7) : sealsF N l k = N k := by
  unfold sealsF
  rw [uZ_ne h.2.2.2.2.2, uZ_ne h.2.2.2.2.1, uZ_ne h.2.2.2.1, uZ_ne h.2.2.1, uZ_ne h.2.1, uZ_ne h.1]
theorem offF_ne {N : Int → Int} {l w k : Int} (h : k ≠ 14 + l ∧ k ≠ 854 + N (19 + l)) : offF N l w k = N k := by
  unfold offF
  split
  · rw [uZ_ne h.1, uZ_ne h.2]
  · rfl
def cntF (N : Int → Int) (h : Int) : Int := sumZ (fun k => if N (14 + k) = h then 1 else 0) (N 4).toNat
