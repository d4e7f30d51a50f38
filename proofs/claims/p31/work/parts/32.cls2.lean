def putF (N : Int → Int) (l d : Int) : Int → Int := uZ (uZ (uZ (uZ N 7 (N 7 + 1)) (453 + N 7) l) (654 + N 7) d) (855 + N 7) 0
theorem putF_ne {N : Int → Int} {l d k : Int} (h : k ≠ 7 ∧ k ≠ 453 + N 7 ∧ k ≠ 654 + N 7 ∧ k ≠ 855 + N 7) : putF N l d k = N k := by
  unfold putF
  rw [uZ_ne h.2.2.2, uZ_ne h.2.2.1, uZ_ne h.2.1, uZ_ne h.1]
theorem putF_seals {N : Int → Int} {l : Int} (hl : 0 ≤ l ∧ l < 5) (h7 : 0 ≤ N 7) : uZ (putF (uZ N (14 + l) 1) l (N 1)) (19 + l) (N 7 + 1) = sealsF N l := by
  unfold putF sealsF
  rw [show uZ N (14 + l) 1 7 = N 7 from uZ_ne (by omega)]
  funext k
  by_cases hk1 : k = 19 + l
  · rw [hk1]
    exact (uZ_eq).trans ((uZ_ne (by omega)).trans ((uZ_ne (by omega)).trans ((uZ_ne (by omega)).trans (uZ_eq)))).symm
  by_cases hk2 : k = 855 + N 7
  · rw [hk2]
    exact ((uZ_ne (by omega)).trans (uZ_eq)).trans (uZ_eq).symm
  by_cases hk3 : k = 654 + N 7
  · rw [hk3]
    exact ((uZ_ne (by omega)).trans ((uZ_ne (by omega)).trans (uZ_eq))).trans ((uZ_ne (by omega)).trans (uZ_eq)).symm
  by_cases hk4 : k = 453 + N 7
  · rw [hk4]
    exact ((uZ_ne (by omega)).trans ((uZ_ne (by omega)).trans ((uZ_ne (by omega)).trans (uZ_eq)))).trans ((uZ_ne (by omega)).trans ((uZ_ne (by omega)).trans (uZ_eq))).symm
  by_cases hk5 : k = 7
  · rw [hk5]
    exact ((uZ_ne (by omega)).trans ((uZ_ne (by omega)).trans ((uZ_ne (by omega)).trans ((uZ_ne (by omega)).trans (uZ_eq))))).trans ((uZ_ne (by omega)).trans ((uZ_ne (by omega)).trans ((uZ_ne (by omega)).trans ((uZ_ne (by omega)).trans ((uZ_ne (by omega)).trans (uZ_eq)))))).symm
  by_cases hk6 : k = 14 + l
  · rw [hk6]
    exact ((uZ_ne (by omega)).trans ((uZ_ne (by omega)).trans ((uZ_ne (by omega)).trans ((uZ_ne (by omega)).trans ((uZ_ne (by omega)).trans (uZ_eq)))))).trans ((uZ_ne (by omega)).trans ((uZ_ne (by omega)).trans ((uZ_ne (by omega)).trans ((uZ_ne (by omega)).trans (uZ_eq))))).symm
  exact ((uZ_ne (by omega)).trans ((uZ_ne (by omega)).trans ((uZ_ne (by omega)).trans ((uZ_ne (by omega)).trans ((uZ_ne (by omega)).trans (uZ_ne (by omega))))))).trans ((uZ_ne (by omega)).trans ((uZ_ne (by omega)).trans ((uZ_ne (by omega)).trans ((uZ_ne (by omega)).trans ((uZ_ne (by omega)).trans (uZ_ne (by omega))))))).symm
theorem seals_off {M : Int → Int} {l v : Int} (hl : 0 ≤ l ∧ l < 5) (h7 : 0 ≤ M 7) : sealsF (uZ M (14 + l) v) l = sealsF M l := by
  unfold sealsF
  rw [show uZ M (14 + l) v 7 = M 7 from uZ_ne (by omega), show uZ M (14 + l) v 1 = M 1 from uZ_ne (by omega)]
  funext k
  by_cases hk1 : k = 855 + M 7
  · rw [hk1]
    exact (uZ_eq).trans (uZ_eq).symm
  by_cases hk2 : k = 654 + M 7
  · rw [hk2]
    exact ((uZ_ne (by omega)).trans (uZ_eq)).trans ((uZ_ne (by omega)).trans (uZ_eq)).symm
  by_cases hk3 : k = 453 + M 7
  · rw [hk3]
    exact ((uZ_ne (by omega)).trans ((uZ_ne (by omega)).trans (uZ_eq))).trans ((uZ_ne (by omega)).trans ((uZ_ne (by omega)).trans (uZ_eq))).symm
  by_cases hk4 : k = 19 + l
  · rw [hk4]
    exact ((uZ_ne (by omega)).trans ((uZ_ne (by omega)).trans ((uZ_ne (by omega)).trans (uZ_eq)))).trans ((uZ_ne (by omega)).trans ((uZ_ne (by omega)).trans ((uZ_ne (by omega)).trans (uZ_eq)))).symm
  by_cases hk5 : k = 14 + l
  · rw [hk5]
    exact ((uZ_ne (by omega)).trans ((uZ_ne (by omega)).trans ((uZ_ne (by omega)).trans ((uZ_ne (by omega)).trans (uZ_eq))))).trans ((uZ_ne (by omega)).trans ((uZ_ne (by omega)).trans ((uZ_ne (by omega)).trans ((uZ_ne (by omega)).trans (uZ_eq))))).symm
  by_cases hk6 : k = 7
  · rw [hk6]
    exact ((uZ_ne (by omega)).trans ((uZ_ne (by omega)).trans ((uZ_ne (by omega)).trans ((uZ_ne (by omega)).trans ((uZ_ne (by omega)).trans (uZ_eq)))))).trans ((uZ_ne (by omega)).trans ((uZ_ne (by omega)).trans ((uZ_ne (by omega)).trans ((uZ_ne (by omega)).trans ((uZ_ne (by omega)).trans (uZ_eq)))))).symm
  exact ((uZ_ne (by omega)).trans ((uZ_ne (by omega)).trans ((uZ_ne (by omega)).trans ((uZ_ne (by omega)).trans ((uZ_ne (by omega)).trans ((uZ_ne (by omega)).trans (uZ_ne (by omega)))))))).trans ((uZ_ne (by omega)).trans ((uZ_ne (by omega)).trans ((uZ_ne (by omega)).trans ((uZ_ne (by omega)).trans ((uZ_ne (by omega)).trans (uZ_ne (by omega))))))).symm
theorem seals_offF {N : Int → Int} {l : Int} (hl : 0 ≤ l ∧ l < 5) (h7 : 0 ≤ N 7) (h9 : 0 ≤ N (19 + l)) : sealsF (offF N l 2) l = sealsF (if N (14 + l) = 1 then uZ N (854 + N (19 + l)) 2 else N) l := by
  unfold offF
  split
  · exact seals_off hl (by rw [uZ_ne (by omega)]; exact h7)
  · rfl
def soF : Nat → (Int → Int) → (Int → Int)
  | 0, N => N
  | n + 1, N => sealsF (soF n N) (n : Int)
theorem soF_s {N : Int → Int} {i : Int} (h : 0 ≤ i) : soF (i + 1).toNat N = sealsF (soF i.toNat N) i := by
  rw [show (i + 1).toNat = i.toNat + 1 by omega]
  show sealsF (soF i.toNat N) ((i.toNat : Nat) : Int) = _
  rw [Int.toNat_of_nonneg h]
theorem crF_so {z w : Int} (hz : z ≠ 0) (hw : w = 0) : ∀ (n : Nat) (N : Int → Int), crF n N z w = soF n N
  | 0, _ => rfl
  | n + 1, N => by
    show (if z = 0 then _ else if w = 0 then sealsF (crF n N z w) (n : Int) else crF n N z w) = sealsF (soF n N) (n : Int)
    rw [if_neg hz, if_pos hw, crF_so hz hw n N]
theorem crF_id {z w : Int} (hz : z ≠ 0) (hw : w ≠ 0) : ∀ (n : Nat) (N : Int → Int), crF n N z w = N
  | 0, _ => rfl
  | n + 1, N => by
    show (if z = 0 then _ else if w = 0 then sealsF (crF n N z w) (n : Int) else crF n N z w) = N
    rw [if_neg hz, if_neg hw, crF_id hz hw n N]
/-- a bond more: its good, units, duty and day -/
def addF (N : Int → Int) (g u d t : Int) : Int → Int := uZ (uZ (uZ (uZ (uZ (uZ (uZ N 6 (N 6 + 1)) (152 + N 6) g) (212 + N 6) u) (272 + N 6) u) (332 + N 6) d) (392 + N 6) t) 9 (N 9 + u * d)
def radF (N : Int → Int) (g r u c : Int) : Int → Int := uZ (uZ N (120 + 4 * g + r) (N (120 + 4 * g + r) + u)) (10 + r) (N (10 + r) + c)
