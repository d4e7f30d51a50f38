theorem nx_pos {N : Int → Int} {g z : Int} (h : 0 < restF N g) (hz : IsNx N g (-1) z) : (0 ≤ z ∧ z < N 6) ∧ 0 < N (272 + z) ∧ (g < 0 ∨ N (152 + z) = g) := by
  rcases hz with ⟨h1, h2⟩ | ⟨h1, h2, -⟩
  · exfalso
    have h3 : restF N g ≤ sumZ (fun _ => (0 : Int)) (N 6).toNat := by
      refine sumZ_le _ fun k a1 a2 => ?_
      have a3 := h2 k a1 (by omega)
      unfold okB at a3
      split <;> omega
    rw [sumZ_const] at h3
    omega
  · exact ⟨h1, h2.1, h2.2.1⟩
theorem isNx_pos {N : Int → Int} {g p z : Int} (h : IsNx N g p z) (hz : 0 ≤ z) : 0 < N (272 + z) := by
  rcases h with ⟨h1, -⟩ | ⟨-, h2, -⟩
  · omega
  · exact h2.1
theorem takeF_at {N : Int → Int} {b u r : Int} (hb : 0 ≤ b ∧ b < 60) (hr : 0 ≤ r ∧ r < 4) (ho : 0 ≤ N (152 + b) ∧ N (152 + b) < 8) : takeF N b u r (272 + b) = N (272 + b) - u := by
  unfold takeF
  rw [uZ_ne (by omega), uZ_ne (by omega), uZ_eq]
theorem takeF_ne {N : Int → Int} {b u r k : Int} (h1 : k ≠ 272 + b) (h2 : k ≠ 10 + r) (h3 : k ≠ 120 + 4 * N (152 + b) + r) : takeF N b u r k = N k := by
  unfold takeF
  rw [uZ_ne h3, uZ_ne h2, uZ_ne h1]
theorem takeF_R {N : Int → Int} {b u r : Int} (h : InR N) (hb : 0 ≤ b ∧ b < N 6) (hu : 0 ≤ u ∧ u ≤ N (272 + b)) (hr : 0 ≤ r ∧ r < 4) : InR (takeF N b u r) := by
  obtain ⟨h0, hB⟩ := h
  have ho := hB b hb.1 hb.2
  have h00 := h0
  obtain ⟨b0, b1, b2, b3, b4, b5, b6, b7, b8, b9⟩ := h00
  have e : ∀ k : Int, (k < 10) → takeF N b u r k = N k := fun k hk => takeF_ne (by omega) (by omega) (by omega)
  have e2 : ∀ k : Int, 152 ≤ k → k ≠ 272 + b → takeF N b u r k = N k := fun k hk hk2 => takeF_ne hk2 (by omega) (by omega)
  refine ⟨?_, fun k h1 h2 => ?_⟩
  · unfold In0
    rw [e 0 (by omega), e 1 (by omega), e 2 (by omega), e 3 (by omega), e 4 (by omega), e 5 (by omega), e 6 (by omega), e 7 (by omega), e 8 (by omega), e 9 (by omega)]
    exact h0
  · rw [e 6 (by omega)] at h2
    rw [e2 (152 + k) (by omega) (by omega), e2 (212 + k) (by omega) (by omega), e2 (332 + k) (by omega) (by omega), e2 (392 + k) (by omega) (by omega), e 5 (by omega)]
    have hk := hB k h1 h2
    by_cases hkb : k = b
    · rw [hkb, takeF_at (by omega) hr (by omega)]
      rw [hkb] at hk
      omega
    · rw [e2 (272 + k) (by omega) (by omega)]
      exact hk
theorem takeF_rest {N : Int → Int} {b u r : Int} (h : InR N) (hb : 0 ≤ b ∧ b < N 6) (hr : 0 ≤ r ∧ r < 4) : restF (takeF N b u r) (N (152 + b)) = restF N (N (152 + b)) - u := by
  obtain ⟨h0, hB⟩ := h
  have ho := hB b hb.1 hb.2
  obtain ⟨b0, b1, b2, b3, b4, b5, b6, b7, b8, b9⟩ := h0
  have e2 : ∀ k : Int, 152 ≤ k → k ≠ 272 + b → takeF N b u r k = N k := fun k hk hk2 => takeF_ne hk2 (by omega) (by omega)
  unfold restF
  rw [takeF_ne (k := 6) (by omega) (by omega) (by omega)]
  rw [sumZ_one (f := fun k => if N (152 + k) = N (152 + b) then N (272 + k) else 0) (i := b) (d := -u) (N 6).toNat hb.1 (by omega) ?_ ?_]
  · omega
  · rw [e2 (152 + b) (by omega) (by omega), if_pos rfl, if_pos rfl, takeF_at (by omega) hr (by omega)]
    omega
  · intro k h1 h2 h3
    rw [e2 (152 + k) (by omega) (by omega), e2 (272 + k) (by omega) (by omega)]
theorem takeF_rest2 {N : Int → Int} {b u r g : Int} (h : InR N) (hb : 0 ≤ b ∧ b < N 6) (hr : 0 ≤ r ∧ r < 4) (hg : g ≠ N (152 + b)) : restF (takeF N b u r) g = restF N g := by
  obtain ⟨h0, hB⟩ := h
  have ho := hB b hb.1 hb.2
  obtain ⟨b0, b1, b2, b3, b4, b5, b6, b7, b8, b9⟩ := h0
  have e2 : ∀ k : Int, 152 ≤ k → k ≠ 272 + b → takeF N b u r k = N k := fun k hk hk2 => takeF_ne hk2 (by omega) (by omega)
  unfold restF
  rw [takeF_ne (k := 6) (by omega) (by omega) (by omega)]
  refine sumZ_congr _ fun k h1 h2 => ?_
  rw [e2 (152 + k) (by omega) (by omega)]
  by_cases hk : k = b
  · rw [hk, if_neg (fun q => hg q.symm), if_neg (fun q => hg q.symm)]
  · rw [e2 (272 + k) (by omega) (by omega)]
/-- what is taken from the bond that is next -/
noncomputable def byF (N : Int → Int) (g p u : Int) : Int := if u ≤ N (272 + nxt N g p) then u else N (272 + nxt N g p)
/-- units of a good are released, bond by bond: the state, and the amount -/
noncomputable def relF : Nat → (Int → Int) → Int → Int → Int → (Int → Int) × Int
  | 0, N, _, _, _ => (N, 0)
  | n + 1, N, g, u, r => if u ≤ 0 then (N, 0) else ((relF n (takeF N (nxt N g (-1)) (byF N g (-1) u) r) g (u - byF N g (-1) u) r).1, byF N g (-1) u * N (332 + nxt N g (-1)) + (relF n (takeF N (nxt N g (-1)) (byF N g (-1) u) r) g (u - byF N g (-1) u) r).2)
theorem relF_0 {n : Nat} {N : Int → Int} {g u r : Int} (h : u ≤ 0) : relF n N g u r = (N, 0) := by
  cases n with
  | zero => rfl
  | succ n => show (if u ≤ 0 then (N, 0) else _) = _; rw [if_pos h]
theorem relF_s {n : Nat} {N : Int → Int} {g u r : Int} (h : ¬ u ≤ 0) : relF (n + 1) N g u r = ((relF n (takeF N (nxt N g (-1)) (byF N g (-1) u) r) g (u - byF N g (-1) u) r).1, byF N g (-1) u * N (332 + nxt N g (-1)) + (relF n (takeF N (nxt N g (-1)) (byF N g (-1) u) r) g (u - byF N g (-1) u) r).2) := if_neg h
/-- what units of a good would release behind the bond p: the amount, and what is wanting -/
noncomputable def worF : Nat → (Int → Int) → Int → Int → Int → Int × Int
  | 0, _, _, _, u => (0, u)
  | n + 1, N, g, p, u => if u ≤ 0 then (0, u) else if nxt N g p < 0 then (0, u) else (byF N g p u * N (332 + nxt N g p) + (worF n N g (nxt N g p) (u - byF N g p u)).1, (worF n N g (nxt N g p) (u - byF N g p u)).2)
theorem worF_0 {n : Nat} {N : Int → Int} {g p u : Int} (h : u ≤ 0 ∨ nxt N g p < 0) : worF n N g p u = (0, u) := by
  cases n with
  | zero => rfl
  | succ n =>
    show (if u ≤ 0 then (0, u) else if nxt N g p < 0 then (0, u) else _) = _
    by_cases h1 : u ≤ 0
    · rw [if_pos h1]
    · rw [if_neg h1, if_pos (by omega)]
theorem worF_s {n : Nat} {N : Int → Int} {g p u : Int} (h : ¬ u ≤ 0) (h2 : ¬ nxt N g p < 0) : worF (n + 1) N g p u = (byF N g p u * N (332 + nxt N g p) + (worF n N g (nxt N g p) (u - byF N g p u)).1, (worF n N g (nxt N g p) (u - byF N g p u)).2) := by
  show (if u ≤ 0 then (0, u) else if nxt N g p < 0 then (0, u) else _) = _
  rw [if_neg h, if_neg h2]
theorem byF_of {N : Int → Int} {g p u z : Int} (h : z ≤ u ∧ z ≤ N (272 + nxt N g p) ∧ (z = u ∨ z = N (272 + nxt N g p))) : z = byF N g p u := by
  unfold byF
  split <;> omega
/-- what units of a good would release now; -1 where its bonds have fewer -/
noncomputable def worA (N : Int → Int) (g u : Int) : Int := if 0 < (worF u.toNat N g (-1) u).2 then -1 else (worF u.toNat N g (-1) u).1
