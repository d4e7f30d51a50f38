/-- a day on which a bond is due, and the day behind it -/
theorem pass_eq {N : Int → Int} (h : InX N) {d : Int} (hd : 1 ≤ d ∧ d ≤ 60) (h5 : N 1 + d ≤ 5000) : sPass N d = ((roF 61 (uZ N 1 (N 1 + d))).2, (roF 61 (uZ N 1 (N 1 + d))).1) := by
  unfold sPass
  rw [if_neg (by omega), if_neg (by omega), dayF_one (inY_R (inY h.1)) hd.1 h5]
theorem pass_amt {N : Int → Int} (h : InX N) {d : Int} (hd : 1 ≤ d ∧ d ≤ 60) (h5 : N 1 + d ≤ 5000) : (sPass N d).2 13 = N 13 + (sPass N d).1 ∧ (0 ≤ (sPass N d).1 ∧ (sPass N d).1 ≤ 2147483647) ∧ (sPass N d).2 1 = N 1 + d := by
  have hY := inY h.1
  obtain ⟨b0, b1, b2, b3, b4, b5, b6, b7, b8, b9⟩ := inY_b hY
  obtain ⟨hC, hG, hE, hZ, hS, hP⟩ := h.2
  have hXX := sPass_X h d
  have hem := em_in hXX
  have hem0 := em_in h
  have pY := y_one (i := 1) (v := N 1 + d) hY (by omega) (by omega) (by omega) (by omega) (by omega) (by omega) (by omega)
  have pG : GM (uZ N 1 (N 1 + d)) := gm_eq b6.2 hG fun k hk => uZ_ne (by omega)
  have pC : EC (uZ N 1 (N 1 + d)) := ec_eq b6.2 hC fun k hk => uZ_ne (by omega)
  obtain ⟨-, -, i3, i4⟩ := roF_gm 61 pY pG pC
  obtain ⟨-, j⟩ := y_ro 61 pY
  have j1 : (roF 61 (uZ N 1 (N 1 + d))).1 1 = N 1 + d := by rw [j 1 (by omega), uZ_eq]
  have e13 : uZ N 1 (N 1 + d) 13 = N 13 := uZ_ne (by omega)
  rw [pass_eq h hd h5] at hem ⊢
  dsimp only at hem ⊢
  rw [e13] at i3
  exact ⟨i3, by omega, j1⟩
theorem pass_rg {N : Int → Int} (h : InX N) (d : Int) : -3 ≤ (sPass N d).1 ∧ (sPass N d).1 ≤ 2147483647 := by
  by_cases c1 : 1 ≤ d ∧ d ≤ 60
  · by_cases c2 : 5000 < N 1 + d
    · unfold sPass
      rw [if_neg (by omega), if_pos c2]
      dsimp only
      omega
    · have := pass_amt h c1 (by omega)
      omega
  · unfold sPass
    rw [if_pos c1]
    dsimp only
    omega
theorem pass_0 {N : Int → Int} (h : InX N) {d : Int} (hd : 1 < d ∧ d ≤ 60) (h5 : N 1 + d ≤ 5000) (hr : qRunsOut N = d) : sPass N (d - 1) = (0, (sPass N (d - 1)).2) := by
  have hR := inY_R (inY h.1)
  have b6 := h.1.1.2.2.2.2.2.2.1
  have hbo := nxt_or N (-1) (-1)
  unfold qRunsOut at hr
  have hn : ¬ nxt N (-1) (-1) < 0 := fun q => by
    rw [if_pos q] at hr
    omega
  rw [if_neg hn] at hr
  rw [pass_eq h (d := d - 1) (by omega) (by omega)]
  have en : nxt (uZ N 1 (N 1 + (d - 1))) (-1) (-1) = nxt N (-1) (-1) := nxt_uZ b6 (Or.inl rfl) (by omega)
  have e0 := roF_0 (n := 61) (N := uZ N 1 (N 1 + (d - 1))) (Or.inr (by rw [en, uZ_eq, uZ_ne (by omega)]; omega))
  rw [e0]
theorem pass_1 {N : Int → Int} (h : InX N) {d : Int} (hd : 1 < d ∧ d ≤ 60) (h5 : N 1 + d ≤ 5000) (hr : qRunsOut N = d) : 0 < (sPass N d).1 := by
  have hY := inY h.1
  have hR := inY_R hY
  obtain ⟨b0, b1, b2, b3, b4, b5, b6, b7, b8, b9⟩ := inY_b hY
  obtain ⟨hC, hG, hE, hZ, hS, hP⟩ := h.2
  have hbo := nxt_or N (-1) (-1)
  unfold qRunsOut at hr
  have hn : ¬ nxt N (-1) (-1) < 0 := fun q => by
    rw [if_pos q] at hr
    omega
  rw [if_neg hn] at hr
  rw [pass_eq h (by omega) h5]
  have en : nxt (uZ N 1 (N 1 + d)) (-1) (-1) = nxt N (-1) (-1) := nxt_uZ b6 (Or.inl rfl) (by omega)
  have pY := y_one (i := 1) (v := N 1 + d) hY (by omega) (by omega) (by omega) (by omega) (by omega) (by omega) (by omega)
  have pG : GM (uZ N 1 (N 1 + d)) := gm_eq b6.2 hG fun k hk => uZ_ne (by omega)
  have pC : EC (uZ N 1 (N 1 + d)) := ec_eq b6.2 hC fun k hk => uZ_ne (by omega)
  have hp := isNx_pos (nxt_is N (-1) (-1)) (by omega)
  have hf := hR.2 (nxt N (-1) (-1)) (by omega) (by omega)
  have hc : ¬ (nxt (uZ N 1 (N 1 + d)) (-1) (-1) < 0 ∨ uZ N 1 (N 1 + d) 1 ≤ uZ N 1 (N 1 + d) (392 + nxt (uZ N 1 (N 1 + d)) (-1) (-1))) := by
    rw [en, uZ_eq, uZ_ne (by omega)]
    omega
  have p6 : uZ N 1 (N 1 + d) 6 = N 6 := uZ_ne (by omega)
  obtain ⟨j1, -⟩ := y_run pY (b := nxt (uZ N 1 (N 1 + d)) (-1) (-1)) (by rw [en, p6]; omega)
  obtain ⟨k1, k2, k3⟩ := run_gm pY (b := nxt (uZ N 1 (N 1 + d)) (-1) (-1)) (by rw [en, p6]; omega) pG pC
  obtain ⟨-, -, -, i4⟩ := roF_gm 60 j1 k1 k2
  rw [roF_s hc]
  dsimp only
  have e1 : uZ N 1 (N 1 + d) (272 + nxt (uZ N 1 (N 1 + d)) (-1) (-1)) = N (272 + nxt N (-1) (-1)) := by rw [en, uZ_ne (by omega)]
  have e2 : uZ N 1 (N 1 + d) (332 + nxt (uZ N 1 (N 1 + d)) (-1) (-1)) = N (332 + nxt N (-1) (-1)) := by rw [en, uZ_ne (by omega)]
  have hm : 0 < N (272 + nxt N (-1) (-1)) * N (332 + nxt N (-1) (-1)) := Int.mul_pos hp (by omega)
  rw [← e1, ← e2] at hm
  omega
theorem worA_mono {N : Int → Int} {g a m : Int} (h : InX N) (hg : 0 ≤ g ∧ g < 8) (ha : 0 ≤ a ∧ a ≤ m) (hm : m ≤ restF N g) : worA N g a ≤ worA N g m := by
  have hR := inY_R (inY h.1)
  rw [worA_rel (r := 3) hR hg (by omega) ha.1 (by omega), worA_rel (r := 3) hR hg (by omega) (by omega) hm]
  have r0 := relF_all m.toNat (r := 3) hR hg (by omega) ha.1 (by omega) (show a ≤ restF N g by omega)
  have g0 := relF_gm m.toNat (r := 3) hR hg (by omega) ha.1 (by omega) (show a ≤ restF N g by omega) h.2.2.1
  have g1 := relF_gm m.toNat (r := 3) (u := m - a) r0.1 hg (by omega) (by omega) (by omega) (by rw [r0.2.2.1]; omega) g0.1
  have e := relF_add m.toNat (a := a) (b := m - a) (r := 3) hR hg (by omega) ha.1 (by omega) (by omega) (by omega)
  rw [show a + (m - a) = m by omega] at e
  rw [e, relF_fuel a.toNat m.toNat hR hg (by omega) ha.1 (by omega) (by omega) (by omega)]
  omega
theorem due_le_pay {N : Int → Int} {l : Int} (h : InX N) (hl : 0 ≤ l ∧ l < N 4) : dueF N l ≤ payF N := by
  have hY := inY h.1
  obtain ⟨b0, b1, b2, b3, b4, b5, b6, b7, b8, b9⟩ := inY_b hY
  have h1 : sumZ (fun g => worA N g (N (64 + 8 * l + g))) (N 5).toNat ≤ sumZ (fun g => worA N g (sumZ (fun k => N (64 + 8 * k + g)) 5)) (N 5).toNat := sumZ_le _ fun g a b => by
    have m := miss_le hY (l := l) (g := g) (by omega) (by omega)
    exact worA_mono h (by omega) ⟨m.1, m.2.1⟩ m.2.2.2.2.1
  have h2 : finF N l ≤ cntF N 2 * N 2 := by
    have hc := cntF_in (N := N) 2 b4.1
    unfold finF
    split
    · rename_i e
      have h3 : (1 : Int) ≤ cntF N 2 := by
        have := sumZ_ge (f := fun k => if N (14 + k) = 2 then (1 : Int) else 0) (i := l) (N 4).toNat (fun k a b => by split <;> omega) hl.1 (by omega)
        rw [if_pos e] at this
        exact this
      have := Int.mul_le_mul_of_nonneg_right h3 b2.1
      omega
    · exact Int.mul_nonneg hc.1 b2.1
  unfold dueF payF
  omega
theorem inspect_does {N : Int → Int} {l : Int} (h : InX N) (hl : 0 ≤ l ∧ l < N 4) (h0 : N 0 = 2) (h7 : N 7 + 1 ≤ 200) (hp : payF N ≤ 2147483647) : sInspect N l = (dueF N l, (sInspect N l).2) ∧ 0 ≤ dueF N l ∧ dueF N l ≤ 2147483647 := by
  have b4 := h.1.1.2.2.2.2.1
  have hd := due_in h (l := l) (by omega)
  have hq := due_le_pay h hl
  refine ⟨?_, by omega, by omega⟩
  have hc : lI (dueF N l) ≤ lI 2147483647 := (lI_le (by omega)).mpr (by omega)
  unfold sInspect
  rw [if_neg (by omega), if_neg (by omega), if_neg fun q => q.elim (fun x => x h7) (fun x => x hc)]
/-- so many undos lead back to N -/
def BK (N : Int → Int) : Nat → (Int → Int) → List (Int → Int) → Prop
  | 0, M, _ => N = M
  | k + 1, _, st => ∃ (S : Int → Int) (st2 : List (Int → Int)), st = S :: st2 ∧ BK N k S st2
theorem BK_take {N : Int → Int} : ∀ (k j : Nat) {M : Int → Int} {st : List (Int → Int)}, BK N k M st → k ≤ j → BK N k M (st.take j)
  | 0, j, M, st, h, _ => h
  | k + 1, 0, M, st, h, hj => by omega
  | k + 1, j + 1, M, st, ⟨S, st2, h1, h2⟩, hj => by
    subst h1
    exact ⟨S, st2.take j, rfl, BK_take k j h2 (by omega)⟩
theorem BK_step {N M M2 : Int → Int} {st : List (Int → Int)} {i : Int} (h : BK N i.toNat M st) (hi : 0 ≤ i ∧ i ≤ 3) : BK N (i + 1).toNat M2 ((M :: st).take 4) := by
  rw [show (i + 1).toNat = i.toNat + 1 by omega]
  exact ⟨M, st.take 3, rfl, BK_take _ 3 h (by omega)⟩
theorem BK_back {N M : Int → Int} {st : List (Int → Int)} {j : Int} (h : BK N j.toNat M st) (hj : 0 < j) : ∃ (S : Int → Int) (st2 : List (Int → Int)), st = S :: st2 ∧ BK N (j - 1).toNat S st2 := by
  rw [show j.toNat = (j - 1).toNat + 1 by omega] at h
  exact h
