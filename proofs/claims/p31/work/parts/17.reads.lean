def qLockerOf (N : Int → Int) (l w : Int) : Int := if ¬ (0 ≤ l ∧ l < N 4) ∨ ¬ (0 ≤ w ∧ w ≤ 11) ∨ (w < 8 ∧ ¬ (0 ≤ w ∧ w < N 5)) then -1 else if w = 8 then N (14 + l) else if w = 9 then (if N (14 + l) = 1 then N (19 + l) else -4) else if w = 10 then sumZ (fun k => N (24 + 8 * l + k)) 8 else if w = 11 then sumZ (fun k => N (64 + 8 * l + k)) 8 else N (24 + 8 * l + w)
def qMissing (N : Int → Int) (l g : Int) : Int := if (0 ≤ l ∧ l < N 4) ∧ (0 ≤ g ∧ g < N 5) then N (64 + 8 * l + g) else -1
def qSeal (N : Int → Int) (x w : Int) : Int := if ¬ ((1 ≤ x ∧ x ≤ N 7) ∧ (0 ≤ w ∧ w ≤ 2)) then -1 else if w = 0 then N (452 + x) else if w = 1 then N (653 + x) else N (854 + x)
def qBond (N : Int → Int) (b w : Int) : Int := if ¬ ((0 ≤ b ∧ b < N 6) ∧ (0 ≤ w ∧ w ≤ 5)) then -1 else if w = 0 then N (152 + b) else if w = 1 then N (212 + b) else if w = 2 then N (272 + b) else if w = 3 then N (332 + b) else if w = 4 then N (272 + b) * N (332 + b) else N (392 + b)
noncomputable def qNextBond (N : Int → Int) (g : Int) : Int := if 0 ≤ g ∧ g < N 5 then nxt N g (-1) else -1
def qAccount (N : Int → Int) (g w : Int) : Int := if ¬ ((0 ≤ g ∧ g < N 5) ∧ (0 ≤ w ∧ w ≤ 6)) then -1 else if w = 0 then N (112 + g) else if w = 1 then sumZ (fun k => N (24 + 8 * k + g)) 5 else if w = 2 then sumZ (fun k => N (64 + 8 * k + g)) 5 else N (117 + 4 * g + w)
def heldF (N : Int → Int) : Int := sumZ (fun b => N (272 + b) * N (332 + b)) (N 6).toNat
def qCents (N : Int → Int) (w : Int) : Int := if ¬ (0 ≤ w ∧ w ≤ 6) then -1 else if w = 1 then heldF N else if w = 0 then N 9 else if w = 6 then N 8 else N (8 + w)
def qCount (N : Int → Int) (sm lt w : Int) : Int := if w = 0 then N 4 else if w = 1 then N 5 else if w = 2 then N 6 else if w = 3 then livF N else if w = 4 then N 7 else if w = 5 then N 0 else if w = 6 then N 1 else if w = 7 then cntF N 1 else if w = 8 then cntF N 2 else if w = 9 then sm else if w = 10 then lt else if w = 20 then N 2 else if w = 21 then N 3 else -1
noncomputable def qWorth (N : Int → Int) (g u : Int) : Int := if ¬ ((0 ≤ g ∧ g < N 5) ∧ (1 ≤ u ∧ u ≤ 99999)) then -1 else if worA N g u < 0 then -4 else worA N g u
noncomputable def payF (N : Int → Int) : Int := cntF N 2 * N 2 + sumZ (fun g => worA N g (sumZ (fun k => N (64 + 8 * k + g)) 5)) (N 5).toNat
noncomputable def qToPay (N : Int → Int) : Int := if lI (payF N) ≤ lI 2147483647 then payF N else -3
noncomputable def qRunsOut (N : Int → Int) : Int := if nxt N (-1) (-1) < 0 then -4 else N (392 + nxt N (-1) (-1)) + 1 - N 1
theorem worF_in : ∀ (n : Nat) {N : Int → Int} {g p u : Int}, InR N → 0 ≤ u → 0 ≤ (worF n N g p u).1 ∧ (worF n N g p u).1 ≤ u * 1000000 ∧ 0 ≤ (worF n N g p u).2 ∧ (worF n N g p u).2 ≤ u
  | 0, N, g, p, u, hR, hu => by
    show 0 ≤ (0 : Int) ∧ (0 : Int) ≤ u * 1000000 ∧ 0 ≤ u ∧ u ≤ u
    omega
  | n + 1, N, g, p, u, hR, hu => by
    by_cases h1 : u ≤ 0 ∨ nxt N g p < 0
    · rw [worF_0 h1]
      show 0 ≤ (0 : Int) ∧ (0 : Int) ≤ u * 1000000 ∧ 0 ≤ u ∧ u ≤ u
      omega
    · have h2 := nxt_or N g p
      have hf := hR.2 (nxt N g p) (by omega) (by omega)
      have hp := isNx_pos (nxt_is N g p) (by omega)
      have hby := byF_in (N := N) (g := g) (p := p) (u := u) (by omega) hp
      obtain ⟨i1, i2, i3, i4⟩ := worF_in n (g := g) (p := nxt N g p) (u := u - byF N g p u) hR (by omega)
      rw [worF_s (by omega) (by omega)]
      have h3 : 0 ≤ byF N g p u * N (332 + nxt N g p) := Int.mul_nonneg (by omega) (by omega)
      have h4 : byF N g p u * N (332 + nxt N g p) ≤ byF N g p u * 1000000 := Int.mul_le_mul_of_nonneg_left (by omega) (by omega)
      refine ⟨?_, ?_, ?_, ?_⟩
      · show 0 ≤ byF N g p u * N (332 + nxt N g p) + (worF n N g (nxt N g p) (u - byF N g p u)).1
        omega
      · show byF N g p u * N (332 + nxt N g p) + (worF n N g (nxt N g p) (u - byF N g p u)).1 ≤ u * 1000000
        omega
      · exact i3
      · show (worF n N g (nxt N g p) (u - byF N g p u)).2 ≤ u
        omega
theorem worA_in {N : Int → Int} {g u : Int} (hR : InR N) (hu : 0 ≤ u) : -1 ≤ worA N g u ∧ worA N g u ≤ u * 1000000 := by
  have h := worF_in u.toNat (g := g) (p := -1) (u := u) hR hu
  unfold worA
  split <;> omega
theorem miss_in {N : Int → Int} {g : Int} (hI : Inv N) (hg : 0 ≤ g ∧ g < 8) : 0 ≤ sumZ (fun k => N (64 + 8 * k + g)) 5 ∧ sumZ (fun k => N (64 + 8 * k + g)) 5 ≤ 600000 := by
  have h1 := has_rest hI (l := 0) (g := g) (by omega) hg
  have h2 := rest_max (N := N) ⟨hI.1, hI.2.2.2.1⟩ g
  have h3 : 0 ≤ sumZ (fun k => N (64 + 8 * k + g)) 5 := sumZ_nonneg (f := fun k => N (64 + 8 * k + g)) 5 fun k a b => (hI.2.2.1 k g a (by omega) hg.1 hg.2).2.1.1
  have h4 : missF N g = sumZ (fun k => N (64 + 8 * k + g)) 5 := rfl
  omega
