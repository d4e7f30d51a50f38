/-- units of a good are taken from the lockers 0 .. n-1, in cells from b on -/
def loS (b : Int) : Nat → (Int → Int) → Int → Int → (Int → Int) × Int
  | 0, N, _, u => (N, u)
  | n + 1, N, g, u => (uZ (loS b n N g u).1 (b + 8 * (n : Int) + g) ((loS b n N g u).1 (b + 8 * (n : Int) + g) - minF (loS b n N g u).2 ((loS b n N g u).1 (b + 8 * (n : Int) + g))), (loS b n N g u).2 - minF (loS b n N g u).2 ((loS b n N g u).1 (b + 8 * (n : Int) + g)))
theorem loS_s {b : Int} {N : Int → Int} {g u i : Int} (h : 0 ≤ i) : loS b (i + 1).toNat N g u = (uZ (loS b i.toNat N g u).1 (b + 8 * i + g) ((loS b i.toNat N g u).1 (b + 8 * i + g) - minF (loS b i.toNat N g u).2 ((loS b i.toNat N g u).1 (b + 8 * i + g))), (loS b i.toNat N g u).2 - minF (loS b i.toNat N g u).2 ((loS b i.toNat N g u).1 (b + 8 * i + g))) := by
  rw [show (i + 1).toNat = i.toNat + 1 by omega]
  show (uZ (loS b i.toNat N g u).1 (b + 8 * ((i.toNat : Nat) : Int) + g) ((loS b i.toNat N g u).1 (b + 8 * ((i.toNat : Nat) : Int) + g) - minF (loS b i.toNat N g u).2 ((loS b i.toNat N g u).1 (b + 8 * ((i.toNat : Nat) : Int) + g))), (loS b i.toNat N g u).2 - minF (loS b i.toNat N g u).2 ((loS b i.toNat N g u).1 (b + 8 * ((i.toNat : Nat) : Int) + g))) = _
  rw [Int.toNat_of_nonneg h]
theorem minF_nn {a b : Int} (ha : 0 ≤ a) (hb : 0 ≤ b) : 0 ≤ minF a b ∧ minF a b ≤ a ∧ minF a b ≤ b := by
  unfold minF
  split <;> omega
theorem loS_ne {b : Int} : ∀ (n : Nat) {N : Int → Int} {g u k : Int}, (∀ j : Int, 0 ≤ j → j < (n : Int) → k ≠ b + 8 * j + g) → (loS b n N g u).1 k = N k
  | 0, N, g, u, k, _ => rfl
  | n + 1, N, g, u, k, h => by
    show uZ (loS b n N g u).1 (b + 8 * (n : Int) + g) _ k = N k
    rw [uZ_ne (h (n : Int) (by omega) (by omega)), loS_ne n fun j h1 h2 => h j h1 (by omega)]
theorem loS_nn {b : Int} : ∀ (n : Nat) {N : Int → Int} {g u : Int}, 0 ≤ u → (∀ j : Int, 0 ≤ j → j < (n : Int) → 0 ≤ N (b + 8 * j + g)) → 0 ≤ (loS b n N g u).2
  | 0, N, g, u, hu, _ => hu
  | n + 1, N, g, u, hu, h => by
    have h1 := loS_nn n hu fun j a c => h j a (by omega)
    have h2 : (loS b n N g u).1 (b + 8 * (n : Int) + g) = N (b + 8 * (n : Int) + g) := loS_ne n fun j a c => by omega
    have h3 := minF_nn h1 (h (n : Int) (by omega) (by omega))
    show 0 ≤ (loS b n N g u).2 - minF (loS b n N g u).2 ((loS b n N g u).1 (b + 8 * (n : Int) + g))
    rw [h2]
    omega
/-- lockers that there are not have nothing -/
theorem loS_pad {b : Int} {n : Nat} : ∀ (m : Nat) {N : Int → Int} {g u : Int}, n ≤ m → 0 ≤ u → (∀ j : Int, 0 ≤ j → j < (m : Int) → 0 ≤ N (b + 8 * j + g)) → (∀ j : Int, (n : Int) ≤ j → j < (m : Int) → N (b + 8 * j + g) = 0) → loS b m N g u = loS b n N g u
  | 0, N, g, u, h, _, _, _ => by rw [show n = 0 by omega]
  | m + 1, N, g, u, h, hu, hp, hz => by
    by_cases e : n = m + 1
    · rw [e]
    · have ih := loS_pad m (N := N) (g := g) (u := u) (by omega) hu (fun j a c => hp j a (by omega)) fun j a c => hz j a (by omega)
      have h2 : (loS b m N g u).1 (b + 8 * (m : Int) + g) = 0 := by
        rw [loS_ne m fun j a c => by omega]
        exact hz (m : Int) (by omega) (by omega)
      have h3 := loS_nn m (N := N) (g := g) hu fun j a c => hp j a (by omega)
      have h4 : minF (loS b m N g u).2 0 = 0 := by
        unfold minF
        split <;> omega
      show (uZ (loS b m N g u).1 (b + 8 * (m : Int) + g) ((loS b m N g u).1 (b + 8 * (m : Int) + g) - minF (loS b m N g u).2 ((loS b m N g u).1 (b + 8 * (m : Int) + g))), (loS b m N g u).2 - minF (loS b m N g u).2 ((loS b m N g u).1 (b + 8 * (m : Int) + g))) = _
      rw [h2, h4, uZ_id (by rw [h2]; rfl), Int.sub_zero, ← ih]
theorem losF_5 {N : Int → Int} {g u : Int} : ∀ (n : Nat), n ≤ 5 → losF n N g u = loS 64 n N g u
  | 0, _ => rfl
  | n + 1, h => by
    have e : atF (n : Int) g = 64 + 8 * (n : Int) + g := by
      unfold atF
      rw [if_pos (by omega)]
    show (uZ (losF n N g u).1 (atF (n : Int) g) _, _) = (uZ (loS 64 n N g u).1 (64 + 8 * (n : Int) + g) _, _)
    rw [losF_5 n (by omega), e]
theorem losF_10 {N : Int → Int} {g u : Int} : ∀ (n : Nat), losF (5 + n) N g u = loS 24 n (losF 5 N g u).1 g (losF 5 N g u).2
  | 0 => rfl
  | n + 1 => by
    have e : atF ((5 + n : Nat) : Int) g = 24 + 8 * (n : Int) + g := by
      unfold atF
      rw [if_neg (by omega)]
      omega
    show (uZ (losF (5 + n) N g u).1 (atF ((5 + n : Nat) : Int) g) ((losF (5 + n) N g u).1 (atF ((5 + n : Nat) : Int) g) - minF (losF (5 + n) N g u).2 ((losF (5 + n) N g u).1 (atF ((5 + n : Nat) : Int) g))), (losF (5 + n) N g u).2 - minF (losF (5 + n) N g u).2 ((losF (5 + n) N g u).1 (atF ((5 + n : Nat) : Int) g))) = _
    rw [losF_10 n, e]
    rfl
theorem losF_cls {N : Int → Int} {g u : Int} (hK : InK N) (h4 : 0 ≤ N 4 ∧ N 4 ≤ 5) (hg : 0 ≤ g ∧ g < 8) (hu : 0 ≤ u) (hz : ∀ l : Int, N 4 ≤ l → l < 5 → N (64 + 8 * l + g) = 0 ∧ N (24 + 8 * l + g) = 0) : losF 10 N g u = loS 24 (N 4).toNat (loS 64 (N 4).toNat N g u).1 g (loS 64 (N 4).toNat N g u).2 := by
  have e5 : loS 64 5 N g u = loS 64 (N 4).toNat N g u := loS_pad 5 (by omega) hu (fun j a b => (hK j g a (by omega) hg.1 hg.2).2.1) fun j a b => (hz j (by omega) (by omega)).1
  have hn : ∀ k : Int, 24 ≤ k → k < 64 → (loS 64 (N 4).toNat N g u).1 k = N k := fun k a b => loS_ne _ fun j c d => by omega
  have h0 := loS_nn (b := 64) (N 4).toNat (N := N) (g := g) hu fun j a b => (hK j g a (by omega) hg.1 hg.2).2.1
  show losF (5 + 5) N g u = _
  rw [losF_10 5, losF_5 5 (by omega), e5]
  exact loS_pad 5 (by omega) h0 (fun j a b => by rw [hn _ (by omega) (by omega)]; exact (hK j g a (by omega) hg.1 hg.2).1.1) fun j a b => by rw [hn _ (by omega) (by omega)]; exact (hz j (by omega) (by omega)).2
theorem losF_uZ : ∀ (n : Nat) {N : Int → Int} {g u v : Int}, n ≤ 10 → 0 ≤ g ∧ g < 8 → losF n (uZ N 1 v) g u = (uZ (losF n N g u).1 1 v, (losF n N g u).2)
  | 0, N, g, u, v, _, _ => rfl
  | n + 1, N, g, u, v, hn, hg => by
    have ha := atF_in (k := (n : Int)) (by omega) hg
    have ih := losF_uZ n (N := N) (u := u) (v := v) (by omega) hg
    have e : uZ (losF n N g u).1 1 v (atF (n : Int) g) = (losF n N g u).1 (atF (n : Int) g) := uZ_ne (by omega)
    show (uZ (losF n (uZ N 1 v) g u).1 (atF (n : Int) g) ((losF n (uZ N 1 v) g u).1 (atF (n : Int) g) - minF (losF n (uZ N 1 v) g u).2 ((losF n (uZ N 1 v) g u).1 (atF (n : Int) g))), (losF n (uZ N 1 v) g u).2 - minF (losF n (uZ N 1 v) g u).2 ((losF n (uZ N 1 v) g u).1 (atF (n : Int) g))) = (uZ (uZ (losF n N g u).1 (atF (n : Int) g) ((losF n N g u).1 (atF (n : Int) g) - minF (losF n N g u).2 ((losF n N g u).1 (atF (n : Int) g)))) 1 v, (losF n N g u).2 - minF (losF n N g u).2 ((losF n N g u).1 (atF (n : Int) g)))
    rw [ih]
    dsimp only
    rw [e]
    refine congrArg (fun q => (q, _)) ?_
    funext k
    by_cases hk1 : k = atF (n : Int) g
    · rw [hk1]
      exact (uZ_eq).trans ((uZ_ne (by omega)).trans (uZ_eq)).symm
    by_cases hk2 : k = 1
    · rw [hk2]
      exact ((uZ_ne (by omega)).trans (uZ_eq)).trans (uZ_eq).symm
    exact ((uZ_ne (by omega)).trans (uZ_ne (by omega))).trans ((uZ_ne (by omega)).trans (uZ_ne (by omega))).symm
/-- the bond that is due first runs out -/
noncomputable def stpF (N : Int → Int) : Int → Int := (losF 10 (takeF N (nxt N (-1) (-1)) (N (272 + nxt N (-1) (-1))) 3) (N (152 + nxt N (-1) (-1))) (N (272 + nxt N (-1) (-1)))).1
noncomputable def amtF (N : Int → Int) : Int := N (272 + nxt N (-1) (-1)) * N (332 + nxt N (-1) (-1))
noncomputable def roD : Nat → Int → (Int → Int) → (Int → Int) × Int
  | 0, _, N => (N, 0)
  | n + 1, D, N => if nxt N (-1) (-1) < 0 ∨ D ≤ N (392 + nxt N (-1) (-1)) then (N, 0) else ((roD n D (stpF N)).1, amtF N + (roD n D (stpF N)).2)
theorem roD_0 {n : Nat} {D : Int} {N : Int → Int} (h : nxt N (-1) (-1) < 0 ∨ D ≤ N (392 + nxt N (-1) (-1))) : roD n D N = (N, 0) := by
  cases n with
  | zero => rfl
  | succ n => exact if_pos h
theorem roD_s {n : Nat} {D : Int} {N : Int → Int} (h : ¬ (nxt N (-1) (-1) < 0 ∨ D ≤ N (392 + nxt N (-1) (-1)))) : roD (n + 1) D N = ((roD n D (stpF N)).1, amtF N + (roD n D (stpF N)).2) := if_neg h
/-- what a step keeps -/
theorem stp_f {N : Int → Int} (hR : InR N) (h : ¬ nxt N (-1) (-1) < 0) : InR (stpF N) ∧ stpF N 1 = N 1 ∧ livF (stpF N) = livF N - 1 := by
  have hbo := nxt_or N (-1) (-1)
  have hf := hR.2 (nxt N (-1) (-1)) (by omega) (by omega)
  have hp := isNx_pos (nxt_is N (-1) (-1)) (by omega)
  have h0 := hR.1
  obtain ⟨b0, b1, b2, b3, b4, b5, b6, b7, b8, b9⟩ := h0
  have hT := takeF_R (u := N (272 + nxt N (-1) (-1))) (r := 3) hR (b := nxt N (-1) (-1)) (by omega) (by omega) (by omega)
  refine ⟨losF_R hT (by omega), ?_, ?_⟩
  · show (losF 10 _ _ _).1 1 = N 1
    rw [losF_ne 10 (by omega) (by omega) (by omega), takeF_ne (by omega) (by omega) (by omega)]
  · show livF (losF 10 _ _ _).1 = livF N - 1
    rw [livF_eq (losF_ne 10 (by omega) (by omega) (by omega)) (fun b h1 h2 => losF_ne 10 (by omega) (by omega) (by omega)), livF_take hR (by omega) (by omega) (by omega)]
theorem roF_roD : ∀ (n : Nat) {N : Int → Int}, InR N → roF n N = roD n (N 1) N
  | 0, N, _ => rfl
  | n + 1, N, hR => by
    by_cases h : nxt N (-1) (-1) < 0 ∨ N 1 ≤ N (392 + nxt N (-1) (-1))
    · rw [roF_0 h, roD_0 h]
    · obtain ⟨h1, h2, -⟩ := stp_f hR (by omega)
      have e := roF_roD n h1
      rw [h2] at e
      rw [roF_s h, roD_s h, ← e]
      rfl
theorem stp_uZ {N : Int → Int} {D : Int} (hR : InR N) (h : ¬ nxt N (-1) (-1) < 0) : stpF (uZ N 1 D) = uZ (stpF N) 1 D ∧ amtF (uZ N 1 D) = amtF N := by
  have hbo := nxt_or N (-1) (-1)
  have hf := hR.2 (nxt N (-1) (-1)) (by omega) (by omega)
  have h0 := hR.1
  obtain ⟨b0, b1, b2, b3, b4, b5, b6, b7, b8, b9⟩ := h0
  have en : nxt (uZ N 1 D) (-1) (-1) = nxt N (-1) (-1) := nxt_uZ b6 (Or.inl rfl) (by omega)
  unfold stpF amtF
  rw [en, show uZ N 1 D (272 + nxt N (-1) (-1)) = N (272 + nxt N (-1) (-1)) from uZ_ne (by omega), show uZ N 1 D (332 + nxt N (-1) (-1)) = N (332 + nxt N (-1) (-1)) from uZ_ne (by omega), show uZ N 1 D (152 + nxt N (-1) (-1)) = N (152 + nxt N (-1) (-1)) from uZ_ne (by omega), takeF_uZ (by omega) (by omega) (by omega) (by omega), losF_uZ 10 (by omega) (by omega)]
  exact ⟨rfl, rfl⟩
theorem roD_uZ : ∀ (n : Nat) {N : Int → Int} {D E : Int}, InR N → roD n D (uZ N 1 E) = (uZ (roD n D N).1 1 E, (roD n D N).2)
  | 0, N, D, E, _ => rfl
  | n + 1, N, D, E, hR => by
    have hbo := nxt_or N (-1) (-1)
    have h6 := hR.1.2.2.2.2.2.2.1
    have en : nxt (uZ N 1 E) (-1) (-1) = nxt N (-1) (-1) := nxt_uZ h6 (Or.inl rfl) (by omega)
    by_cases h : nxt N (-1) (-1) < 0 ∨ D ≤ N (392 + nxt N (-1) (-1))
    · rw [roD_0 h, roD_0 (by rw [en]; rcases h with h | h; exact Or.inl h; exact Or.inr (by rw [uZ_ne (by omega)]; exact h))]
    · obtain ⟨h1, -, -⟩ := stp_f hR (by omega)
      obtain ⟨s1, s2⟩ := stp_uZ (D := E) hR (by omega)
      rw [roD_s h, roD_s (by rw [en, uZ_ne (by omega)]; exact h), s1, s2, roD_uZ n h1]
theorem roD_fuel : ∀ (n m : Nat) {N : Int → Int} {D : Int}, InR N → livF N < (n : Int) → livF N < (m : Int) → roD n D N = roD m D N
  | 0, m, N, D, hR, hn, _ => by
    have := (livF_in (N := N) hR.1.2.2.2.2.2.2.1.1).1
    omega
  | n + 1, 0, N, D, hR, _, hm => by
    have := (livF_in (N := N) hR.1.2.2.2.2.2.2.1.1).1
    omega
  | n + 1, m + 1, N, D, hR, hn, hm => by
    by_cases h : nxt N (-1) (-1) < 0 ∨ D ≤ N (392 + nxt N (-1) (-1))
    · rw [roD_0 h, roD_0 h]
    · obtain ⟨h1, -, h3⟩ := stp_f hR (by omega)
      rw [roD_s h, roD_s h, roD_fuel n m h1 (by omega) (by omega)]
/-- running out up to a day, then up to a later one, is running out up to the later one -/
theorem roD_two : ∀ (n : Nat) {N : Int → Int} {D E : Int}, InR N → D ≤ E → livF N < (n : Int) → n ≤ 61 → InR (roD n D N).1 ∧ livF (roD n D N).1 ≤ livF N ∧ roD 61 E N = ((roD 61 E (roD n D N).1).1, (roD n D N).2 + (roD 61 E (roD n D N).1).2)
  | 0, N, D, E, hR, hDE, hn, _ => by
    have := (livF_in (N := N) hR.1.2.2.2.2.2.2.1.1).1
    omega
  | n + 1, N, D, E, hR, hDE, hn, h61 => by
    by_cases h : nxt N (-1) (-1) < 0 ∨ D ≤ N (392 + nxt N (-1) (-1))
    · rw [roD_0 h]
      refine ⟨hR, Int.le_refl _, ?_⟩
      dsimp only
      rw [Int.zero_add]
    · obtain ⟨h1, -, h3⟩ := stp_f hR (by omega)
      obtain ⟨i1, i2, i3⟩ := roD_two n (N := stpF N) h1 hDE (by omega) (by omega)
      have hl := livF_in (N := N) hR.1.2.2.2.2.2.2.1.1
      have e1 : roD 61 E N = ((roD 60 E (stpF N)).1, amtF N + (roD 60 E (stpF N)).2) := roD_s (n := 60) (by omega)
      have e2 : roD 60 E (stpF N) = roD 61 E (stpF N) := roD_fuel 60 61 h1 (by have := hR.1.2.2.2.2.2.2.1.2; omega) (by have := hR.1.2.2.2.2.2.2.1.2; omega)
      rw [roD_s h]
      refine ⟨i1, by dsimp only; omega, ?_⟩
      rw [e1, e2, i3]
      dsimp only
      rw [Int.add_assoc]
theorem dayF_roD {N : Int → Int} (hR : InR N) : ∀ (d : Nat), 1 ≤ d → N 1 + (d : Int) ≤ 5000 → dayF d N = (uZ (roD 61 (N 1 + (d : Int)) N).1 1 (N 1 + (d : Int)), (roD 61 (N 1 + (d : Int)) N).2)
  | 0, h, _ => by omega
  | d + 1, _, h5 => by
    have h0 := hR.1
    obtain ⟨b0, b1, b2, b3, b4, b5, b6, b7, b8, b9⟩ := h0
    have hl := livF_in (N := N) b6.1
    have e5 : N 1 + ((d + 1 : Nat) : Int) = N 1 + (d : Int) + 1 := by omega
    rw [e5]
    show ((roF 61 (uZ (dayF d N).1 1 ((dayF d N).1 1 + 1))).1, (dayF d N).2 + (roF 61 (uZ (dayF d N).1 1 ((dayF d N).1 1 + 1))).2) = _
    by_cases hd : d = 0
    · subst hd
      show ((roF 61 (uZ N 1 (N 1 + 1))).1, 0 + (roF 61 (uZ N 1 (N 1 + 1))).2) = _
      rw [roF_roD 61 (inR_day hR (by omega)), uZ_eq, roD_uZ 61 hR, Int.zero_add]
      rw [show N 1 + ((0 : Nat) : Int) + 1 = N 1 + 1 by omega]
    · have ih := dayF_roD hR d (by omega) (by omega)
      obtain ⟨i1, i2, i3⟩ := roD_two 61 (N := N) (D := N 1 + (d : Int)) (E := N 1 + (d : Int) + 1) hR (by omega) (by omega) (by omega)
      rw [ih]
      dsimp only
      rw [uZ_eq, uZ_uZ, roF_roD 61 (inR_day i1 (by omega)), uZ_eq, roD_uZ 61 i1, i3]
theorem dayF_one {N : Int → Int} {d : Int} (hR : InR N) (hd : 1 ≤ d) (h5 : N 1 + d ≤ 5000) : dayF d.toNat N = roF 61 (uZ N 1 (N 1 + d)) := by
  have h0 := hR.1
  obtain ⟨b0, b1, b2, b3, b4, b5, b6, b7, b8, b9⟩ := h0
  have e := dayF_roD hR d.toNat (by omega) (by omega)
  rw [show ((d.toNat : Nat) : Int) = d by omega] at e
  rw [e, roF_roD 61 (inR_day hR (by omega)), uZ_eq, roD_uZ 61 hR]
