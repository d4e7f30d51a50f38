theorem takeF_uZ {N : Int → Int} {b u r i v : Int} (hb : 0 ≤ b ∧ b < 60) (hr : 0 ≤ r ∧ r < 4) (ho : 0 ≤ N (152 + b) ∧ N (152 + b) < 8) (hi : i < 10 ∨ (14 ≤ i ∧ i < 120) ∨ 452 ≤ i) : takeF (uZ N i v) b u r = uZ (takeF N b u r) i v := by
  unfold takeF
  rw [show uZ N i v (272 + b) = N (272 + b) from uZ_ne (by omega), show uZ N i v (332 + b) = N (332 + b) from uZ_ne (by omega), show uZ N i v (10 + r) = N (10 + r) from uZ_ne (by omega), show uZ N i v (152 + b) = N (152 + b) from uZ_ne (by omega), show uZ N i v (120 + 4 * N (152 + b) + r) = N (120 + 4 * N (152 + b) + r) from uZ_ne (by omega)]
  funext k
  by_cases hk1 : k = 120 + 4 * N (152 + b) + r
  · rw [hk1]
    exact (uZ_eq).trans ((uZ_ne (by omega)).trans (uZ_eq)).symm
  by_cases hk2 : k = 10 + r
  · rw [hk2]
    exact ((uZ_ne (by omega)).trans (uZ_eq)).trans ((uZ_ne (by omega)).trans ((uZ_ne (by omega)).trans (uZ_eq))).symm
  by_cases hk3 : k = 272 + b
  · rw [hk3]
    exact ((uZ_ne (by omega)).trans ((uZ_ne (by omega)).trans (uZ_eq))).trans ((uZ_ne (by omega)).trans ((uZ_ne (by omega)).trans ((uZ_ne (by omega)).trans (uZ_eq)))).symm
  by_cases hk4 : k = i
  · rw [hk4]
    exact ((uZ_ne (by omega)).trans ((uZ_ne (by omega)).trans ((uZ_ne (by omega)).trans (uZ_eq)))).trans (uZ_eq).symm
  exact ((uZ_ne (by omega)).trans ((uZ_ne (by omega)).trans ((uZ_ne (by omega)).trans (uZ_ne (by omega))))).trans ((uZ_ne (by omega)).trans ((uZ_ne (by omega)).trans ((uZ_ne (by omega)).trans (uZ_ne (by omega))))).symm
theorem nxt_uZ {N : Int → Int} {g p i v : Int} (h6 : 0 ≤ N 6 ∧ N 6 ≤ 60) (hp : p = -1 ∨ (0 ≤ p ∧ p < N 6)) (hi : i < 6 ∨ (7 ≤ i ∧ i < 152) ∨ 452 ≤ i) : nxt (uZ N i v) g p = nxt N g p := nxt_cong (uZ_ne (by omega)) h6.2 hp fun k a b => ⟨uZ_ne (by omega), uZ_ne (by omega), uZ_ne (by omega)⟩
theorem relF_uZ : ∀ (n : Nat) {N : Int → Int} {g u r i v : Int}, InR N → 0 ≤ g ∧ g < 8 → 0 ≤ r ∧ r < 4 → 0 ≤ u → u ≤ (n : Int) → u ≤ restF N g → (14 ≤ i ∧ i < 120) ∨ 452 ≤ i → relF n (uZ N i v) g u r = (uZ (relF n N g u r).1 i v, (relF n N g u r).2)
  | 0, N, g, u, r, i, v, hR, hg, hr, h0, hn, hu, hi => by
    rw [relF_0 (by omega), relF_0 (by omega)]
  | n + 1, N, g, u, r, i, v, hR, hg, hr, h0, hn, hu, hi => by
    by_cases hu0 : u ≤ 0
    · rw [relF_0 hu0, relF_0 hu0]
    · have hb := nx_pos (by omega) (nxt_is N g (-1))
      have hf := hR.2 _ hb.1.1 hb.1.2
      have hbd := hR.1
      obtain ⟨b0, b1, b2, b3, b4, b5, b6, b7, b8, b9⟩ := hbd
      have hby := byF_in hu0 hb.2.1
      have hgd : N (152 + nxt N g (-1)) = g := by omega
      have h1 := takeF_R (u := byF N g (-1) u) (r := r) hR hb.1 (by omega) hr
      have h2 := takeF_rest (u := byF N g (-1) u) (r := r) hR hb.1 hr
      rw [hgd] at h2
      have en : nxt (uZ N i v) g (-1) = nxt N g (-1) := nxt_uZ b6 (Or.inl rfl) (by omega)
      have eb : byF (uZ N i v) g (-1) u = byF N g (-1) u := by
        unfold byF
        rw [en, show uZ N i v (272 + nxt N g (-1)) = N (272 + nxt N g (-1)) from uZ_ne (by omega)]
      rw [relF_s hu0, relF_s hu0, en, eb, show uZ N i v (332 + nxt N g (-1)) = N (332 + nxt N g (-1)) from uZ_ne (by omega), takeF_uZ (by omega) hr (by omega) (by omega), relF_uZ n h1 hg hr (by omega) (by omega) (by omega) hi]
def MsO (N : Int → Int) (l : Int) (n : Int) : Prop := ∀ g : Int, n ≤ g → g < 8 → 0 ≤ N (64 + 8 * l + g) ∧ N (64 + 8 * l + g) ≤ restF N g
theorem insF_n {n : Nat} {N : Int → Int} {l : Int} : insF (n + 1) N l = uZ (relF ((insF n N l) (64 + 8 * l + (n : Int))).toNat (insF n N l) (n : Int) ((insF n N l) (64 + 8 * l + (n : Int))) 3).1 (64 + 8 * l + (n : Int)) 0 := rfl
theorem insF_all : ∀ (n : Nat) {N : Int → Int} {l : Int}, n ≤ 8 → InR N → 0 ≤ l ∧ l < 5 → MsO N l 0 → InR (insF n N l) ∧ (∀ k, kpR k → (k < 64 ∨ 104 ≤ k) → insF n N l k = N k) ∧ (∀ k : Int, 64 ≤ k → k < 104 → (k < 64 + 8 * l ∨ 64 + 8 * l + (n : Int) ≤ k) → insF n N l k = N k) ∧ ∀ g : Int, (n : Int) ≤ g → g < 8 → restF (insF n N l) g = restF N g
  | 0, N, l, hn, hR, hl, hM => ⟨hR, fun k _ _ => rfl, fun k _ _ _ => rfl, fun g _ _ => rfl⟩
  | n + 1, N, l, hn, hR, hl, hM => by
    obtain ⟨i1, i2, i3, i4⟩ := insF_all n (by omega) hR hl hM
    have hm := hM (n : Int) (by omega) (by omega)
    have e1 : insF n N l (64 + 8 * l + (n : Int)) = N (64 + 8 * l + (n : Int)) := i3 _ (by omega) (by omega) (by omega)
    have e2 : restF (insF n N l) (n : Int) = restF N (n : Int) := i4 _ (by omega) (by omega)
    have hbd := i1.1
    obtain ⟨b0, b1, b2, b3, b4, b5, b6, b7, b8, b9⟩ := hbd
    have ra := relF_all (insF n N l (64 + 8 * l + (n : Int))).toNat (N := insF n N l) (g := (n : Int)) (u := insF n N l (64 + 8 * l + (n : Int))) (r := 3) i1 (by omega) (by omega) (by omega) (by omega) (by omega)
    rw [insF_n]
    refine ⟨inR_has ra.1 (by omega), fun k hk h2 => ?_, fun k h1 h2 h3 => ?_, fun g h1 h2 => ?_⟩
    · rw [uZ_ne (by omega), ra.2.1 k hk, i2 k hk h2]
    · have h3' : k < 64 + 8 * l ∨ 64 + 8 * l + (n : Int) + 1 ≤ k := by
        have : ((n + 1 : Nat) : Int) = (n : Int) + 1 := by omega
        omega
      rw [uZ_ne (by omega), ra.2.1 k (Or.inr (Or.inl (by omega))), i3 k h1 h2 (by omega)]
    · have h1' : (n : Int) + 1 ≤ g := by omega
      rw [rest_has g (by omega) (by rw [ra.2.1 6 (Or.inl (by omega))]; exact b6.2), ra.2.2.2 g (by omega), i4 g (by omega) h2]
theorem insF_uZ : ∀ (n : Nat) {N : Int → Int} {l i v : Int}, n ≤ 8 → InR N → 0 ≤ l ∧ l < 5 → MsO N l 0 → (14 ≤ i ∧ i < 64) ∨ 452 ≤ i → insF n (uZ N i v) l = uZ (insF n N l) i v
  | 0, N, l, i, v, _, _, _, _, _ => rfl
  | n + 1, N, l, i, v, hn, hR, hl, hM, hi => by
    obtain ⟨i1, i2, i3, i4⟩ := insF_all n (by omega) hR hl hM
    have hm := hM (n : Int) (by omega) (by omega)
    have e1 : insF n N l (64 + 8 * l + (n : Int)) = N (64 + 8 * l + (n : Int)) := i3 _ (by omega) (by omega) (by omega)
    have e2 : restF (insF n N l) (n : Int) = restF N (n : Int) := i4 _ (by omega) (by omega)
    rw [insF_n, insF_n, insF_uZ n (by omega) hR hl hM hi, show uZ (insF n N l) i v (64 + 8 * l + (n : Int)) = insF n N l (64 + 8 * l + (n : Int)) from uZ_ne (by omega), relF_uZ _ i1 (by omega) (by omega) (by omega) (by omega) (by omega) (by omega)]
    funext k
    by_cases hk1 : k = 64 + 8 * l + (n : Int)
    · rw [hk1]
      exact (uZ_eq).trans ((uZ_ne (by omega)).trans (uZ_eq)).symm
    by_cases hk2 : k = i
    · rw [hk2]
      exact ((uZ_ne (by omega)).trans (uZ_eq)).trans (uZ_eq).symm
    exact ((uZ_ne (by omega)).trans (uZ_ne (by omega))).trans ((uZ_ne (by omega)).trans (uZ_ne (by omega))).symm
theorem ins_off {n : Nat} {N : Int → Int} {l : Int} (hn : n ≤ 8) (hR : InR N) (hl : 0 ≤ l ∧ l < 5) (hM : MsO N l 0) (h9 : 0 ≤ N (19 + l)) : offF (insF n N l) l 2 = insF n (offF N l 2) l := by
  obtain ⟨i1, i2, i3, i4⟩ := insF_all n hn hR hl hM
  have e14 : insF n N l (14 + l) = N (14 + l) := i2 _ (Or.inr (Or.inl (by omega))) (by omega)
  have e19 : insF n N l (19 + l) = N (19 + l) := i2 _ (Or.inr (Or.inl (by omega))) (by omega)
  unfold offF
  rw [e14, e19]
  split
  · have hR2 : InR (uZ N (854 + N (19 + l)) 2) := inR_eq hR (by
      have h0 := hR.1
      exact in0_of h0 (fun k a b c => uZ_ne (by omega)) (by
        obtain ⟨b0, b1, b2, b3, b4, b5, b6, b7, b8, b9⟩ := h0
        rw [uZ_ne (by omega)]
        omega)) (uZ_ne (by omega)) (uZ_ne (by omega)) fun k a b => uZ_ne (by omega)
    have h60 := hR.1.2.2.2.2.2.2.1
    have hM2 : MsO (uZ N (854 + N (19 + l)) 2) l 0 := fun g a b => by
      rw [uZ_ne (by omega), restF_eq (N := N) (uZ_ne (by omega)) fun k c d => ⟨uZ_ne (by omega), uZ_ne (by omega)⟩]
      exact hM g a b
    rw [insF_uZ n hn hR2 hl hM2 (by omega), insF_uZ n hn hR hl hM (by omega)]
  · rfl
