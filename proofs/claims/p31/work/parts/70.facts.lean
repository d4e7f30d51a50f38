theorem rl8 {N : Int → Int} {l : Int} (h : 0 ≤ l ∧ l < N 4) : qLockerOf N l 8 = N (14 + l) := by
  unfold qLockerOf
  rw [if_neg (by omega), if_pos rfl]
theorem rl9 {N : Int → Int} {l : Int} (h : 0 ≤ l ∧ l < N 4) : qLockerOf N l 9 = if N (14 + l) = 1 then N (19 + l) else -4 := by
  unfold qLockerOf
  rw [if_neg (by omega), if_neg (by omega), if_pos rfl]
theorem rl9a {N : Int → Int} {l : Int} (h : 0 ≤ l ∧ l < N 4) (h1 : N (14 + l) = 1) : qLockerOf N l 9 = N (19 + l) := by rw [rl9 h, if_pos h1]
theorem rl9b {N : Int → Int} {l : Int} (h : 0 ≤ l ∧ l < N 4) (h1 : N (14 + l) ≠ 1) : qLockerOf N l 9 = -4 := by rw [rl9 h, if_neg h1]
theorem rl11 {N : Int → Int} {l : Int} (h : 0 ≤ l ∧ l < N 4) : qLockerOf N l 11 = sumZ (fun k => N (64 + 8 * l + k)) 8 := by
  unfold qLockerOf
  rw [if_neg (by omega), if_neg (by omega), if_neg (by omega), if_neg (by omega), if_pos rfl]
theorem rlg {N : Int → Int} {l g : Int} (h : 0 ≤ l ∧ l < N 4) (hg : (0 ≤ g ∧ g < N 5) ∧ N 5 ≤ 8) : qLockerOf N l g = N (24 + 8 * l + g) := by
  unfold qLockerOf
  rw [if_neg (by omega), if_neg (by omega), if_neg (by omega), if_neg (by omega), if_neg (by omega)]
theorem rmi {N : Int → Int} {l g : Int} (h : 0 ≤ l ∧ l < N 4) (hg : 0 ≤ g ∧ g < N 5) : qMissing N l g = N (64 + 8 * l + g) := if_pos ⟨h, hg⟩
theorem rse0 {N : Int → Int} {x : Int} (h : 1 ≤ x ∧ x ≤ N 7) : qSeal N x 0 = N (452 + x) := by
  unfold qSeal
  rw [if_neg (by omega), if_pos rfl]
theorem rse1 {N : Int → Int} {x : Int} (h : 1 ≤ x ∧ x ≤ N 7) : qSeal N x 1 = N (653 + x) := by
  unfold qSeal
  rw [if_neg (by omega), if_neg (by omega), if_pos rfl]
theorem rse2 {N : Int → Int} {x : Int} (h : 1 ≤ x ∧ x ≤ N 7) : qSeal N x 2 = N (854 + x) := by
  unfold qSeal
  rw [if_neg (by omega), if_neg (by omega), if_neg (by omega)]
theorem rbo0 {N : Int → Int} {b : Int} (h : 0 ≤ b ∧ b < N 6) : qBond N b 0 = N (152 + b) := by
  unfold qBond
  rw [if_neg (by omega), if_pos rfl]
theorem rbo1 {N : Int → Int} {b : Int} (h : 0 ≤ b ∧ b < N 6) : qBond N b 1 = N (212 + b) := by
  unfold qBond
  rw [if_neg (by omega), if_neg (by omega), if_pos rfl]
theorem rbo2 {N : Int → Int} {b : Int} (h : 0 ≤ b ∧ b < N 6) : qBond N b 2 = N (272 + b) := by
  unfold qBond
  rw [if_neg (by omega), if_neg (by omega), if_neg (by omega), if_pos rfl]
theorem rbo3 {N : Int → Int} {b : Int} (h : 0 ≤ b ∧ b < N 6) : qBond N b 3 = N (332 + b) := by
  unfold qBond
  rw [if_neg (by omega), if_neg (by omega), if_neg (by omega), if_neg (by omega), if_pos rfl]
theorem rbo4 {N : Int → Int} {b : Int} (h : 0 ≤ b ∧ b < N 6) : qBond N b 4 = N (272 + b) * N (332 + b) := by
  unfold qBond
  rw [if_neg (by omega), if_neg (by omega), if_neg (by omega), if_neg (by omega), if_neg (by omega), if_pos rfl]
theorem rbo5 {N : Int → Int} {b : Int} (h : 0 ≤ b ∧ b < N 6) : qBond N b 5 = N (392 + b) := by
  unfold qBond
  rw [if_neg (by omega), if_neg (by omega), if_neg (by omega), if_neg (by omega), if_neg (by omega), if_neg (by omega)]
theorem rnb {N : Int → Int} {g : Int} (h : 0 ≤ g ∧ g < N 5) : qNextBond N g = nxt N g (-1) := if_pos h
theorem rac0 {N : Int → Int} {g : Int} (h : 0 ≤ g ∧ g < N 5) : qAccount N g 0 = N (112 + g) := by
  unfold qAccount
  rw [if_neg (by omega), if_pos rfl]
theorem rac1 {N : Int → Int} {g : Int} (h : 0 ≤ g ∧ g < N 5) : qAccount N g 1 = hasF N g := by
  unfold qAccount
  rw [if_neg (by omega), if_neg (by omega), if_pos rfl]
  rfl
theorem rac2 {N : Int → Int} {g : Int} (h : 0 ≤ g ∧ g < N 5) : qAccount N g 2 = missF N g := by
  unfold qAccount
  rw [if_neg (by omega), if_neg (by omega), if_neg (by omega), if_pos rfl]
  rfl
theorem rac3 {N : Int → Int} {g w : Int} (h : 0 ≤ g ∧ g < N 5) (hw : 3 ≤ w ∧ w ≤ 6) : qAccount N g w = N (117 + 4 * g + w) := by
  unfold qAccount
  rw [if_neg (by omega), if_neg (by omega), if_neg (by omega), if_neg (by omega)]
theorem rac_3 {N : Int → Int} {g : Int} (h : 0 ≤ g ∧ g < N 5) : qAccount N g 3 = N (120 + 4 * g) := by rw [rac3 h (by omega), show 117 + 4 * g + 3 = 120 + 4 * g by omega]
theorem rac_4 {N : Int → Int} {g : Int} (h : 0 ≤ g ∧ g < N 5) : qAccount N g 4 = N (121 + 4 * g) := by rw [rac3 h (by omega), show 117 + 4 * g + 4 = 121 + 4 * g by omega]
theorem rac_5 {N : Int → Int} {g : Int} (h : 0 ≤ g ∧ g < N 5) : qAccount N g 5 = N (122 + 4 * g) := by rw [rac3 h (by omega), show 117 + 4 * g + 5 = 122 + 4 * g by omega]
theorem rac_6 {N : Int → Int} {g : Int} (h : 0 ≤ g ∧ g < N 5) : qAccount N g 6 = N (123 + 4 * g) := by rw [rac3 h (by omega), show 117 + 4 * g + 6 = 123 + 4 * g by omega]
theorem rce_0 {N : Int → Int} : qCents N 0 = N 9 := rfl
theorem rce_1 {N : Int → Int} : qCents N 1 = heldF N := rfl
theorem rce_2 {N : Int → Int} : qCents N 2 = N 10 := rfl
theorem rce_3 {N : Int → Int} : qCents N 3 = N 11 := rfl
theorem rce_4 {N : Int → Int} : qCents N 4 = N 12 := rfl
theorem rce_5 {N : Int → Int} : qCents N 5 = N 13 := rfl
/-- a digest, step by step -/
def fo (f : Int → Int → Int) : Nat → Int → Int
  | 0, a => a
  | n + 1, a => f (n : Int) (fo f n a)
theorem fo_s {f : Int → Int → Int} {i a : Int} (h : 0 ≤ i) : fo f (i + 1).toNat a = f i (fo f i.toNat a) := by
  rw [show (i + 1).toNat = i.toNat + 1 by omega]
  show f ((i.toNat : Nat) : Int) (fo f i.toNat a) = _
  rw [Int.toNat_of_nonneg h]
theorem fo_0 {f : Int → Int → Int} {a : Int} : fo f (0 : Int).toNat a = a := rfl
def tI (z : Int) : Int := (iI z).toInt
noncomputable def dg1 (N : Int → Int) : Int := fo (fun k a => 31 * a + tI (qCount N 0 0 k)) 9 7
noncomputable def dg2 (N : Int → Int) : Int := 31 * dg1 N + tI (qCount N 0 0 20) + 1000003 * tI (qCount N 0 0 21)
noncomputable def dgL (N : Int → Int) (l a : Int) : Int := fo (fun g a => 31 * a + tI (qMissing N l g)) (N 5).toNat (fo (fun k a => 31 * a + tI (qLockerOf N l k)) 12 a)
noncomputable def dg3 (N : Int → Int) : Int := fo (fun l a => dgL N l a) (N 4).toNat (dg2 N)
noncomputable def dgG (N : Int → Int) (g a : Int) : Int := 31 * fo (fun k a => 31 * a + tI (qAccount N g k)) 7 a + tI (qNextBond N g)
noncomputable def dg4 (N : Int → Int) : Int := fo (fun g a => dgG N g a) (N 5).toNat (dg3 N)
noncomputable def dgB (N : Int → Int) (b a : Int) : Int := fo (fun k a => 31 * a + tI (qBond N b k)) 6 a
noncomputable def dg5 (N : Int → Int) : Int := fo (fun b a => dgB N b a) (N 6).toNat (dg4 N)
noncomputable def dgS (N : Int → Int) (n a : Int) : Int := fo (fun k a => 31 * a + tI (qSeal N n k)) 3 a
noncomputable def dg6 (N : Int → Int) : Int := fo (fun n a => dgS N (n + 1) a) (N 7).toNat (dg5 N)
/-- what the law's print comes to -/
noncomputable def digF (N : Int → Int) : Int := fo (fun k a => 31 * a + tI (qCents N k)) 7 (dg6 N)
def poD (N : Int → Int) (st : List (Int → Int)) : Int → (Int → Int) → List (Int → Int) → Prop := fun z N2 st2 => z = digF N ∧ N = N2 ∧ st = st2
def poS (N : Int → Int) (st : List (Int → Int)) : Int → (Int → Int) → List (Int → Int) → Prop := fun z N2 st2 => z = 1 ∧ N = N2 ∧ st = st2
def poA (N : Int → Int) : Int → (Int → Int) → List (Int → Int) → Prop := fun z N2 _ => z = 1 ∧ N = N2
theorem qCount_i {N : Int → Int} {a b k : Int} (h : k ≠ 9 ∧ k ≠ 10) : qCount N a b k = qCount N 0 0 k := by
  unfold qCount
  rw [if_neg (c := k = 9) h.1, if_neg (c := k = 10) h.2, if_neg (c := k = 9) h.1, if_neg (c := k = 10) h.2]
/-- the earliest day among the bonds below b that have units left, or -1 -/
def fiI (N : Int → Int) (b f : Int) : Prop := (f = -1 ∧ ∀ k : Int, 0 ≤ k → k < b → ¬ 0 < N (272 + k)) ∨ (0 ≤ f ∧ (∃ k : Int, (0 ≤ k ∧ k < b) ∧ 0 < N (272 + k) ∧ N (392 + k) = f) ∧ ∀ k : Int, 0 ≤ k → k < b → 0 < N (272 + k) → f ≤ N (392 + k))
theorem fiI_0 {N : Int → Int} : fiI N 0 (-1) := Or.inl ⟨rfl, fun k a b => by omega⟩
theorem fiI_no {N : Int → Int} {b f : Int} (h : fiI N b f) (hb : ¬ 0 < N (272 + b)) : fiI N (b + 1) f := by
  rcases h with ⟨h1, h2⟩ | ⟨h1, ⟨k, h2, h3, h4⟩, h5⟩
  · refine Or.inl ⟨h1, fun k a c => ?_⟩
    by_cases e : k = b
    · rw [e]
      exact hb
    · exact h2 k a (by omega)
  · refine Or.inr ⟨h1, ⟨k, by omega, h3, h4⟩, fun k a c d => ?_⟩
    by_cases e : k = b
    · rw [e] at d
      exact absurd d hb
    · exact h5 k a (by omega) d
theorem fiI_yes {N : Int → Int} {b f : Int} (h : fiI N b f) (h0 : 0 ≤ b) (hb : 0 < N (272 + b)) (hd : 0 ≤ N (392 + b)) (hf : f < 0 ∨ N (392 + b) < f) : fiI N (b + 1) (N (392 + b)) := by
  refine Or.inr ⟨hd, ⟨b, by omega, hb, rfl⟩, fun k a c d => ?_⟩
  by_cases e : k = b
  · rw [e]
    exact Int.le_refl _
  · rcases h with ⟨h1, h2⟩ | ⟨h1, -, h5⟩
    · exact absurd d (h2 k a (by omega))
    · have := h5 k a (by omega) d
      omega
theorem fiI_not {N : Int → Int} {b f : Int} (h : fiI N b f) (hf : 0 ≤ f ∧ f ≤ N (392 + b)) : fiI N (b + 1) f := by
  rcases h with ⟨h1, h2⟩ | ⟨h1, ⟨k, h2, h3, h4⟩, h5⟩
  · omega
  · refine Or.inr ⟨h1, ⟨k, by omega, h3, h4⟩, fun k a c d => ?_⟩
    by_cases e : k = b
    · rw [e]
      exact hf.2
    · exact h5 k a (by omega) d
theorem fiI_in {N : Int → Int} {b f : Int} (hR : InR N) (hb : b ≤ N 6) (h : fiI N b f) : -1 ≤ f ∧ f ≤ 5099 := by
  rcases h with ⟨h1, h2⟩ | ⟨h1, ⟨k, h2, h3, h4⟩, h5⟩
  · omega
  · have := hR.2 k h2.1 (by omega)
    omega
theorem fiI_end {N : Int → Int} {f : Int} (h : fiI N (N 6) f) : qRunsOut N = if f < 0 then -4 else f + 1 - N 1 := by
  unfold qRunsOut
  have ok : ∀ k : Int, okB N (-1) (-1) k ↔ 0 < N (272 + k) := fun k => by
    unfold okB
    omega
  rcases h with ⟨h1, h2⟩ | ⟨h1, ⟨k, h2, h3, h4⟩, h5⟩
  · rw [if_pos (show f < 0 by omega)]
    rcases nxt_is N (-1) (-1) with ⟨g1, -⟩ | ⟨g1, g2, -⟩
    · rw [if_pos (by omega)]
    · exact absurd ((ok _).mp g2) (h2 _ g1.1 g1.2)
  · rw [if_neg (show ¬ f < 0 by omega)]
    rcases nxt_is N (-1) (-1) with ⟨g1, g2⟩ | ⟨g1, g2, g3⟩
    · exact absurd ((ok k).mpr h3) (g2 k h2.1 h2.2)
    · rw [if_neg (by omega)]
      have a1 := h5 _ g1.1 g1.2 ((ok _).mp g2)
      have a2 := g3 k h2.1 h2.2 ((ok k).mpr h3)
      omega
theorem nxt_rest {N : Int → Int} {g : Int} (hR : InR N) (hg : 0 ≤ g) : (nxt N g (-1) = -4 ∧ restF N g = 0) ∨ ((0 ≤ nxt N g (-1) ∧ nxt N g (-1) < N 6) ∧ 0 < restF N g) := by
  have hm := rest_max hR g
  have h6 := hR.1.2.2.2.2.2.2.1
  rcases nxt_is N g (-1) with ⟨g1, g2⟩ | ⟨g1, g2, -⟩
  · left
    refine ⟨g1, ?_⟩
    by_cases h0 : 0 < restF N g
    · have := nx_pos h0 (nxt_is N g (-1))
      omega
    · omega
  · right
    refine ⟨g1, ?_⟩
    have h3 := restF_ge hR g1
    unfold okB at g2
    rw [show N (152 + nxt N g (-1)) = g by omega] at h3
    omega
theorem nxt_first {N : Int → Int} {g b : Int} (hg : 0 ≤ g) (hb : 0 ≤ b ∧ b < N 6) (ho : N (152 + b) = g) (hl : 0 < N (272 + b)) : (0 ≤ nxt N g (-1) ∧ nxt N g (-1) < N 6) ∧ (N (392 + nxt N g (-1)) < N (392 + b) ∨ (N (392 + nxt N g (-1)) = N (392 + b) ∧ nxt N g (-1) ≤ b)) := by
  have ok : okB N g (-1) b := ⟨hl, Or.inr ho, Or.inl (by omega)⟩
  rcases nxt_is N g (-1) with ⟨g1, g2⟩ | ⟨g1, -, g3⟩
  · exact absurd ok (g2 b hb.1 hb.2)
  · exact ⟨g1, g3 b hb.1 hb.2 ok⟩
theorem held_one {N : Int → Int} {b : Int} (h : InX N) (hb : 0 ≤ b ∧ b < N 6) : 0 ≤ N (272 + b) * N (332 + b) ∧ N (272 + b) * N (332 + b) ≤ 2147483647 := by
  have h6 := h.1.1.2.2.2.2.2.2.1
  have nn : ∀ k : Int, 0 ≤ k → k < ((N 6).toNat : Int) → 0 ≤ N (272 + k) * N (332 + k) := fun k a c => by
    have := h.1.2.2.2.1 k a (by omega)
    exact Int.mul_nonneg this.2.2.1.1 (by omega)
  have h1 : N (272 + b) * N (332 + b) ≤ heldF N := sumZ_ge (f := fun b => N (272 + b) * N (332 + b)) (i := b) (N 6).toNat nn hb.1 (by omega)
  have h2 := em_in h
  exact ⟨nn b hb.1 (by omega), by omega⟩
theorem worth_no {N : Int → Int} {g : Int} (h : InX N) (hg : 0 ≤ g ∧ g < N 5) (hr : restF N g < 99999) : qWorth N g (restF N g + 1) = -4 := by
  have hR := inY_R (inY h.1)
  have hm := rest_max hR g
  have h1 := (worA_full (N := N) (g := g) (u := restF N g + 1) hR hg.1 (by omega)).2 (by omega)
  unfold qWorth
  rw [if_neg (by omega), h1, if_pos (by omega)]
theorem loaded_in {N : Int → Int} (h : InX N) {g : Int} (hg : 0 ≤ g ∧ g < 8) : 0 ≤ N (112 + g) ∧ N (112 + g) ≤ 600000 := by
  have h6 := h.1.1.2.2.2.2.2.2.1
  have hG := h.1.2.2.2.2.2.2.1 g hg.1 hg.2
  have h1 : 0 ≤ sumZ (fun b => if N (152 + b) = g then N (212 + b) else 0) (N 6).toNat := sumZ_nonneg _ fun k a b => by
    have := h.1.2.2.2.1 k a (by omega)
    split <;> omega
  have h2 : sumZ (fun b => if N (152 + b) = g then N (212 + b) else 0) (N 6).toNat ≤ sumZ (fun _ => (9999 : Int)) (N 6).toNat := sumZ_le _ fun k a b => by
    have := h.1.2.2.2.1 k a (by omega)
    split <;> omega
  rw [sumZ_const] at h2
  omega
