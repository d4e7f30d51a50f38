/-- units of a good in lockers, and missing ones, are what its bonds have left -/
def EC (N : Int → Int) : Prop := ∀ g : Int, 0 ≤ g → g < 8 → hasF N g + missF N g = restF N g
/-- cents: what was loaded is held, or was released -/
def EM (N : Int → Int) : Prop := N 9 = heldF N + N 10 + N 11 + N 12 + N 13 ∧ 0 ≤ N 10 ∧ 0 ≤ N 11 ∧ 0 ≤ N 12 ∧ 0 ≤ N 13
/-- units: what was loaded is left, or was released -/
def EA (N : Int → Int) : Prop := ∀ g : Int, 0 ≤ g → g < 8 → N (112 + g) = restF N g + N (120 + 4 * g) + N (121 + 4 * g) + N (122 + 4 * g) + N (123 + 4 * g)
def EB (N : Int → Int) : Prop := ∀ b : Int, 0 ≤ b → b < N 6 → N (272 + b) ≤ N (212 + b)
/-- a bond with units left is not yet over -/
def ED (N : Int → Int) : Prop := ∀ b : Int, 0 ≤ b → b < N 6 → 0 < N (272 + b) → N 1 ≤ N (392 + b)
def EZ (N : Int → Int) : Prop := N 0 ≠ 0 → ∀ l : Int, 0 ≤ l → l < N 4 → N (14 + l) ≠ 0
/-- seals on lockers are where lockers tell them -/
def ES (N : Int → Int) : Prop := (∀ l : Int, 0 ≤ l → l < N 4 → N (14 + l) = 1 → N (452 + N (19 + l)) = l ∧ N (854 + N (19 + l)) = 0) ∧ (∀ n : Int, 1 ≤ n → n ≤ N 7 → N (854 + n) = 0 → (0 ≤ N (452 + n) ∧ N (452 + n) < N 4) ∧ N (14 + N (452 + n)) = 1 ∧ N (19 + N (452 + n)) = n) ∧ ∀ n : Int, 1 ≤ n → n ≤ N 7 → 0 ≤ N (854 + n) ∧ N (854 + n) ≤ 3
/-- days of seals -/
def EP (N : Int → Int) : Prop := ∀ n : Int, 1 ≤ n → n ≤ N 7 → (0 ≤ N (653 + n) ∧ N (653 + n) ≤ N 1) ∧ (2 ≤ n → N (652 + n) ≤ N (653 + n))
def GM (N : Int → Int) : Prop := EM N ∧ EA N ∧ EB N
def EX (N : Int → Int) : Prop := EC N ∧ GM N ∧ ED N ∧ EZ N ∧ ES N ∧ EP N
def InX (N : Int → Int) : Prop := Inv N ∧ EX N
theorem heldF_eq {N M : Int → Int} (h6 : M 6 = N 6) (h : ∀ b : Int, 0 ≤ b → b < N 6 → M (272 + b) = N (272 + b) ∧ M (332 + b) = N (332 + b)) : heldF M = heldF N := by
  unfold heldF
  rw [h6]
  refine sumZ_congr _ fun k h1 h2 => ?_
  rw [(h k h1 (by omega)).1, (h k h1 (by omega)).2]
theorem gm_eq {N M : Int → Int} (h60 : N 6 ≤ 60) (h : GM N) (e : ∀ k : Int, k = 6 ∨ (9 ≤ k ∧ k < 14) ∨ (112 ≤ k ∧ k < 452) → M k = N k) : GM M := by
  obtain ⟨hM, hA, hB⟩ := h
  refine ⟨?_, fun g a b => ?_, fun b a c => ?_⟩
  · unfold EM
    rw [heldF_eq (N := N) (e 6 (by omega)) fun b a c => ⟨e _ (by omega), e _ (by omega)⟩, e 9 (by omega), e 10 (by omega), e 11 (by omega), e 12 (by omega), e 13 (by omega)]
    exact hM
  · rw [restF_eq (N := N) (e 6 (by omega)) fun b c d => ⟨e _ (by omega), e _ (by omega)⟩, e (112 + g) (by omega), e (120 + 4 * g) (by omega), e (121 + 4 * g) (by omega), e (122 + 4 * g) (by omega), e (123 + 4 * g) (by omega)]
    exact hA g a b
  · rw [e 6 (by omega)] at c
    rw [e (272 + b) (by omega), e (212 + b) (by omega)]
    exact hB b a c
theorem ec_eq {N M : Int → Int} (h60 : N 6 ≤ 60) (h : EC N) (e : ∀ k : Int, k = 6 ∨ (24 ≤ k ∧ k < 104) ∨ (152 ≤ k ∧ k < 332) → M k = N k) : EC M := fun g a b => by
  rw [hasF_eq (N := N) ⟨a, b⟩ fun k c d => e k (by omega), missF_eq (N := N) ⟨a, b⟩ fun k c d => e k (by omega), restF_eq (N := N) (e 6 (by omega)) fun b c d => ⟨e _ (by omega), e _ (by omega)⟩]
  exact h g a b
theorem ed_eq {N M : Int → Int} (h60 : N 6 ≤ 60) (h : ED N) (e : ∀ k : Int, k = 1 ∨ k = 6 ∨ (272 ≤ k ∧ k < 452) → M k = N k) : ED M := fun b a c d => by
  rw [e 6 (by omega)] at c
  rw [e (272 + b) (by omega)] at d
  rw [e 1 (by omega), e (392 + b) (by omega)]
  exact h b a c d
theorem ez_eq {N M : Int → Int} (h5 : N 4 ≤ 5) (h : EZ N) (e : ∀ k : Int, k = 0 ∨ k = 4 ∨ (14 ≤ k ∧ k < 19) → M k = N k) : EZ M := fun q l a b => by
  rw [e 0 (by omega)] at q
  rw [e 4 (by omega)] at b
  rw [e (14 + l) (by omega)]
  exact h q l a b
theorem es_eq {N M : Int → Int} (h4 : N 4 ≤ 5) (h7 : N 7 ≤ 200) (hL : InL N) (h : ES N) (e : ∀ k : Int, k = 4 ∨ k = 7 ∨ (14 ≤ k ∧ k < 24) ∨ 452 ≤ k → M k = N k) : ES M := by
  obtain ⟨h1, h2, h3⟩ := h
  refine ⟨fun l a b c => ?_, fun n a b c => ?_, fun n a b => ?_⟩
  · rw [e 4 (by omega)] at b
    rw [e (14 + l) (by omega)] at c
    have hl := hL l a (by omega)
    rw [e (19 + l) (by omega), e (452 + N (19 + l)) (by omega), e (854 + N (19 + l)) (by omega)]
    exact h1 l a b c
  · rw [e 7 (by omega)] at b
    rw [e (854 + n) (by omega)] at c
    have q := h2 n a b c
    rw [e (452 + n) (by omega), e 4 (by omega), e (14 + N (452 + n)) (by omega), e (19 + N (452 + n)) (by omega)]
    exact q
  · rw [e 7 (by omega)] at b
    rw [e (854 + n) (by omega)]
    exact h3 n a b
theorem ep_eq {N M : Int → Int} (h7 : N 7 ≤ 200) (h : EP N) (e1 : N 1 ≤ M 1) (e7 : M 7 = N 7) (e : ∀ k : Int, 653 ≤ k → k < 854 → M k = N k) : EP M := fun n a b => by
  rw [e7] at b
  have q := h n a b
  rw [e (653 + n) (by omega) (by omega)]
  refine ⟨⟨q.1.1, by omega⟩, fun c => ?_⟩
  rw [e (652 + n) (by omega) (by omega)]
  exact q.2 c
theorem takeF_held {N : Int → Int} {b u r : Int} (h : InR N) (hb : 0 ≤ b ∧ b < N 6) (hr : 0 ≤ r ∧ r < 4) : heldF (takeF N b u r) = heldF N - u * N (332 + b) := by
  obtain ⟨h0, hB⟩ := h
  have ho := hB b hb.1 hb.2
  obtain ⟨b0, b1, b2, b3, b4, b5, b6, b7, b8, b9⟩ := h0
  unfold heldF
  rw [takeF_ne (k := 6) (by omega) (by omega) (by omega)]
  rw [sumZ_one (f := fun k => N (272 + k) * N (332 + k)) (i := b) (d := -(u * N (332 + b))) (N 6).toNat hb.1 (by omega) ?_ ?_]
  · omega
  · rw [takeF_at (by omega) hr (by omega), takeF_ne (k := 332 + b) (by omega) (by omega) (by omega), Int.sub_mul]
    omega
  · intro k h1 h2 h3
    rw [takeF_ne (k := 272 + k) (by omega) (by omega) (by omega), takeF_ne (k := 332 + k) (by omega) (by omega) (by omega)]
theorem takeF_10 {N : Int → Int} {b u r : Int} (hr : 0 ≤ r ∧ r < 4) (hb : 0 ≤ b) (ho : 0 ≤ N (152 + b) ∧ N (152 + b) < 8) : takeF N b u r (10 + r) = N (10 + r) + u * N (332 + b) := by
  unfold takeF
  rw [uZ_ne (by omega), uZ_eq]
theorem takeF_120 {N : Int → Int} {b u r : Int} : takeF N b u r (120 + 4 * N (152 + b) + r) = N (120 + 4 * N (152 + b) + r) + u := by
  unfold takeF
  rw [uZ_eq]
theorem takeF_gm {N : Int → Int} {b u r : Int} (hR : InR N) (hb : 0 ≤ b ∧ b < N 6) (hu : 0 ≤ u ∧ u ≤ N (272 + b)) (hr : 0 ≤ r ∧ r < 4) (h : GM N) : GM (takeF N b u r) := by
  have ho := hR.2 b hb.1 hb.2
  have h0 := hR.1
  obtain ⟨b0, b1, b2, b3, b4, b5, b6, b7, b8, b9⟩ := h0
  have hh := takeF_held (u := u) hR hb hr
  have h10 := takeF_10 (N := N) (u := u) hr hb.1 (by omega)
  have h120 := takeF_120 (N := N) (b := b) (u := u) (r := r)
  have hr1 := takeF_rest (u := u) hR hb hr
  have hr2 : ∀ q : Int, q ≠ N (152 + b) → restF (takeF N b u r) q = restF N q := fun q hq => takeF_rest2 hR hb hr hq
  have hd : 0 ≤ u * N (332 + b) := Int.mul_nonneg hu.1 (by omega)
  have e : ∀ k : Int, k ≠ 272 + b → k ≠ 10 + r → k ≠ 120 + 4 * N (152 + b) + r → takeF N b u r k = N k := fun k x y z => takeF_ne x y z
  have e272 : takeF N b u r (272 + b) = N (272 + b) - u := takeF_at (by omega) hr (by omega)
  obtain ⟨hM, hA, hB⟩ := h
  unfold EM at hM
  generalize takeF N b u r = T at hh h10 h120 hr1 hr2 e e272 ⊢
  refine ⟨?_, fun g a c => ?_, fun k a c => ?_⟩
  · unfold EM
    rw [hh, e 9 (by omega) (by omega) (by omega)]
    rcases (show r = 0 ∨ r = 1 ∨ r = 2 ∨ r = 3 by omega) with q | q | q | q
    · subst q
      rw [e 11 (by omega) (by omega) (by omega), e 12 (by omega) (by omega) (by omega), e 13 (by omega) (by omega) (by omega)]
      rw [show (10 : Int) + 0 = 10 from rfl] at h10
      omega
    · subst q
      rw [e 10 (by omega) (by omega) (by omega), e 12 (by omega) (by omega) (by omega), e 13 (by omega) (by omega) (by omega)]
      rw [show (10 : Int) + 1 = 11 from rfl] at h10
      omega
    · subst q
      rw [e 10 (by omega) (by omega) (by omega), e 11 (by omega) (by omega) (by omega), e 13 (by omega) (by omega) (by omega)]
      rw [show (10 : Int) + 2 = 12 from rfl] at h10
      omega
    · subst q
      rw [e 10 (by omega) (by omega) (by omega), e 11 (by omega) (by omega) (by omega), e 12 (by omega) (by omega) (by omega)]
      rw [show (10 : Int) + 3 = 13 from rfl] at h10
      omega
  · have hA1 := hA g a c
    rw [e (112 + g) (by omega) (by omega) (by omega)]
    by_cases hg : g = N (152 + b)
    · rw [hg] at hA1 ⊢
      rw [hr1]
      rcases (show r = 0 ∨ r = 1 ∨ r = 2 ∨ r = 3 by omega) with q | q | q | q
      · subst q
        rw [e (121 + 4 * N (152 + b)) (by omega) (by omega) (by omega), e (122 + 4 * N (152 + b)) (by omega) (by omega) (by omega), e (123 + 4 * N (152 + b)) (by omega) (by omega) (by omega)]
        rw [show 120 + 4 * N (152 + b) + 0 = 120 + 4 * N (152 + b) by omega] at h120
        omega
      · subst q
        rw [e (120 + 4 * N (152 + b)) (by omega) (by omega) (by omega), e (122 + 4 * N (152 + b)) (by omega) (by omega) (by omega), e (123 + 4 * N (152 + b)) (by omega) (by omega) (by omega)]
        rw [show 120 + 4 * N (152 + b) + 1 = 121 + 4 * N (152 + b) by omega] at h120
        omega
      · subst q
        rw [e (120 + 4 * N (152 + b)) (by omega) (by omega) (by omega), e (121 + 4 * N (152 + b)) (by omega) (by omega) (by omega), e (123 + 4 * N (152 + b)) (by omega) (by omega) (by omega)]
        rw [show 120 + 4 * N (152 + b) + 2 = 122 + 4 * N (152 + b) by omega] at h120
        omega
      · subst q
        rw [e (120 + 4 * N (152 + b)) (by omega) (by omega) (by omega), e (121 + 4 * N (152 + b)) (by omega) (by omega) (by omega), e (122 + 4 * N (152 + b)) (by omega) (by omega) (by omega)]
        rw [show 120 + 4 * N (152 + b) + 3 = 123 + 4 * N (152 + b) by omega] at h120
        omega
    · rw [hr2 g hg, e (120 + 4 * g) (by omega) (by omega) (by omega), e (121 + 4 * g) (by omega) (by omega) (by omega), e (122 + 4 * g) (by omega) (by omega) (by omega), e (123 + 4 * g) (by omega) (by omega) (by omega)]
      exact hA1
  · rw [e 6 (by omega) (by omega) (by omega)] at c
    rw [e (212 + k) (by omega) (by omega) (by omega)]
    have hB1 := hB k a c
    by_cases hk : k = b
    · rw [hk, e272]
      rw [hk] at hB1
      omega
    · rw [e (272 + k) (by omega) (by omega) (by omega)]
      exact hB1
/-- what a release does to amounts and bonds -/
theorem relF_gm : ∀ (n : Nat) {N : Int → Int} {g u r : Int}, InR N → 0 ≤ g ∧ g < 8 → 0 ≤ r ∧ r < 4 → 0 ≤ u → u ≤ (n : Int) → u ≤ restF N g → GM N → GM (relF n N g u r).1 ∧ 0 ≤ (relF n N g u r).2 ∧ (relF n N g u r).1 (10 + r) = N (10 + r) + (relF n N g u r).2 ∧ ∀ b : Int, 0 ≤ b → b < N 6 → (relF n N g u r).1 (272 + b) ≤ N (272 + b)
  | 0, N, g, u, r, hR, hg, hr, h0, hn, hu, h => by
    rw [relF_0 (by omega)]
    exact ⟨h, Int.le_refl 0, (Int.add_zero _).symm, fun b _ _ => Int.le_refl _⟩
  | n + 1, N, g, u, r, hR, hg, hr, h0, hn, hu, h => by
    by_cases hu0 : u ≤ 0
    · rw [relF_0 hu0]
      exact ⟨h, Int.le_refl 0, (Int.add_zero _).symm, fun b _ _ => Int.le_refl _⟩
    · have hb := nx_pos (by omega) (nxt_is N g (-1))
      have hf := hR.2 _ hb.1.1 hb.1.2
      have hbd := hR.1
      obtain ⟨b0, b1, b2, b3, b4, b5, b6, b7, b8, b9⟩ := hbd
      have hby := byF_in hu0 hb.2.1
      have hgd : N (152 + nxt N g (-1)) = g := by omega
      have h1 := takeF_R (u := byF N g (-1) u) (r := r) hR hb.1 (by omega) hr
      have h2 := takeF_rest (u := byF N g (-1) u) (r := r) hR hb.1 hr
      have h3 := takeF_gm (u := byF N g (-1) u) (r := r) hR hb.1 (by omega) hr h
      have h10 := takeF_10 (N := N) (b := nxt N g (-1)) (u := byF N g (-1) u) hr hb.1.1 (by omega)
      have h272 := takeF_at (N := N) (b := nxt N g (-1)) (u := byF N g (-1) u) (r := r) (by omega) hr (by omega)
      have h6 : takeF N (nxt N g (-1)) (byF N g (-1) u) r 6 = N 6 := takeF_ne (by omega) (by omega) (by omega)
      have hd : 0 ≤ byF N g (-1) u * N (332 + nxt N g (-1)) := Int.mul_nonneg (by omega) (by omega)
      rw [hgd] at h2
      obtain ⟨i1, i2, i3, i4⟩ := relF_gm n h1 hg hr (u := u - byF N g (-1) u) (by omega) (by omega) (by omega) h3
      rw [relF_s hu0]
      refine ⟨i1, by dsimp only; omega, by dsimp only; rw [i3, h10]; omega, fun b x y => ?_⟩
      have i5 := i4 b x (by omega)
      dsimp only
      by_cases hk : b = nxt N g (-1)
      · rw [hk] at i5 ⊢
        omega
      · rw [takeF_ne (k := 272 + b) (by omega) (by omega) (by omega)] at i5
        exact i5
theorem relF_ed {n : Nat} {N : Int → Int} {g u r : Int} (hR : InR N) (hg : 0 ≤ g ∧ g < 8) (hr : 0 ≤ r ∧ r < 4) (h0 : 0 ≤ u) (hn : u ≤ (n : Int)) (hu : u ≤ restF N g) (h : GM N) (hE : ED N) : ED (relF n N g u r).1 := by
  obtain ⟨-, -, -, i4⟩ := relF_gm n hR hg hr h0 hn hu h
  obtain ⟨-, e, -, -⟩ := relF_all n (r := r) hR hg hr h0 hn hu
  have h60 := hR.1.2.2.2.2.2.2.1
  intro b a c d
  have e6 := e 6 (Or.inl (by omega))
  rw [e6] at c
  rw [e 1 (Or.inl (by omega)), e (392 + b) (Or.inr (Or.inr (Or.inr (by omega))))]
  have := i4 b a c
  exact hE b a c (by omega)
/-- behind a release of units that had left a locker -/
theorem rel_X {P : Int → Int} {g u r : Int} (hY : InY P) (hg : 0 ≤ g ∧ g < 8) (hr : 0 ≤ r ∧ r < 4) (hu : 0 ≤ u) (hd : hasF P g + missF P g + u = restF P g) (ho : ∀ q : Int, 0 ≤ q → q < 8 → q ≠ g → hasF P q + missF P q = restF P q) (hG : GM P) (hE : ED P) (hZ : EZ P) (hS : ES P) (hP : EP P) : EX (relP P g u r).2 := by
  have hR := inY_R hY
  have hp : 0 ≤ hasF P g := sumZ_nonneg (f := fun l => P (24 + 8 * l + g)) 5 (fun k a b => (hY.2.2.1 k g a (by omega) hg.1 hg.2).1.1)
  have hm : 0 ≤ missF P g := sumZ_nonneg (f := fun l => P (64 + 8 * l + g)) 5 (fun k a b => (hY.2.2.1 k g a (by omega) hg.1 hg.2).2.1.1)
  have hlt : u ≤ restF P g := by omega
  obtain ⟨r1, r2, r3, r4⟩ := relF_all u.toNat (r := r) hR hg hr hu (by omega) hlt
  have e : ∀ k : Int, k < 10 ∨ (14 ≤ k ∧ k < 120) ∨ (152 ≤ k ∧ k < 272) ∨ 332 ≤ k → (relF u.toNat P g u r).1 k = P k := r2
  obtain ⟨b0, b1, b2, b3, b4, b5, b6, b7, b8, b9⟩ := hR.1
  refine ⟨fun q a b => ?_, (relF_gm u.toNat hR hg hr hu (by omega) hlt hG).1, relF_ed hR hg hr hu (by omega) hlt hG hE, ez_eq b4.2 hZ fun k hk => e k (by omega), es_eq b4.2 b7.2 hY.2.1 hS fun k hk => e k (by omega), ep_eq b7.2 hP (by show P 1 ≤ (relF u.toNat P g u r).1 1; rw [e 1 (by omega)]; exact Int.le_refl _) (e 7 (by omega)) fun k a b => e k (by omega)⟩
  show hasF (relF u.toNat P g u r).1 q + missF (relF u.toNat P g u r).1 q = restF (relF u.toNat P g u r).1 q
  rw [hasF_eq (N := P) ⟨a, b⟩ fun k c d => e k (by omega), missF_eq (N := P) ⟨a, b⟩ fun k c d => e k (by omega)]
  by_cases hq : q = g
  · rw [hq, r3]
    omega
  · rw [r4 q hq]
    exact ho q a b hq
