theorem heldF_nn {N : Int → Int} (hR : InR N) : 0 ≤ heldF N := sumZ_nonneg _ fun k a b => by
  have h6 := hR.1.2.2.2.2.2.2.1
  have := hR.2 k a (by omega)
  exact Int.mul_nonneg this.2.2.1.1 (by omega)
theorem em_in {N : Int → Int} (h : InX N) : 0 ≤ heldF N ∧ heldF N ≤ 2147483647 ∧ (0 ≤ N 10 ∧ N 10 ≤ 2147483647) ∧ (0 ≤ N 11 ∧ N 11 ≤ 2147483647) ∧ (0 ≤ N 12 ∧ N 12 ≤ 2147483647) ∧ (0 ≤ N 13 ∧ N 13 ≤ 2147483647) := by
  have h1 := heldF_nn (inY_R (inY h.1))
  have h2 := h.2.2.1.1
  have h3 := h.1.1.2.2.2.2.2.2.2.2.2
  unfold EM at h2
  omega
/-- goods that there are not have no units anywhere -/
theorem zero_good {N : Int → Int} (h : InX N) {g : Int} (hg : N 5 ≤ g ∧ g < 8) : restF N g = 0 ∧ ∀ l : Int, 0 ≤ l → l < 5 → N (24 + 8 * l + g) = 0 ∧ N (64 + 8 * l + g) = 0 := by
  have h5 := h.1.1.2.2.2.2.2.1
  have h6 := h.1.1.2.2.2.2.2.2.1
  have hr : restF N g = 0 := by
    have e : restF N g = sumZ (fun _ => (0 : Int)) (N 6).toNat := sumZ_congr _ fun k a b => by
      have := h.1.2.2.2.1 k a (by omega)
      exact if_neg (by omega)
    rw [e, sumZ_const]
    omega
  have hc := h.2.1 g (by omega) hg.2
  have i1 := inY_c (inY h.1) (g := g) (by omega)
  refine ⟨hr, fun l a b => ?_⟩
  have hH := h.1.2.2.1 l g a b (by omega) hg.2
  have h2 : N (24 + 8 * l + g) ≤ hasF N g := sumZ_ge (f := fun l => N (24 + 8 * l + g)) 5 (fun k a b => (h.1.2.2.1 k g a (by omega) (by omega) hg.2).1.1) a (by omega)
  have h3 : N (64 + 8 * l + g) ≤ missF N g := sumZ_ge (f := fun l => N (64 + 8 * l + g)) 5 (fun k a b => (h.1.2.2.1 k g a (by omega) (by omega) hg.2).2.1.1) a (by omega)
  omega
theorem miss_le {N : Int → Int} (hY : InY N) {l g : Int} (hl : 0 ≤ l ∧ l < 5) (hg : 0 ≤ g ∧ g < 8) : 0 ≤ N (64 + 8 * l + g) ∧ N (64 + 8 * l + g) ≤ missF N g ∧ N (64 + 8 * l + g) ≤ restF N g ∧ 0 ≤ missF N g ∧ missF N g ≤ restF N g ∧ restF N g ≤ 600000 := by
  have i1 := inY_c hY hg
  have h1 := (hY.2.2.1 l g hl.1 hl.2 hg.1 hg.2).2.1.1
  have h3 : N (64 + 8 * l + g) ≤ missF N g := sumZ_ge (f := fun l => N (64 + 8 * l + g)) 5 (fun k a b => (hY.2.2.1 k g a (by omega) hg.1 hg.2).2.1.1) hl.1 (by omega)
  omega
theorem worA_nn {N : Int → Int} {g u : Int} (h : InX N) (hg : 0 ≤ g ∧ g < 8) (h0 : 0 ≤ u) (hu : u ≤ restF N g) : 0 ≤ worA N g u ∧ worA N g u ≤ u * 1000000 := by
  have hR := inY_R (inY h.1)
  refine ⟨?_, (worA_in hR h0).2⟩
  rw [worA_rel (r := 0) hR hg (by omega) h0 hu]
  exact (relF_gm u.toNat hR hg (by omega) h0 (by omega) hu h.2.2.1).2.1
/-- what is released is what was told ahead -/
theorem amt_worth {N P : Int → Int} {g u q : Int} (h : InX N) (hP : InR P) (hb : BE g N P) (hg : 0 ≤ g ∧ g < N 5) (hu : 1 ≤ u ∧ u ≤ 9999) (hr : u ≤ restF N g) (hq : 0 ≤ q ∧ q < 4) : (relP P g u q).1 = qWorth N g u := by
  have hR := inY_R (inY h.1)
  have h5 := h.1.1.2.2.2.2.2.1
  have hg8 : 0 ≤ g ∧ g < 8 := by omega
  have h1 := worA_rel (r := 0) hR hg8 (by omega) (show 0 ≤ u by omega) hr
  have h2 := worA_nn h hg8 (show 0 ≤ u by omega) hr
  have h3 := (relF_BE u.toNat (r := 0) (q := q) hR hP hb hg8 (by omega) hq (by omega) (by omega) hr).1
  unfold qWorth
  rw [if_neg (by omega), if_neg (by omega), h1]
  exact h3
theorem due_in {N : Int → Int} {l : Int} (h : InX N) (hl : 0 ≤ l ∧ l < 5) : 0 ≤ finF N l ∧ finF N l ≤ 100000 ∧ finF N l ≤ dueF N l ∧ dueF N l ≤ 5000000000000 := by
  have hY := inY h.1
  obtain ⟨b0, b1, b2, b3, b4, b5, b6, b7, b8, b9⟩ := inY_b hY
  have hf : 0 ≤ finF N l ∧ finF N l ≤ 100000 := by
    unfold finF
    split <;> omega
  have h1 : 0 ≤ sumZ (fun g => worA N g (N (64 + 8 * l + g))) (N 5).toNat := sumZ_nonneg _ fun g a b => by
    have := miss_le hY hl (g := g) (by omega)
    exact (worA_nn h (by omega) this.1 this.2.2.1).1
  have h2 : sumZ (fun g => worA N g (N (64 + 8 * l + g))) (N 5).toNat ≤ sumZ (fun _ => (600000000000 : Int)) (N 5).toNat := sumZ_le _ fun g a b => by
    have := miss_le hY hl (g := g) (by omega)
    have := (worA_nn h (g := g) (by omega) this.1 this.2.2.1).2
    omega
  rw [sumZ_const] at h2
  unfold dueF
  omega
theorem payF_in {N : Int → Int} (h : InX N) : 0 ≤ payF N ∧ payF N ≤ 5000000000000 := by
  have hY := inY h.1
  obtain ⟨b0, b1, b2, b3, b4, b5, b6, b7, b8, b9⟩ := inY_b hY
  have hc := cntF_in (N := N) 2 b4.1
  have hp : 0 ≤ cntF N 2 * N 2 := Int.mul_nonneg hc.1 b2.1
  have hp2 : cntF N 2 * N 2 ≤ 5 * 100000 := Int.mul_le_mul (by omega) b2.2 b2.1 (by omega)
  have h1 : 0 ≤ sumZ (fun g => worA N g (sumZ (fun k => N (64 + 8 * k + g)) 5)) (N 5).toNat := sumZ_nonneg _ fun g a b => by
    have := miss_le hY (l := 0) (g := g) (by omega) (by omega)
    exact (worA_nn h (g := g) (by omega) this.2.2.2.1 this.2.2.2.2.1).1
  have h2 : sumZ (fun g => worA N g (sumZ (fun k => N (64 + 8 * k + g)) 5)) (N 5).toNat ≤ sumZ (fun _ => (600000000000 : Int)) (N 5).toNat := sumZ_le _ fun g a b => by
    have := miss_le hY (l := 0) (g := g) (by omega) (by omega)
    have h9 := (worA_nn h (g := g) (by omega) this.2.2.2.1 this.2.2.2.2.1).2
    show worA N g (missF N g) ≤ 600000000000
    omega
  rw [sumZ_const] at h2
  unfold payF
  omega
theorem ins_BE : ∀ (n : Nat) {N : Int → Int} {l : Int}, n ≤ 8 → InY N → 0 ≤ l ∧ l < 5 → (∀ g : Int, (n : Int) ≤ g → g < 8 → BE g N (insF n N l)) ∧ ∀ g : Int, 0 ≤ g → g < (n : Int) → BE g (relF (N (64 + 8 * l + g)).toNat N g (N (64 + 8 * l + g)) 3).1 (insF n N l) ∧ insF n N l (64 + 8 * l + g) = 0
  | 0, N, l, _, _, _ => ⟨fun g _ _ => BE_rf, fun g a b => by omega⟩
  | n + 1, N, l, hn, hY, hl => by
    obtain ⟨i1, i2⟩ := ins_BE n (by omega) hY hl
    obtain ⟨y1, -⟩ := y_ins n (by omega) hY hl
    have hM : MsO N l 0 := fun g a b => by
      have := miss_le hY hl (g := g) (by omega)
      omega
    have e1 := (insF_all n (by omega) (inY_R hY) hl hM).2.2.1 (64 + 8 * l + (n : Int)) (by omega) (by omega) (by omega)
    have hm := miss_le y1 hl (g := (n : Int)) (by omega)
    have hmN := miss_le hY hl (g := (n : Int)) (by omega)
    rw [insF_n, e1]
    rw [e1] at hm
    generalize insF n N l = I at i1 i2 y1 hm ⊢
    have hR := inY_R y1
    have r0 := relF_all (N (64 + 8 * l + (n : Int))).toNat (N := I) (g := (n : Int)) (u := N (64 + 8 * l + (n : Int))) (r := 3) hR (by omega) (by omega) hm.1 (by omega) hm.2.2.1
    have ro : ∀ q : Int, q ≠ (n : Int) → BE q I (relF (N (64 + 8 * l + (n : Int))).toNat I (n : Int) (N (64 + 8 * l + (n : Int))) 3).1 := fun q hq => relF_other _ hR (by omega) (by omega) hm.1 (by omega) hm.2.2.1 hq
    have rb := (relF_BE (N (64 + 8 * l + (n : Int))).toNat (r := 3) (q := 3) (inY_R hY) hR (i1 (n : Int) (Int.le_refl _) (by omega)) (by omega) (by omega) (by omega) hmN.1 (by omega) hmN.2.2.1).2
    have b6 := (inY_b y1).2.2.2.2.2.2.1
    have e6 : (relF (N (64 + 8 * l + (n : Int))).toNat I (n : Int) (N (64 + 8 * l + (n : Int))) 3).1 6 = I 6 := r0.2.1 6 (Or.inl (by omega))
    have ec : ∀ k : Int, 14 ≤ k → k < 120 → (relF (N (64 + 8 * l + (n : Int))).toNat I (n : Int) (N (64 + 8 * l + (n : Int))) 3).1 k = I k := fun k a b => r0.2.1 k (Or.inr (Or.inl ⟨a, b⟩))
    generalize (relF (N (64 + 8 * l + (n : Int))).toNat I (n : Int) (N (64 + 8 * l + (n : Int))) 3).1 = J at ro rb e6 ec ⊢
    have bo : ∀ q : Int, BE q J (uZ J (64 + 8 * l + (n : Int)) 0) := fun q => BE_of (by omega) fun k hk => uZ_ne (by omega)
    refine ⟨fun g a b => BE_tr (i1 g (by omega) b) (BE_tr (ro g (by omega)) (bo g)), fun g a b => ?_⟩
    by_cases hg : g = (n : Int)
    · subst hg
      exact ⟨BE_tr rb (bo _), uZ_eq⟩
    · obtain ⟨j1, j2⟩ := i2 g a (by omega)
      exact ⟨BE_tr j1 (BE_tr (ro g hg) (bo g)), by rw [uZ_ne (by omega), ec _ (by omega) (by omega)]; exact j2⟩
/-- how the units missing of a good stand before and behind a count -/
theorem wor_split {N F : Int → Int} {g a b : Int} (hN : InX N) (hF : InX F) (hg : 0 ≤ g ∧ g < 8) (ha : 0 ≤ a) (hb : 0 ≤ b) (hu : a + b ≤ restF N g) (hB : BE g (relF a.toNat N g a 3).1 F) : worA N g (a + b) = worA N g a + worA F g b := by
  have hR := inY_R (inY hN.1)
  have hRF := inY_R (inY hF.1)
  have r0 := relF_all a.toNat (r := 3) hR hg (by omega) ha (by omega) (show a ≤ restF N g by omega)
  have hrF := BE_rest hB
  rw [worA_rel (r := 3) hR hg (by omega) (by omega) hu, worA_rel (r := 3) hR hg (by omega) ha (by omega), worA_rel (r := 3) hRF hg (by omega) hb (by omega)]
  rw [relF_add (a + b).toNat hR hg (by omega) ha hb (by omega) hu, relF_fuel (a + b).toNat a.toNat hR hg (by omega) ha (by omega) (by omega) (by omega), relF_fuel (a + b).toNat b.toNat r0.1 hg (by omega) hb (by omega) (by omega) (by omega)]
  rw [(relF_BE b.toNat (r := 3) (q := 3) r0.1 hRF hB hg (by omega) (by omega) hb (by omega) (by omega)).1]
theorem inspect_ok {N F : Int → Int} {l z : Int} (h : InX N) (he : (z, F) = sInspect N l) (hz : 0 ≤ z) : ((0 ≤ l ∧ l < N 4) ∧ N 0 = 2 ∧ N 7 + 1 ≤ 200) ∧ (z = dueF N l ∧ dueF N l ≤ 2147483647) ∧ payF N = dueF N l + payF F ∧ (∀ g : Int, 0 ≤ g → g < 8 → F (64 + 8 * l + g) = 0) ∧ (∀ k g : Int, 0 ≤ k → k < 5 → k ≠ l → 0 ≤ g → g < 8 → F (64 + 8 * k + g) = N (64 + 8 * k + g)) ∧ F (14 + l) = 1 ∧ (∀ k : Int, 0 ≤ k → k < 5 → k ≠ l → F (14 + k) = N (14 + k)) ∧ F 4 = N 4 ∧ F 5 = N 5 ∧ F 7 = N 7 + 1 ∧ F 0 = N 0 := by
  have hX := sInspect_X h l
  rw [← he] at hX
  have hX : InX F := hX
  have hY := inY h.1
  obtain ⟨b0, b1, b2, b3, b4, b5, b6, b7, b8, b9⟩ := inY_b hY
  unfold sInspect at he
  by_cases c1 : ¬ (0 ≤ l ∧ l < N 4)
  · rw [if_pos c1] at he
    have := congrArg Prod.fst he
    dsimp only at this
    omega
  rw [if_neg c1] at he
  by_cases c2 : N 0 ≠ 2
  · rw [if_pos c2] at he
    have := congrArg Prod.fst he
    dsimp only at this
    omega
  rw [if_neg c2] at he
  by_cases c3 : ¬ N 7 + 1 ≤ 200 ∨ ¬ lI (dueF N l) ≤ lI 2147483647
  · rw [if_pos c3] at he
    have := congrArg Prod.fst he
    dsimp only at this
    omega
  rw [if_neg c3] at he
  have c1 := Decidable.not_not.mp c1
  have c2 := Decidable.not_not.mp c2
  have c4 : N 7 + 1 ≤ 200 := Decidable.not_not.mp fun q => c3 (Or.inl q)
  have c5 : lI (dueF N l) ≤ lI 2147483647 := Decidable.not_not.mp fun q => c3 (Or.inr q)
  have hl : 0 ≤ l ∧ l < 5 := by omega
  have hd := due_in h hl
  rw [lI_le (by omega)] at c5
  have ez : z = dueF N l := congrArg Prod.fst he
  have eF : F = sealsF (insF (N 5).toNat (offF (uZ N 8 (N 8 + finF N l)) l 2) l) l := congrArg Prod.snd he
  have pY := y_one (i := 8) (v := N 8 + finF N l) hY (by omega) (by omega) (by omega) (by omega) (by omega) (by
    have := inF h.1
    unfold InF at this
    omega) (by omega)
  have oY := y_off (w := 2) pY hl
  have eO : ∀ k : Int, 0 ≤ k → k < 854 → k ≠ 8 → k ≠ 14 + l → offF (uZ N 8 (N 8 + finF N l)) l 2 k = N k := fun k a b d c => by rw [offF_ne (by have := (pY.2.1 l hl.1 hl.2).2.1.1; omega), uZ_ne d]
  generalize offF (uZ N 8 (N 8 + finF N l)) l 2 = O at oY eO eF
  have hRN := inY_R hY
  have hRO := inY_R oY
  obtain ⟨-, ie⟩ := y_ins (N 5).toNat (l := l) (by omega) oY hl
  obtain ⟨-, ib⟩ := ins_BE (N 5).toNat (l := l) (by omega) oY hl
  have hM : MsO O l 0 := fun g a b => by
    have := miss_le oY hl (g := g) (by omega)
    omega
  have ic := (insF_all (N 5).toNat (by omega) hRO hl hM).2.2.1
  have i7 : insF (N 5).toNat O l 7 = N 7 := by rw [ie 7 (by omega), eO 7 (by omega) (by omega) (by omega) (by omega)]
  have i6 : insF (N 5).toNat O l 6 = N 6 := by rw [ie 6 (by omega), eO 6 (by omega) (by omega) (by omega) (by omega)]
  generalize insF (N 5).toNat O l = I at ie ib ic i7 i6 eF
  have eS : ∀ k : Int, 0 ≤ k → k < 452 → k ≠ 7 → k < 14 ∨ 24 ≤ k → F k = I k := fun k a b c d => by rw [eF]; exact sealsF_lo hl (by omega) ⟨a, b⟩ c d
  have F4 : F 4 = N 4 := by rw [eS 4 (by omega) (by omega) (by omega) (by omega), ie 4 (by omega), eO 4 (by omega) (by omega) (by omega) (by omega)]
  have F5 : F 5 = N 5 := by rw [eS 5 (by omega) (by omega) (by omega) (by omega), ie 5 (by omega), eO 5 (by omega) (by omega) (by omega) (by omega)]
  have F2 : F 2 = N 2 := by rw [eS 2 (by omega) (by omega) (by omega) (by omega), ie 2 (by omega), eO 2 (by omega) (by omega) (by omega) (by omega)]
  have F0 : F 0 = N 0 := by rw [eS 0 (by omega) (by omega) (by omega) (by omega), ie 0 (by omega), eO 0 (by omega) (by omega) (by omega) (by omega)]
  have F7 : F 7 = N 7 + 1 := by rw [eF, sealsF_7 hl (by omega), i7]
  have F14 : F (14 + l) = 1 := by rw [eF, sealsF_14 hl (by omega)]
  have F14o : ∀ k : Int, 0 ≤ k → k < 5 → k ≠ l → F (14 + k) = N (14 + k) := fun k a b c => by rw [eF, sealsF_ne (by omega), ie _ (by omega), eO _ (by omega) (by omega) (by omega) (by omega)]
  have Fz : ∀ g : Int, 0 ≤ g → g < 8 → F (64 + 8 * l + g) = 0 := fun g a b => by
    by_cases hg : g < N 5
    · rw [eS _ (by omega) (by omega) (by omega) (by omega)]
      exact (ib g a (by omega)).2
    · exact ((zero_good hX (g := g) (by omega)).2 l hl.1 hl.2).2
  have Fo : ∀ k g : Int, 0 ≤ k → k < 5 → k ≠ l → 0 ≤ g → g < 8 → F (64 + 8 * k + g) = N (64 + 8 * k + g) := fun k g a b c d e => by
    rw [eS _ (by omega) (by omega) (by omega) (by omega), ic _ (by omega) (by omega) (by omega), eO _ (by omega) (by omega) (by omega) (by omega)]
  have FB : ∀ g : Int, 0 ≤ g → g < N 5 → BE g (relF (N (64 + 8 * l + g)).toNat N g (N (64 + 8 * l + g)) 3).1 F := fun g a b => by
    have m := miss_le hY hl (g := g) (by omega)
    have j1 := (ib g a (by omega)).1
    have j0 : O (64 + 8 * l + g) = N (64 + 8 * l + g) := eO _ (by omega) (by omega) (by omega) (by omega)
    rw [j0] at j1
    have bO : BE g N O := BE_of b6.2 fun k hk => eO k (by omega) (by omega) (by omega) (by omega)
    have j2 := (relF_BE (N (64 + 8 * l + g)).toNat (r := 3) (q := 3) hRN hRO bO (by omega) (by omega) (by omega) m.1 (by omega) m.2.2.1).2
    exact BE_tr j2 (BE_tr j1 (BE_of (by omega) fun k hk => eS k (by omega) (by omega) (by omega) (by omega)))
  refine ⟨⟨c1, c2, c4⟩, ⟨ez, c5⟩, ?_, Fz, Fo, F14, F14o, F4, F5, F7, F0⟩
  have hs : sumZ (fun g => worA N g (sumZ (fun k => N (64 + 8 * k + g)) 5)) (N 5).toNat = sumZ (fun g => worA N g (N (64 + 8 * l + g))) (N 5).toNat + sumZ (fun g => worA F g (sumZ (fun k => F (64 + 8 * k + g)) 5)) (N 5).toNat := by
    rw [← sumZ_add]
    refine sumZ_congr _ fun g a b => ?_
    have hg : 0 ≤ g ∧ g < 8 := by omega
    have m := miss_le hY hl hg
    have mF : missF F g = missF N g + -N (64 + 8 * l + g) := sumZ_one (f := fun k => N (64 + 8 * k + g)) (g := fun k => F (64 + 8 * k + g)) (i := l) (d := -N (64 + 8 * l + g)) 5 hl.1 (by omega) (by rw [Fz g hg.1 hg.2]; omega) fun k x y w => Fo k g x (by omega) w hg.1 hg.2
    show worA N g (missF N g) = worA N g (N (64 + 8 * l + g)) + worA F g (missF F g)
    have w := wor_split (a := N (64 + 8 * l + g)) (b := missF F g) h hX hg m.1 (by omega) (by omega) (FB g hg.1 (by omega))
    rw [show N (64 + 8 * l + g) + missF F g = missF N g by omega] at w
    exact w
  have hcn : cntF F 2 = cntF N 2 + -(if N (14 + l) = 2 then 1 else 0) := by
    unfold cntF
    rw [F4]
    exact sumZ_one (f := fun k => if N (14 + k) = 2 then 1 else 0) (g := fun k => if F (14 + k) = 2 then 1 else 0) (i := l) (N 4).toNat hl.1 (by omega) (by
      rw [F14, if_neg (by omega)]
      omega) fun k x y w => by rw [F14o k x (by omega) w]
  unfold payF dueF
  rw [hs, F5, F2, hcn, Int.add_mul]
  unfold finF
  split
  · omega
  · omega
/-- nothing is to be paid where nothing is missing and nothing torn -/
theorem pay_0 {N : Int → Int} (h : InX N) (h1 : ∀ k : Int, 0 ≤ k → k < N 4 → N (14 + k) = 1) (h2 : ∀ k g : Int, 0 ≤ k → k < N 4 → 0 ≤ g → g < 8 → N (64 + 8 * k + g) = 0) : payF N = 0 := by
  obtain ⟨b0, b1, b2, b3, b4, b5, b6, b7, b8, b9⟩ := inY_b (inY h.1)
  have hc : cntF N 2 = sumZ (fun _ => (0 : Int)) (N 4).toNat := sumZ_congr _ fun k a b => if_neg (by have := h1 k a (by omega); omega)
  have hm : ∀ g : Int, 0 ≤ g → g < 8 → sumZ (fun k => N (64 + 8 * k + g)) 5 = 0 := fun g a b => by
    have e : sumZ (fun k => N (64 + 8 * k + g)) 5 = sumZ (fun _ => (0 : Int)) 5 := sumZ_congr 5 fun k x y => by
      by_cases hk : k < N 4
      · exact h2 k g x hk a b
      · exact ((h.1.2.2.1 k g x (by omega) a b).2.2 (by omega)).2
    rw [e, sumZ_const]
    omega
  have hs : sumZ (fun g => worA N g (sumZ (fun k => N (64 + 8 * k + g)) 5)) (N 5).toNat = sumZ (fun _ => (0 : Int)) (N 5).toNat := sumZ_congr _ fun g a b => by
    rw [hm g a (by omega), worA_rel (r := 0) (inY_R (inY h.1)) (by omega) (by omega) (Int.le_refl 0) (by
      have := inY_c (inY h.1) (g := g) (by omega)
      omega), relF_0 (Int.le_refl 0)]
  rw [sumZ_const] at hc hs
  unfold payF
  rw [hc, hs]
  omega
theorem toPay_eq {N : Int → Int} (h : InX N) : (payF N ≤ 2147483647 ∧ qToPay N = payF N) ∨ (2147483647 < payF N ∧ qToPay N = -3) := by
  have hp := payF_in h
  unfold qToPay
  by_cases hq : payF N ≤ 2147483647
  · rw [if_pos ((lI_le (by omega)).mpr hq)]
    exact Or.inl ⟨hq, rfl⟩
  · rw [if_neg (fun q => hq ((lI_le (by omega)).mp q))]
    exact Or.inr ⟨by omega, rfl⟩
theorem sumZ_swap {f : Int → Int → Int} (b : Nat) : ∀ (a : Nat), sumZ (fun i => sumZ (fun j => f i j) b) a = sumZ (fun j => sumZ (fun i => f i j) a) b
  | 0 => by
    have e : sumZ (fun j => sumZ (fun i => f i j) 0) b = sumZ (fun _ => (0 : Int)) b := rfl
    rw [e, sumZ_const]
    simp [sumZ]
  | a + 1 => by
    show sumZ (fun i => sumZ (fun j => f i j) b) a + sumZ (fun j => f (a : Int) j) b = sumZ (fun j => sumZ (fun i => f i j) a + f (a : Int) j) b
    rw [sumZ_swap b a, sumZ_add]
theorem sumZ_pick {i : Int} (n : Nat) (h0 : 0 ≤ i) (h1 : i < (n : Int)) : sumZ (fun k => if k = i then (1 : Int) else 0) n = 1 := by
  have e := sumZ_one (f := fun _ => (0 : Int)) (g := fun k => if k = i then (1 : Int) else 0) (i := i) (d := 1) n h0 h1 (if_pos rfl) fun k _ _ c => if_neg c
  rw [e, sumZ_const]
  omega
/-- as many seals are on lockers as lockers are sealed -/
theorem seals_on {N : Int → Int} (h : InX N) : sumZ (fun k => if N (855 + k) = 0 then (1 : Int) else 0) (N 7).toNat = cntF N 1 := by
  obtain ⟨b0, b1, b2, b3, b4, b5, b6, b7, b8, b9⟩ := inY_b (inY h.1)
  obtain ⟨g1, g2, -⟩ := h.2.2.2.2.2.1
  have e1 : sumZ (fun k => if N (855 + k) = 0 then (1 : Int) else 0) (N 7).toNat = sumZ (fun k => sumZ (fun l => if N (14 + l) = 1 ∧ N (19 + l) = k + 1 then (1 : Int) else 0) (N 4).toNat) (N 7).toNat := sumZ_congr _ fun k a b => by
    by_cases hk : N (855 + k) = 0
    · rw [if_pos hk]
      have q := g2 (k + 1) (by omega) (by omega) (by rw [show 854 + (k + 1) = 855 + k by omega]; exact hk)
      have e : sumZ (fun l => if N (14 + l) = 1 ∧ N (19 + l) = k + 1 then (1 : Int) else 0) (N 4).toNat = sumZ (fun l => if l = N (452 + (k + 1)) then (1 : Int) else 0) (N 4).toNat := sumZ_congr _ fun l x y => by
        by_cases hl : l = N (452 + (k + 1))
        · rw [if_pos hl, if_pos (by rw [hl]; exact q.2)]
        · rw [if_neg hl, if_neg fun w => hl ?_]
          have := (g1 l x (by omega) w.1).1
          rw [w.2] at this
          exact this.symm
      rw [e, sumZ_pick _ q.1.1 (by omega)]
    · rw [if_neg hk]
      have e : sumZ (fun l => if N (14 + l) = 1 ∧ N (19 + l) = k + 1 then (1 : Int) else 0) (N 4).toNat = sumZ (fun _ => (0 : Int)) (N 4).toNat := sumZ_congr _ fun l x y => if_neg fun w => hk (by
        have := (g1 l x (by omega) w.1).2
        rw [w.2, show 854 + (k + 1) = 855 + k by omega] at this
        exact this)
      rw [e, sumZ_const]
      omega
  rw [e1, sumZ_swap]
  unfold cntF
  refine sumZ_congr _ fun l a b => ?_
  have hL := h.1.2.1 l a (by omega)
  by_cases hl : N (14 + l) = 1
  · rw [if_pos hl]
    have e : sumZ (fun k => if N (14 + l) = 1 ∧ N (19 + l) = k + 1 then (1 : Int) else 0) (N 7).toNat = sumZ (fun k => if k = N (19 + l) - 1 then (1 : Int) else 0) (N 7).toNat := sumZ_congr _ fun k x y => by
      by_cases hk : k = N (19 + l) - 1
      · rw [if_pos hk, if_pos ⟨hl, by omega⟩]
      · rw [if_neg hk, if_neg (by omega)]
    have h1 := hL.2.2 hl
    rw [e, sumZ_pick _ (by omega) (by omega)]
  · rw [if_neg hl]
    have e : sumZ (fun k => if N (14 + l) = 1 ∧ N (19 + l) = k + 1 then (1 : Int) else 0) (N 7).toNat = sumZ (fun _ => (0 : Int)) (N 7).toNat := sumZ_congr _ fun k x y => if_neg (by omega)
    rw [e, sumZ_const]
    omega
