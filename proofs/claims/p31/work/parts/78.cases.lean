theorem locker_ok {N : Int → Int} (h : InX N) : -3 ≤ (sLocker N).1 ∧ (sLocker N).1 ≤ 5 := by
  have b4 := h.1.1.2.2.2.2.1
  unfold sLocker
  split
  · dsimp only; omega
  split
  · dsimp only; omega
  · dsimp only; omega
theorem good_ok {N : Int → Int} (h : InX N) (d : Int) : -3 ≤ (sGood N d).1 ∧ (sGood N d).1 ≤ 8 := by
  have b5 := h.1.1.2.2.2.2.2.1
  unfold sGood
  split
  · dsimp only; omega
  split
  · dsimp only; omega
  · dsimp only; omega
theorem set_ok {N : Int → Int} (h : InX N) (w v : Int) : -1 ≤ (sSet N w v).1 ∧ (sSet N w v).1 ≤ 100000 := by
  have b2 := h.1.1.2.2.1
  have b3 := h.1.1.2.2.2.1
  unfold sSet
  by_cases c : (0 ≤ w ∧ w ≤ 1) ∧ (w ≤ v ∧ v ≤ if w = 0 then 100000 else 99)
  · rw [if_neg (not_not_intro c)]
    dsimp only
    rcases (show w = 0 ∨ w = 1 by omega) with q | q
    · subst q
      rw [show (2 : Int) + 0 = 2 from rfl]
      omega
    · subst q
      rw [show (2 : Int) + 1 = 3 from rfl]
      omega
  · rw [if_pos c]
    dsimp only
    omega
theorem load_ok {N : Int → Int} (h : InX N) (l g u : Int) : (-3 ≤ (sLoad N l g u).1 ∧ (sLoad N l g u).1 ≤ 60) ∧ (0 ≤ (sLoad N l g u).1 → (sLoad N l g u).1 < (sLoad N l g u).2 6 ∧ (sLoad N l g u).2 (212 + (sLoad N l g u).1) = u ∧ (sLoad N l g u).2 (392 + (sLoad N l g u).1) = (sLoad N l g u).2 1 + (sLoad N l g u).2 3) := by
  have hY := inY h.1
  obtain ⟨b0, b1, b2, b3, b4, b5, b6, b7, b8, b9⟩ := inY_b hY
  unfold sLoad
  split
  · exact ⟨by dsimp only; omega, fun q => by dsimp only at q; omega⟩
  rename_i c1
  split
  · exact ⟨by dsimp only; omega, fun q => by dsimp only at q; omega⟩
  rename_i c2
  split
  · exact ⟨by dsimp only; omega, fun q => by dsimp only at q; omega⟩
  rename_i c3
  have c1 := Decidable.not_not.mp c1
  have hl : 0 ≤ l ∧ l < 5 := by omega
  have eO : ∀ k : Int, 0 ≤ k → k < 452 → k < 14 ∨ 19 ≤ k → offF N l 2 k = N k := fun k a b c => offF_lo hY hl ⟨a, b⟩ c
  have B7 : bondF N l g u 7 = N 7 := by
    unfold bondF
    rw [uZ_ne (by omega), uZ_ne (by omega), uZ_ne (by omega), uZ_ne (by omega), uZ_ne (by omega), uZ_ne (by omega), uZ_ne (by omega), uZ_ne (by omega), uZ_ne (by omega), eO 7 (by omega) (by omega) (by omega)]
  have e : ∀ k : Int, 0 ≤ k → k < 452 → k ≠ 7 → k < 14 ∨ 24 ≤ k → sealsF (bondF N l g u) l k = bondF N l g u k := fun k a b c d => sealsF_lo hl (by omega) ⟨a, b⟩ c d
  dsimp only
  rw [e 6 (by omega) (by omega) (by omega) (by omega), e (212 + N 6) (by omega) (by omega) (by omega) (by omega), e (392 + N 6) (by omega) (by omega) (by omega) (by omega), e 1 (by omega) (by omega) (by omega) (by omega), e 3 (by omega) (by omega) (by omega) (by omega)]
  refine ⟨by omega, fun _ => ?_⟩
  have x6 : bondF N l g u 6 = N 6 + 1 := by
    unfold bondF
    rw [uZ_ne (by omega), uZ_ne (by omega), uZ_ne (by omega), uZ_eq]
  have x1 : bondF N l g u 1 = N 1 := by
    unfold bondF
    rw [uZ_ne (by omega), uZ_ne (by omega), uZ_ne (by omega), uZ_ne (by omega), uZ_ne (by omega), uZ_ne (by omega), uZ_ne (by omega), uZ_ne (by omega), uZ_ne (by omega), eO 1 (by omega) (by omega) (by omega)]
  have x3 : bondF N l g u 3 = N 3 := by
    unfold bondF
    rw [uZ_ne (by omega), uZ_ne (by omega), uZ_ne (by omega), uZ_ne (by omega), uZ_ne (by omega), uZ_ne (by omega), uZ_ne (by omega), uZ_ne (by omega), uZ_ne (by omega), eO 3 (by omega) (by omega) (by omega)]
  have x212 : bondF N l g u (212 + N 6) = u := by
    unfold bondF
    rw [uZ_ne (by omega), uZ_ne (by omega), uZ_ne (by omega), uZ_ne (by omega), uZ_ne (by omega), uZ_ne (by omega), uZ_ne (by omega), uZ_eq]
  have x392 : bondF N l g u (392 + N 6) = N 1 + N 3 := by
    unfold bondF
    rw [uZ_ne (by omega), uZ_ne (by omega), uZ_ne (by omega), uZ_ne (by omega), uZ_eq]
  rw [x6, x1, x3, x212, x392]
  exact ⟨by omega, rfl, rfl⟩
/-- what a release answers -/
theorem relP_rg {P : Int → Int} {g u r : Int} (hR : InR P) (hg : 0 ≤ g ∧ g < 8) (hr : 0 ≤ r ∧ r < 4) (hu : 0 ≤ u) (hl : u ≤ restF P g) (hG : GM P) : 0 ≤ (relP P g u r).1 ∧ (relP P g u r).2 (10 + r) = P (10 + r) + (relP P g u r).1 ∧ ∀ k : Int, 14 ≤ k → k < 120 → (relP P g u r).2 k = P k := by
  have g0 := relF_gm u.toNat hR hg hr hu (by omega) hl hG
  have r0 := relF_all u.toNat (r := r) hR hg hr hu (by omega) hl
  exact ⟨g0.2.1, g0.2.2.1, fun k a b => r0.2.1 k (Or.inr (Or.inl ⟨a, b⟩))⟩
theorem less_rest {N : Int → Int} (h : InX N) {l g u : Int} (hl : 0 ≤ l ∧ l < 5) (hg : 0 ≤ g ∧ g < 8) (hu : u ≤ N (24 + 8 * l + g)) : u ≤ restF N g := by
  have h1 := has_rest h.1 hl hg
  have h2 := (h.1.2.2.1 l g hl.1 hl.2 hg.1 hg.2).2.1.1
  omega
theorem em_all {N : Int → Int} (h : InX N) : ∀ r : Int, 0 ≤ r → r < 4 → 0 ≤ N (10 + r) ∧ N (10 + r) ≤ 2147483647 := fun r a b => by
  have he := em_in h
  rcases (show r = 0 ∨ r = 1 ∨ r = 2 ∨ r = 3 by omega) with q | q | q | q
  · subst q
    exact he.2.2.1
  · subst q
    exact he.2.2.2.1
  · subst q
    exact he.2.2.2.2.1
  · subst q
    exact he.2.2.2.2.2
theorem use_ok {N : Int → Int} (h : InX N) (l g u : Int) : (-3 ≤ (sUse N l g u).1 ∧ (sUse N l g u).1 ≤ 2147483647) ∧ (0 ≤ (sUse N l g u).1 → (0 ≤ g ∧ g < N 5) ∧ (sUse N l g u).1 = qWorth N g u ∧ N 0 = 0) := by
  have hY := inY h.1
  obtain ⟨b0, b1, b2, b3, b4, b5, b6, b7, b8, b9⟩ := inY_b hY
  have hX2 := sUse_X h l g u
  unfold sUse at hX2 ⊢
  split
  · exact ⟨by dsimp only; omega, fun q => by dsimp only at q; omega⟩
  rename_i c1
  rw [if_neg c1] at hX2
  split
  · exact ⟨by dsimp only; omega, fun q => by dsimp only at q; omega⟩
  rename_i c2
  rw [if_neg c2] at hX2
  have c1 := Decidable.not_not.mp c1
  have hl : 0 ≤ l ∧ l < 5 := by omega
  have hg : 0 ≤ g ∧ g < 8 := by omega
  have hh := lessRel (r := 0) hY hl hg (u := u) (by omega)
  have e : ∀ k : Int, k < 24 ∨ 64 ≤ k → uZ N (24 + 8 * l + g) (N (24 + 8 * l + g) - u) k = N k := fun k hk => uZ_ne (by omega)
  have hu := less_rest h hl hg (u := u) (by omega)
  have hB : BE g N (uZ N (24 + 8 * l + g) (N (24 + 8 * l + g) - u)) := BE_of b6.2 fun k hk => e k (by omega)
  have hw := amt_worth (q := 0) h (inY_R hh.1) hB (by omega) (by omega) hu (by omega)
  have hG := gm_eq b6.2 h.2.2.1 fun k hk => e k (by omega)
  have hr := relP_rg (r := 0) (inY_R hh.1) hg (by omega) (show 0 ≤ u by omega) (by rw [BE_rest hB]; exact hu) hG
  have h10 := em_all hX2 0 (by omega) (by omega)
  have h10N := em_all h 0 (by omega) (by omega)
  rw [hr.2.1, e (10 + 0) (by omega)] at h10
  exact ⟨by omega, fun _ => ⟨by omega, hw, by omega⟩⟩
theorem bring_ok {N : Int → Int} (h : InX N) (l g u : Int) : (-3 ≤ (sBring N l g u).1 ∧ (sBring N l g u).1 ≤ 2147483647) ∧ (0 ≤ (sBring N l g u).1 → (0 ≤ g ∧ g < N 5) ∧ (sBring N l g u).1 = qWorth N g u ∧ N 0 = 2) := by
  have hY := inY h.1
  obtain ⟨b0, b1, b2, b3, b4, b5, b6, b7, b8, b9⟩ := inY_b hY
  have hX2 := sBring_X h l g u
  unfold sBring at hX2 ⊢
  split
  · exact ⟨by dsimp only; omega, fun q => by dsimp only at q; omega⟩
  rename_i c1
  rw [if_neg c1] at hX2
  split
  · exact ⟨by dsimp only; omega, fun q => by dsimp only at q; omega⟩
  rename_i c2
  rw [if_neg c2] at hX2
  split
  · exact ⟨by dsimp only; omega, fun q => by dsimp only at q; omega⟩
  rename_i c3
  rw [if_neg c3] at hX2
  have c1 := Decidable.not_not.mp c1
  have c3 := Decidable.not_not.mp c3
  have hl : 0 ≤ l ∧ l < 5 := by omega
  have hg : 0 ≤ g ∧ g < 8 := by omega
  have hO := y_off (w := 2) hY hl
  have eO : ∀ k : Int, 0 ≤ k → k < 452 → k < 14 ∨ 19 ≤ k → offF N l 2 k = N k := fun k a b c => offF_lo hY hl ⟨a, b⟩ c
  have ec : offF N l 2 (24 + 8 * l + g) = N (24 + 8 * l + g) := eO _ (by omega) (by omega) (by omega)
  have hh := lessRel (r := 1) hO hl hg (u := u) (by omega)
  rw [ec] at hh
  have eV : ∀ k : Int, 0 ≤ k → k < 452 → k < 14 ∨ (19 ≤ k ∧ k < 24) ∨ 64 ≤ k → uZ (offF N l 2) (24 + 8 * l + g) (N (24 + 8 * l + g) - u) k = N k := fun k a b c => by rw [uZ_ne (by omega), eO k a b (by omega)]
  have pU := hh.1
  generalize uZ (offF N l 2) (24 + 8 * l + g) (N (24 + 8 * l + g) - u) = U at eV pU hX2 ⊢
  have U7 : U 7 = N 7 := eV 7 (by omega) (by omega) (by omega)
  have e : ∀ k : Int, 0 ≤ k → k < 452 → k ≠ 7 → k < 14 ∨ 64 ≤ k → sealsF U l k = N k := fun k a b c d => by rw [sealsF_lo hl (by omega) ⟨a, b⟩ c (by omega), eV k a b (by omega)]
  have pS := y_seal pU hl (by omega)
  generalize sealsF U l = P at e pS hX2 ⊢
  have hu := less_rest h hl hg (u := u) (by omega)
  have hB : BE g N P := BE_of b6.2 fun k hk => e k (by omega) (by omega) (by omega) (by omega)
  have hw := amt_worth (q := 1) h (inY_R pS) hB (by omega) (by omega) hu (by omega)
  have hG : GM P := gm_eq b6.2 h.2.2.1 fun k hk => e k (by omega) (by omega) (by omega) (by omega)
  have hr := relP_rg (r := 1) (inY_R pS) hg (by omega) (show 0 ≤ u by omega) (by rw [BE_rest hB]; exact hu) hG
  have h10 := em_all hX2 1 (by omega) (by omega)
  have h10N := em_all h 1 (by omega) (by omega)
  rw [hr.2.1, e (10 + 1) (by omega) (by omega) (by omega) (by omega)] at h10
  exact ⟨by omega, fun _ => ⟨by omega, hw, by omega⟩⟩
theorem smash_ok {N : Int → Int} (h : InX N) (l g u w : Int) : (-3 ≤ (sSmash N l g u w).1 ∧ (sSmash N l g u w).1 ≤ 2147483647) ∧ (0 ≤ (sSmash N l g u w).1 → (0 ≤ g ∧ g < N 5) ∧ (sSmash N l g u w).2 5 = N 5 ∧ (0 < w → (sSmash N l g u w).1 = qWorth N g u ∧ missF (sSmash N l g u w).2 g = missF N g) ∧ (¬ 0 < w → (sSmash N l g u w).1 = 0 ∧ missF (sSmash N l g u w).2 g = missF N g + u)) := by
  have hY := inY h.1
  obtain ⟨b0, b1, b2, b3, b4, b5, b6, b7, b8, b9⟩ := inY_b hY
  have hX2 := sSmash_X h l g u w
  unfold sSmash at hX2 ⊢
  split
  · exact ⟨by dsimp only; omega, fun q => by dsimp only at q; omega⟩
  rename_i c1
  rw [if_neg c1] at hX2
  split
  · exact ⟨by dsimp only; omega, fun q => by dsimp only at q; omega⟩
  rename_i c2
  rw [if_neg c2] at hX2
  have c1 := Decidable.not_not.mp c1
  have hl : 0 ≤ l ∧ l < 5 := by omega
  have hg : 0 ≤ g ∧ g < 8 := by omega
  split
  · rename_i c3
    rw [if_pos c3] at hX2
    have hh := lessRel (r := 2) hY hl hg (u := u) (by omega)
    have e : ∀ k : Int, k < 24 ∨ 64 ≤ k → uZ N (24 + 8 * l + g) (N (24 + 8 * l + g) - u) k = N k := fun k hk => uZ_ne (by omega)
    have hu := less_rest h hl hg (u := u) (by omega)
    have hB : BE g N (uZ N (24 + 8 * l + g) (N (24 + 8 * l + g) - u)) := BE_of b6.2 fun k hk => e k (by omega)
    have hw := amt_worth (q := 2) h (inY_R hh.1) hB (by omega) (by omega) hu (by omega)
    have hG := gm_eq b6.2 h.2.2.1 fun k hk => e k (by omega)
    have hr := relP_rg (r := 2) (inY_R hh.1) hg (by omega) (show 0 ≤ u by omega) (by rw [BE_rest hB]; exact hu) hG
    have r5 : (relP (uZ N (24 + 8 * l + g) (N (24 + 8 * l + g) - u)) g u 2).2 5 = N 5 := by
      have r0 := (relF_all u.toNat (r := 2) (inY_R hh.1) hg (by omega) (show 0 ≤ u by omega) (by omega) (by rw [BE_rest hB]; exact hu)).2.1 5 (Or.inl (by omega))
      exact r0.trans (e 5 (by omega))
    have h10 := em_all hX2 2 (by omega) (by omega)
    have h10N := em_all h 2 (by omega) (by omega)
    rw [hr.2.1, e (10 + 2) (by omega)] at h10
    refine ⟨by omega, fun _ => ⟨by omega, r5, fun _ => ⟨hw, ?_⟩, fun q => absurd c3 q⟩⟩
    exact missF_eq hg fun k a b => by rw [hr.2.2 k (by omega) (by omega), e k (by omega)]
  · rename_i c3
    dsimp only
    refine ⟨by omega, fun _ => ⟨by omega, by rw [uZ_ne (by omega), uZ_ne (by omega)], fun q => absurd q c3, fun _ => ⟨rfl, ?_⟩⟩⟩
    rw [missF_up hl hg, missF_eq (N := N) hg fun k x y => uZ_ne (by omega), uZ_ne (i := 24 + 8 * l + g) (k := 64 + 8 * l + g) (by omega)]
    omega
theorem tear_ok {N : Int → Int} (h : InX N) (l : Int) : (-3 ≤ (sTear N l).1 ∧ (sTear N l).1 ≤ 200) ∧ (0 ≤ (sTear N l).1 → ((0 ≤ l ∧ l < N 4) ∧ N (14 + l) = 1 ∧ (sTear N l).1 = N (19 + l)) ∧ (1 ≤ N (19 + l) ∧ N (19 + l) ≤ (sTear N l).2 7) ∧ (sTear N l).2 (854 + N (19 + l)) = 3 ∧ (sTear N l).2 (14 + l) = 2 ∧ (sTear N l).2 4 = N 4) := by
  have hY := inY h.1
  obtain ⟨b0, b1, b2, b3, b4, b5, b6, b7, b8, b9⟩ := inY_b hY
  unfold sTear
  split
  · exact ⟨by dsimp only; omega, fun q => by dsimp only at q; omega⟩
  rename_i c1
  split
  · exact ⟨by dsimp only; omega, fun q => by dsimp only at q; omega⟩
  rename_i c2
  have c1 := Decidable.not_not.mp c1
  have c2 := Decidable.not_not.mp c2
  have hL := hY.2.1 l c1.1 (by omega)
  have h1 := hL.2.2 c2
  dsimp only
  refine ⟨by omega, fun _ => ⟨⟨c1, c2, rfl⟩, ?_, uZ_eq, ?_, ?_⟩⟩
  · rw [uZ_ne (by omega), uZ_ne (by omega)]
    omega
  · rw [uZ_ne (by omega), uZ_eq]
  · rw [uZ_ne (by omega), uZ_ne (by omega)]
theorem insp_ok {N : Int → Int} (h : InX N) (l : Int) : (-3 ≤ (sInspect N l).1 ∧ (sInspect N l).1 ≤ 2147483647) ∧ (0 ≤ (sInspect N l).1 → (0 ≤ l ∧ l < N 4) ∧ (finF N l ≤ (sInspect N l).1) ∧ sumZ (fun k => (sInspect N l).2 (64 + 8 * l + k)) 8 = 0 ∧ (sInspect N l).2 (14 + l) = 1 ∧ (sInspect N l).2 4 = N 4) := by
  by_cases hz : 0 ≤ (sInspect N l).1
  · obtain ⟨⟨q0, -, -⟩, q2, -, q4, -, q6, -, q8, -, -, -⟩ := inspect_ok h (z := (sInspect N l).1) (F := (sInspect N l).2) rfl hz
    have b4 := h.1.1.2.2.2.2.1
    have hd := due_in h (l := l) (by omega)
    refine ⟨by omega, fun _ => ⟨q0, by omega, ?_, q6, q8⟩⟩
    have e : sumZ (fun k => (sInspect N l).2 (64 + 8 * l + k)) 8 = sumZ (fun _ => (0 : Int)) 8 := sumZ_congr 8 fun k a b => q4 k a (by omega)
    rw [e, sumZ_const]
    omega
  · refine ⟨?_, fun q => absurd q hz⟩
    unfold sInspect at hz ⊢
    split
    · dsimp only; omega
    split
    · dsimp only; omega
    split
    · dsimp only; omega
    · rename_i c1 c2 c3
      exfalso
      have hd := due_in h (l := l) (by have b4 := h.1.1.2.2.2.2.1; omega)
      rw [if_neg c1, if_neg c2, if_neg c3] at hz
      dsimp only at hz
      omega
theorem cross_ok {N : Int → Int} (h : InX N) {z : Int} (hz : (N 0 = 1 ∧ (z = 0 ∨ z = 2)) ∨ (N 0 ≠ 1 ∧ z = 1)) : (sCross N z).1 = -3 ∨ (((sCross N z).1 = if N 0 = 0 then N 4 else if z = 0 then cntF N 1 else 0) ∧ (sCross N z).2 0 = z) := by
  have hY := inY h.1
  obtain ⟨b0, b1, b2, b3, b4, b5, b6, b7, b8, b9⟩ := inY_b hY
  unfold sCross
  rw [if_neg (by omega), if_neg (by omega)]
  split
  · exact Or.inl rfl
  rename_i c3
  right
  dsimp only
  refine ⟨?_, ?_⟩
  · unfold howmF
    by_cases h0 : N 0 = 0
    · rw [if_pos h0, if_pos h0]
      exact cntF_all b4.1 (inZ h.1 h0)
    · rw [if_neg h0, if_neg h0]
  · have pY : InY (uZ N 0 z) := y_one hY (by omega) (by omega) (by omega) (by omega) (by omega) (by omega) (by omega)
    by_cases hz0 : z = 0
    · subst hz0
      obtain ⟨-, i2, -⟩ := y_cr0 (N 4).toNat (w := N 0) (by omega) pY
      rw [i2 0 (by omega) (by omega) (by omega), uZ_eq]
    · by_cases hw : N 0 = 0
      · have hh : howmF N z = N 4 := by
          unfold howmF
          rw [if_pos hw]
          exact cntF_all b4.1 (inZ h.1 hw)
        rw [hw]
        obtain ⟨-, j2, -⟩ := y_cr1 (N 4).toNat (z := z) (by omega) hz0 pY (by rw [uZ_ne (by omega)]; omega)
        rw [j2 0 (by omega) (by omega) (by omega) (by omega), uZ_eq]
      · rw [cr_2 _ hz0 hw, uZ_eq]
theorem worth_rg {N : Int → Int} (h : InX N) {g u : Int} (hu : 0 ≤ u ∧ u ≤ 30) : -4 ≤ qWorth N g u ∧ qWorth N g u ≤ 30000000 := by
  have h1 := worA_in (N := N) (g := g) (u := u) (inY_R (inY h.1)) hu.1
  unfold qWorth
  split
  · omega
  split
  · omega
  · omega
theorem pass_ok {N : Int → Int} (h : InX N) (d : Int) : (-3 ≤ (sPass N d).1 ∧ (sPass N d).1 ≤ 2147483647) ∧ (0 ≤ (sPass N d).1 → (sPass N d).2 1 = N 1 + d ∧ (sPass N d).2 13 = N 13 + (sPass N d).1) := by
  refine ⟨pass_rg h d, fun hz => ?_⟩
  by_cases c1 : 1 ≤ d ∧ d ≤ 60
  · by_cases c2 : 5000 < N 1 + d
    · unfold sPass at hz
      rw [if_neg (by omega), if_pos c2] at hz
      dsimp only at hz
      omega
    · have := pass_amt h c1 (by omega)
      exact ⟨this.2.2, this.1⟩
  · unfold sPass at hz
    rw [if_pos c1] at hz
    dsimp only at hz
    omega
