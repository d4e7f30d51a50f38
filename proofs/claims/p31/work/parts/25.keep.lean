theorem sCross_inv {N : Int → Int} (h : Inv N) (z : Int) : Inv (sCross N z).2 := by
  have hY := inY h
  obtain ⟨b0, b1, b2, b3, b4, b5, b6, b7, b8, b9⟩ := inY_b hY
  unfold sCross
  split
  · exact h
  rename_i c1
  split
  · exact h
  rename_i c2
  split
  · exact h
  rename_i c3
  show Inv (crF (N 4).toNat (uZ N 0 z) z (N 0))
  have c1 := Decidable.not_not.mp c1
  have hP : InY (uZ N 0 z) := y_one hY (by omega) (by omega) (by omega) (by omega) (by omega) (by omega) (by omega)
  by_cases hz : z = 0
  · subst hz
    obtain ⟨i1, i2, i3⟩ := y_cr0 (N 4).toNat (w := N 0) (by omega) hP
    refine inv_Y i1 (fun _ l a b => ?_) (iF_eq (inF h) (by rw [i2 8 (by omega) (by omega) (by omega), uZ_ne (by omega)]) (by rw [i2 7 (by omega) (by omega) (by omega), uZ_ne (by omega)]; exact Int.le_refl _))
    rw [i2 4 (by omega) (by omega) (by omega), uZ_ne (by omega)] at b
    exact i3 l a (by omega)
  · by_cases hw : N 0 = 0
    · have hh : howmF N z = N 4 := by
        unfold howmF
        rw [if_pos hw]
        exact cntF_all b4.1 (inZ h hw)
      have h7 : N 7 + N 4 ≤ 200 := by
        rw [hh] at c3
        omega
      rw [hw]
      obtain ⟨i1, i2, i3⟩ := y_cr1 (N 4).toNat (z := z) (by omega) hz hP (by rw [uZ_ne (by omega)]; omega)
      refine inv_Y i1 (fun q => ?_) (iF_eq (inF h) (by rw [i2 8 (by omega) (by omega) (by omega) (by omega), uZ_ne (by omega)]) (by rw [i3, uZ_ne (by omega)]; omega))
      rw [i2 0 (by omega) (by omega) (by omega) (by omega), uZ_eq] at q
      exact absurd q hz
    · rw [cr_2 _ hz hw]
      exact inv_Y hP (fun q => by rw [uZ_eq] at q; exact absurd q hz) (iF_eq (inF h) (uZ_ne (by omega)) (by rw [uZ_ne (by omega)]; exact Int.le_refl _))
/-- units that leave a locker are released -/
theorem lessRel {P : Int → Int} {l g u r : Int} (h : InY P) (hl : 0 ≤ l ∧ l < 5) (hg : 0 ≤ g ∧ g < 8) (hu : 0 ≤ u ∧ u ≤ P (24 + 8 * l + g)) : InY (uZ P (24 + 8 * l + g) (P (24 + 8 * l + g) - u)) ∧ hasF (uZ P (24 + 8 * l + g) (P (24 + 8 * l + g) - u)) g + missF (uZ P (24 + 8 * l + g) (P (24 + 8 * l + g) - u)) g + u ≤ restF (uZ P (24 + 8 * l + g) (P (24 + 8 * l + g) - u)) g := by
  refine ⟨y_less h hl hg (by omega), ?_⟩
  have h1 := h.2.2.2.2.2.1 g hg.1 hg.2
  rw [hasF_up hl hg, missF_eq (N := P) hg fun k a b => uZ_ne (by omega), rest_has g (by omega) (inY_b h).2.2.2.2.2.2.1.2]
  omega
theorem relP_S {N M : Int → Int} {g u r : Int} (h : Inv N) (hM : InY M) (hg : 0 ≤ g ∧ g < 8) (hr : 0 ≤ r ∧ r < 4) (hu : 0 ≤ u) (hs : hasF M g + missF M g + u ≤ restF M g) (e : ∀ k : Int, k = 0 ∨ k = 4 ∨ k = 7 ∨ k = 8 ∨ (14 ≤ k ∧ k < 19) → M k = N k) : Inv (relP M g u r).2 := by
  have hc := inY_c hM hg
  refine inv_S h (y_rel hM hg hr hu (by omega) hs) fun k hk => ?_
  show (relF u.toNat M g u r).1 k = N k
  rw [rel_0 hM hg hr hu (by omega) (by omega) k (by omega), e k hk]
theorem sUse_inv {N : Int → Int} (h : Inv N) (l g u : Int) : Inv (sUse N l g u).2 := by
  have hY := inY h
  obtain ⟨b0, b1, b2, b3, b4, b5, b6, b7, b8, b9⟩ := inY_b hY
  unfold sUse
  split
  · exact h
  rename_i c1
  split
  · exact h
  rename_i c2
  have c1 := Decidable.not_not.mp c1
  have hh := lessRel (r := 0) hY (l := l) (g := g) (u := u) (by omega) (by omega) (by omega)
  exact relP_S h hh.1 (by omega) (by omega) (by omega) hh.2 fun k hk => uZ_ne (by omega)
theorem offF_lo {N : Int → Int} {l w k : Int} (h : InY N) (hl : 0 ≤ l ∧ l < 5) (hk : 0 ≤ k ∧ k < 452) (h1 : k < 14 ∨ 19 ≤ k) : offF N l w k = N k := offF_ne (by have := (h.2.1 l hl.1 hl.2).2.1.1; omega)
theorem sBring_inv {N : Int → Int} (h : Inv N) (l g u : Int) : Inv (sBring N l g u).2 := by
  have hY := inY h
  obtain ⟨b0, b1, b2, b3, b4, b5, b6, b7, b8, b9⟩ := inY_b hY
  unfold sBring
  split
  · exact h
  rename_i c1
  split
  · exact h
  rename_i c2
  split
  · exact h
  rename_i c3
  have c1 := Decidable.not_not.mp c1
  have c3 := Decidable.not_not.mp c3
  have hP := y_off (w := 2) hY (l := l) (by omega)
  have eP : ∀ k : Int, 0 ≤ k → k < 452 → k < 14 ∨ 19 ≤ k → offF N l 2 k = N k := fun k a b c => offF_lo hY (by omega) ⟨a, b⟩ c
  have ec : offF N l 2 (24 + 8 * l + g) = N (24 + 8 * l + g) := eP _ (by omega) (by omega) (by omega)
  have hh := lessRel (r := 1) hP (l := l) (g := g) (u := u) (by omega) (by omega) (by omega)
  rw [ec] at hh
  have e7 : uZ (offF N l 2) (24 + 8 * l + g) (N (24 + 8 * l + g) - u) 7 = N 7 := by rw [uZ_ne (by omega), eP 7 (by omega) (by omega) (by omega)]
  have hS := y_seal hh.1 (l := l) (by omega) (by rw [e7]; omega)
  have eS : ∀ k : Int, 0 ≤ k → k < 452 → k ≠ 7 → k < 14 ∨ 24 ≤ k → sealsF (uZ (offF N l 2) (24 + 8 * l + g) (N (24 + 8 * l + g) - u)) l k = uZ (offF N l 2) (24 + 8 * l + g) (N (24 + 8 * l + g) - u) k := fun k a b c d => sealsF_lo (by omega) (by rw [e7]; omega) ⟨a, b⟩ c d
  have hgg : 0 ≤ g ∧ g < 8 := by omega
  have hs := hh.2
  rw [← hasF_eq (N := uZ (offF N l 2) (24 + 8 * l + g) (N (24 + 8 * l + g) - u)) (M := sealsF (uZ (offF N l 2) (24 + 8 * l + g) (N (24 + 8 * l + g) - u)) l) hgg fun k a b => eS k (by omega) (by omega) (by omega) (by omega), ← missF_eq (N := uZ (offF N l 2) (24 + 8 * l + g) (N (24 + 8 * l + g) - u)) (M := sealsF (uZ (offF N l 2) (24 + 8 * l + g) (N (24 + 8 * l + g) - u)) l) hgg fun k a b => eS k (by omega) (by omega) (by omega) (by omega), ← sealsF_rest (inY_R hh.1) (l := l) (by omega) g] at hs
  have hc := inY_c hS hgg
  have hk : ∀ k : Int, k < 10 ∨ (14 ≤ k ∧ k < 120) ∨ (152 ≤ k ∧ k < 272) ∨ 332 ≤ k → _ := rel_0 (n := u.toNat) (r := 1) hS hgg (by omega) (show 0 ≤ u by omega) (by omega) (by omega)
  refine inv_N h (M := (relF u.toNat (sealsF (uZ (offF N l 2) (24 + 8 * l + g) (N (24 + 8 * l + g) - u)) l) g u 1).1) (y_rel hS hgg (by omega) (by omega) (by omega) hs) ?_ (by omega) ?_ ?_
  · rw [hk 0 (by omega), eS 0 (by omega) (by omega) (by omega) (by omega), uZ_ne (by omega), eP 0 (by omega) (by omega) (by omega)]
  · rw [hk 8 (by omega), eS 8 (by omega) (by omega) (by omega) (by omega), uZ_ne (by omega), eP 8 (by omega) (by omega) (by omega)]
  · rw [hk 7 (by omega), sealsF_7 (by omega) (by rw [e7]; omega), e7]
    omega
theorem sSmash_inv {N : Int → Int} (h : Inv N) (l g u w : Int) : Inv (sSmash N l g u w).2 := by
  have hY := inY h
  obtain ⟨b0, b1, b2, b3, b4, b5, b6, b7, b8, b9⟩ := inY_b hY
  unfold sSmash
  split
  · exact h
  rename_i c1
  split
  · exact h
  rename_i c2
  have c1 := Decidable.not_not.mp c1
  have hgg : 0 ≤ g ∧ g < 8 := by omega
  have hll : 0 ≤ l ∧ l < 5 := by omega
  split
  · have hh := lessRel (r := 2) hY (l := l) (g := g) (u := u) hll hgg (by omega)
    exact relP_S h hh.1 hgg (by omega) (by omega) hh.2 fun k hk => uZ_ne (by omega)
  · show Inv (uZ (uZ N (24 + 8 * l + g) (N (24 + 8 * l + g) - u)) (64 + 8 * l + g) (N (64 + 8 * l + g) + u))
    have hr := has_rest h hll hgg
    have hm := (inY_c hY hgg).2.2.2
    obtain ⟨h1, h2, h3⟩ := h.2.2.1 l g hll.1 hll.2 hgg.1 hgg.2
    have hH := iH_upM (v := N (64 + 8 * l + g) + u) (iH_up (v := N (24 + 8 * l + g) - u) h.2.2.1 hll hgg (by omega) (fun q => by omega)) hll hgg (by omega) (fun q => by rw [uZ_ne (by omega)] at q; omega)
    refine inv_S h (y_cells hY (fun k a b => by rw [uZ_ne (by omega), uZ_ne (by omega)]) hH fun q a b => ?_) fun k hk => by rw [uZ_ne (by omega), uZ_ne (by omega)]
    rw [hasF_eq (N := uZ N (24 + 8 * l + g) (N (24 + 8 * l + g) - u)) ⟨a, b⟩ fun k x y => uZ_ne (by omega)]
    by_cases hq : q = g
    · rw [hq, hasF_up hll hgg, missF_up hll hgg, missF_eq (N := N) hgg fun k x y => uZ_ne (by omega), uZ_ne (i := 24 + 8 * l + g) (k := 64 + 8 * l + g) (by omega)]
      omega
    · rw [hasF_up2 hll hgg ⟨a, b⟩ hq, missF_up2 hll hgg ⟨a, b⟩ hq, missF_eq (N := N) ⟨a, b⟩ fun k x y => uZ_ne (by omega)]
      exact Int.le_refl _
theorem sTear_inv {N : Int → Int} (h : Inv N) (l : Int) : Inv (sTear N l).2 := by
  have hY := inY h
  obtain ⟨b0, b1, b2, b3, b4, b5, b6, b7, b8, b9⟩ := inY_b hY
  unfold sTear
  split
  · exact h
  rename_i c1
  split
  · exact h
  rename_i c2
  have c1 := Decidable.not_not.mp c1
  have c2 := Decidable.not_not.mp c2
  have hL := h.2.1 l c1.1 (by omega)
  have hz : N 0 ≠ 0 := fun q => by have := inZ h q l c1.1 c1.2; omega
  show Inv (uZ (uZ N (14 + l) 2) (854 + N (19 + l)) 3)
  exact inv_N h (y_hi (v := 3) (i := 854 + N (19 + l)) (y_state (v := 2) hY (l := l) (by omega) (Or.inr rfl)) (by omega)) (by rw [uZ_ne (by omega), uZ_ne (by omega)]) hz (by rw [uZ_ne (by omega), uZ_ne (by omega)]) (by rw [uZ_ne (by omega), uZ_ne (by omega)]; exact Int.le_refl _)
theorem sInspect_inv {N : Int → Int} (h : Inv N) (l : Int) : Inv (sInspect N l).2 := by
  have hY := inY h
  obtain ⟨b0, b1, b2, b3, b4, b5, b6, b7, b8, b9⟩ := inY_b hY
  unfold sInspect
  split
  · exact h
  rename_i c1
  split
  · exact h
  rename_i c2
  split
  · exact h
  rename_i c3
  have c3 : N 7 + 1 ≤ 200 := Decidable.not_not.mp fun q => c3 (Or.inl q)
  show Inv (sealsF (insF (N 5).toNat (offF (uZ N 8 (N 8 + finF N l)) l 2) l) l)
  have c1 := Decidable.not_not.mp c1
  have hll : 0 ≤ l ∧ l < 5 := by omega
  have hF := inF h
  unfold InF at hF
  have hf : 0 ≤ finF N l ∧ finF N l ≤ 100000 := by
    unfold finF
    split <;> omega
  have hP := y_one (i := 8) (v := N 8 + finF N l) hY (by omega) (by omega) (by omega) (by omega) (by omega) (by omega) (by omega)
  have hO := y_off (w := 2) hP hll
  obtain ⟨i1, i2⟩ := y_ins (N 5).toNat (l := l) (by omega) hO hll
  have eO : ∀ k : Int, 0 ≤ k → k < 14 → k ≠ 8 → insF (N 5).toNat (offF (uZ N 8 (N 8 + finF N l)) l 2) l k = N k ∨ 10 ≤ k := fun k a b c => by
    by_cases hk : k < 10
    · left
      rw [i2 k (by omega), offF_lo hP hll ⟨a, by omega⟩ (by omega), uZ_ne c]
    · right
      omega
  have e7 : insF (N 5).toNat (offF (uZ N 8 (N 8 + finF N l)) l 2) l 7 = N 7 := by rw [i2 7 (by omega), offF_lo hP hll (by omega) (by omega), uZ_ne (by omega)]
  have e0 : insF (N 5).toNat (offF (uZ N 8 (N 8 + finF N l)) l 2) l 0 = N 0 := by rw [i2 0 (by omega), offF_lo hP hll (by omega) (by omega), uZ_ne (by omega)]
  have e8 : insF (N 5).toNat (offF (uZ N 8 (N 8 + finF N l)) l 2) l 8 = N 8 + finF N l := by rw [i2 8 (by omega), offF_lo hP hll (by omega) (by omega), uZ_eq]
  refine inv_Y (y_seal i1 hll (by omega)) (fun q => ?_) ?_
  · rw [sealsF_lo hll (by omega) (by omega) (by omega) (by omega), e0] at q
    omega
  · unfold InF
    rw [sealsF_lo hll (by omega) (by omega) (by omega) (by omega), sealsF_7 hll (by omega), e8, e7]
    omega
theorem sPass_inv {N : Int → Int} (h : Inv N) (d : Int) : Inv (sPass N d).2 := by
  have hY := inY h
  unfold sPass
  split
  · exact h
  rename_i c1
  split
  · exact h
  rename_i c2
  have c1 := Decidable.not_not.mp c1
  obtain ⟨i1, i2, i3⟩ := y_day d.toNat hY (by omega)
  show Inv (dayF d.toNat N).1
  exact inv_S h i1 fun k hk => i3 k (by omega) (by omega)
theorem sLocker_inv {N : Int → Int} (h : Inv N) : Inv (sLocker N).2 := by
  have hY := inY h
  obtain ⟨b0, b1, b2, b3, b4, b5, b6, b7, b8, b9⟩ := inY_b hY
  unfold sLocker
  split
  · exact h
  rename_i c1
  split
  · exact h
  rename_i c2
  have c1 := Decidable.not_not.mp c1
  have hll : 0 ≤ N 4 ∧ N 4 < 5 := by omega
  have e : ∀ k : Int, 0 ≤ k → k < 452 → k ≠ 7 → (k < 14 ∨ 24 ≤ k) → sealsF N (N 4) k = N k := fun k a b c d => sealsF_lo hll b7.1 ⟨a, b⟩ c d
  show Inv (uZ (sealsF N (N 4)) 4 (N 4 + 1))
  exact inv_N h (y_four (v := N 4 + 1) (y_seal hY hll (by omega)) (by rw [e 4 (by omega) (by omega) (by omega) (by omega)]; omega)) (by rw [uZ_ne (by omega), e 0 (by omega) (by omega) (by omega) (by omega)]) (by omega) (by rw [uZ_ne (by omega), e 8 (by omega) (by omega) (by omega) (by omega)]) (by rw [uZ_ne (by omega), sealsF_7 hll b7.1]; omega)
theorem sGood_inv {N : Int → Int} (h : Inv N) (d : Int) : Inv (sGood N d).2 := by
  have hY := inY h
  obtain ⟨b0, b1, b2, b3, b4, b5, b6, b7, b8, b9⟩ := inY_b hY
  unfold sGood
  split
  · exact h
  rename_i c1
  split
  · exact h
  rename_i c2
  have c1 := Decidable.not_not.mp c1
  have e5 : uZ N (104 + N 5) d 5 = N 5 := uZ_ne (by omega)
  have h5 := y_five (y_duty (g := N 5) (d := d) hY (by omega) c1) (by rw [e5]; omega) (by rw [e5, uZ_eq]; exact c1)
  rw [e5] at h5
  show Inv (uZ (uZ N (104 + N 5) d) 5 (N 5 + 1))
  exact inv_S h h5 fun k hk => by rw [uZ_ne (by omega), uZ_ne (by omega)]
theorem sDuty_inv {N : Int → Int} (h : Inv N) (g d : Int) : Inv (sDuty N g d).2 := by
  have hY := inY h
  obtain ⟨b0, b1, b2, b3, b4, b5, b6, b7, b8, b9⟩ := inY_b hY
  unfold sDuty
  split
  · exact h
  rename_i c1
  have c1 := Decidable.not_not.mp c1
  show Inv (uZ N (104 + g) d)
  exact inv_S h (y_duty (d := d) (g := g) hY (by omega) c1.2) fun k hk => uZ_ne (by omega)
theorem sLoad_inv {N : Int → Int} (h : Inv N) (l g u : Int) : Inv (sLoad N l g u).2 := by
  have hY := inY h
  obtain ⟨b0, b1, b2, b3, b4, b5, b6, b7, b8, b9⟩ := inY_b hY
  unfold sLoad
  split
  · exact h
  rename_i c1
  split
  · exact h
  rename_i c2
  split
  · exact h
  rename_i c3
  show Inv (sealsF (bondF N l g u) l)
  have c1 := Decidable.not_not.mp c1
  have hll : 0 ≤ l ∧ l < 5 := by omega
  have hd := h.2.2.2.2.1 g (by omega) (by omega)
  have hP := y_off (w := 2) hY hll
  have eP : ∀ k : Int, 0 ≤ k → k < 452 → k < 14 ∨ 19 ≤ k → offF N l 2 k = N k := fun k a b c => offF_lo hY hll ⟨a, b⟩ c
  have hmul : 0 ≤ u * N (104 + g) := Int.mul_nonneg (by omega) (by omega)
  have ec := eP (24 + 8 * l + g) (by omega) (by omega) (by omega)
  have eg := eP (112 + g) (by omega) (by omega) (by omega)
  have hM : InY (bondF N l g u) := y_bond (P := offF N l 2) (l := l) (g := g) (u := u) (b := N 6) (dt := N (104 + g)) (du := N 1 + N 3) (sm := N 9 + u * N (104 + g)) hP (by rw [eP 4 (by omega) (by omega) (by omega)]; omega) (by rw [eP 5 (by omega) (by omega) (by omega)]; omega) (by omega) ⟨(eP 6 (by omega) (by omega) (by omega)).symm, by omega⟩ hd (by omega) (by omega) (by rw [ec]; omega) (by rw [ec, eg]; rfl)
  have e : ∀ k : Int, k = 0 ∨ k = 7 ∨ k = 8 → bondF N l g u k = N k := fun k hk => by
    unfold bondF
    rw [uZ_ne (by omega), uZ_ne (by omega), uZ_ne (by omega), uZ_ne (by omega), uZ_ne (by omega), uZ_ne (by omega), uZ_ne (by omega), uZ_ne (by omega), uZ_ne (by omega), eP k (by omega) (by omega) (by omega)]
  have h70 : 0 ≤ bondF N l g u 7 := by rw [e 7 (by omega)]; exact b7.1
  refine inv_N h (y_seal hM hll (by rw [e 7 (by omega)]; omega)) ?_ (by omega) ?_ ?_
  · rw [sealsF_lo hll h70 (by omega) (by omega) (by omega), e 0 (by omega)]
  · rw [sealsF_lo hll h70 (by omega) (by omega) (by omega), e 8 (by omega)]
  · rw [sealsF_7 hll h70, e 7 (by omega)]
    omega
theorem sSet_inv {N : Int → Int} (h : Inv N) (w v : Int) : Inv (sSet N w v).2 := by
  have hY := inY h
  obtain ⟨b0, b1, b2, b3, b4, b5, b6, b7, b8, b9⟩ := inY_b hY
  unfold sSet
  by_cases c1 : (0 ≤ w ∧ w ≤ 1) ∧ (w ≤ v ∧ v ≤ if w = 0 then 100000 else 99)
  · rw [if_neg (not_not_intro c1)]
    rcases (show w = 0 ∨ w = 1 by omega) with hw | hw
    · subst hw
      rw [if_pos rfl] at c1
      show Inv (uZ N (2 + 0) v)
      exact inv_S h (y_one (i := 2 + 0) (v := v) hY (by omega) (by omega) (by omega) (by omega) (by omega) (by omega) (by omega)) fun k hk => uZ_ne (by omega)
    · subst hw
      rw [if_neg (by omega)] at c1
      show Inv (uZ N (2 + 1) v)
      exact inv_S h (y_one (i := 2 + 1) (v := v) hY (by omega) (by omega) (by omega) (by omega) (by omega) (by omega) (by omega)) fun k hk => uZ_ne (by omega)
  · rw [if_pos c1]
    exact h
