theorem iL_eq {N M : Int → Int} (h : InL N) (h7 : N 7 ≤ M 7) (e : ∀ k : Int, 14 ≤ k → k < 24 → M k = N k) : InL M := fun l a b => by
  obtain ⟨h1, h2, h3⟩ := h l a b
  rw [e (14 + l) (by omega) (by omega), e (19 + l) (by omega) (by omega)]
  exact ⟨h1, ⟨h2.1, by omega⟩, h3⟩
theorem iH_eq {N M : Int → Int} (h : InH N) (h4 : N 4 ≤ M 4) (e : ∀ k : Int, 24 ≤ k → k < 104 → M k = N k) : InH M := fun l g a b c d => by
  obtain ⟨h1, h2, h3⟩ := h l g a b c d
  rw [e (24 + 8 * l + g) (by omega) (by omega), e (64 + 8 * l + g) (by omega) (by omega)]
  exact ⟨h1, h2, fun q => h3 (by omega)⟩
theorem iB_eq {N M : Int → Int} (h0 : N 6 ≤ 60) (h : InB N) (h6 : M 6 = N 6) (h5 : N 5 ≤ M 5) (e : ∀ k : Int, 152 ≤ k → k < 452 → M k = N k) : InB M := fun b a c => by
  rw [h6] at c
  have h1 := h b a c
  rw [e (152 + b) (by omega) (by omega), e (212 + b) (by omega) (by omega), e (272 + b) (by omega) (by omega), e (332 + b) (by omega) (by omega), e (392 + b) (by omega) (by omega)]
  omega
theorem iD_eq {N M : Int → Int} (h8 : N 5 ≤ 8) (h : InD N) (h5 : M 5 = N 5) (e : ∀ k : Int, 104 ≤ k → k < 112 → M k = N k) : InD M := fun g a b => by
  rw [h5] at b
  rw [e (104 + g) (by omega) (by omega)]
  exact h g a b
theorem hasF_eq {N M : Int → Int} {g : Int} (hg : 0 ≤ g ∧ g < 8) (e : ∀ k : Int, 24 ≤ k → k < 64 → M k = N k) : hasF M g = hasF N g := sumZ_congr (f := fun l => M (24 + 8 * l + g)) (g := fun l => N (24 + 8 * l + g)) 5 fun k a b => e _ (by omega) (by omega)
theorem missF_eq {N M : Int → Int} {g : Int} (hg : 0 ≤ g ∧ g < 8) (e : ∀ k : Int, 64 ≤ k → k < 104 → M k = N k) : missF M g = missF N g := sumZ_congr (f := fun l => M (64 + 8 * l + g)) (g := fun l => N (64 + 8 * l + g)) 5 fun k a b => e _ (by omega) (by omega)
theorem iC_eq {N M : Int → Int} (h : InC N) (h6 : M 6 = N 6) (e1 : ∀ k : Int, 24 ≤ k → k < 104 → M k = N k) (e2 : ∀ b : Int, 0 ≤ b → b < N 6 → M (152 + b) = N (152 + b) ∧ M (272 + b) = N (272 + b)) : InC M := fun g a b => by
  rw [hasF_eq (N := N) ⟨a, b⟩ fun k c d => e1 k (by omega) (by omega), missF_eq (N := N) ⟨a, b⟩ fun k c d => e1 k (by omega) (by omega), restF_eq (N := N) h6 e2]
  exact h g a b
theorem iG_eq {N M : Int → Int} (h : InG N) (h6 : M 6 = N 6) (e1 : ∀ k : Int, 112 ≤ k → k < 120 → M k = N k) (e2 : ∀ b : Int, 0 ≤ b → b < N 6 → M (152 + b) = N (152 + b) ∧ M (212 + b) = N (212 + b)) : InG M := fun g a b => by
  rw [e1 (112 + g) (by omega) (by omega), h6, h g a b]
  exact sumZ_congr _ fun k c d => by rw [(e2 k c (by omega)).1, (e2 k c (by omega)).2]
def InY (N : Int → Int) : Prop := In0 N ∧ InL N ∧ InH N ∧ InB N ∧ InD N ∧ InC N ∧ InG N
theorem inY {N : Int → Int} (h : Inv N) : InY N := ⟨h.1, h.2.1, h.2.2.1, h.2.2.2.1, h.2.2.2.2.1, h.2.2.2.2.2.1, h.2.2.2.2.2.2.1⟩
theorem inZ {N : Int → Int} (h : Inv N) : InZ N := h.2.2.2.2.2.2.2.1
theorem inF {N : Int → Int} (h : Inv N) : InF N := h.2.2.2.2.2.2.2.2
theorem inv_Y {N : Int → Int} (h : InY N) (hz : InZ N) (hF : InF N) : Inv N := ⟨h.1, h.2.1, h.2.2.1, h.2.2.2.1, h.2.2.2.2.1, h.2.2.2.2.2.1, h.2.2.2.2.2.2, hz, hF⟩
theorem iF_eq {N M : Int → Int} (h : InF N) (h8 : M 8 = N 8) (h7 : N 7 ≤ M 7) : InF M := by
  unfold InF at h ⊢
  omega
/-- a state that is not at sea -/
theorem inv_N {N M : Int → Int} (h : Inv N) (hM : InY M) (h0 : M 0 = N 0) (hz : N 0 ≠ 0) (h8 : M 8 = N 8) (h7 : N 7 ≤ M 7) : Inv M := inv_Y hM (fun q => absurd (h0.symm.trans q) hz) (iF_eq (inF h) h8 h7)
/-- a state at sea where no locker's state changes -/
theorem inv_S {N M : Int → Int} (h : Inv N) (hM : InY M) (e : ∀ k : Int, k = 0 ∨ k = 4 ∨ k = 7 ∨ k = 8 ∨ (14 ≤ k ∧ k < 19) → M k = N k) : Inv M := inv_Y hM (fun q l a b => by
  rw [e 0 (by omega)] at q
  rw [e 4 (by omega)] at b
  have h5 := h.1.2.2.2.2.1
  rw [e (14 + l) (by omega)]
  exact inZ h q l a b) (iF_eq (inF h) (e 8 (by omega)) (by rw [e 7 (by omega)]; exact Int.le_refl _))
theorem inY_R {N : Int → Int} (h : InY N) : InR N := ⟨h.1, h.2.2.2.1⟩
theorem iZ_eq {N M : Int → Int} (hn : N 4 ≤ 5) (h : InZ N) (h0 : M 0 = N 0) (h4 : M 4 = N 4) (e : ∀ k : Int, 14 ≤ k → k < 19 → M k = N k) : InZ M := fun q l a b => by
  rw [h0] at q
  rw [h4] at b
  rw [e (14 + l) (by omega) (by omega)]
  exact h q l a b
theorem i0_eq {N M : Int → Int} (h : In0 N) (e : ∀ k : Int, 0 ≤ k → k < 10 → M k = N k) : In0 M := by
  unfold In0
  rw [e 0 (by omega) (by omega), e 1 (by omega) (by omega), e 2 (by omega) (by omega), e 3 (by omega) (by omega), e 4 (by omega) (by omega), e 5 (by omega) (by omega), e 6 (by omega) (by omega), e 7 (by omega) (by omega), e 8 (by omega) (by omega), e 9 (by omega) (by omega)]
  exact h
/-- only what InL says, and what stands behind 452, may change -/
theorem y_eq {N M : Int → Int} (h : InY N) (e : ∀ k : Int, 0 ≤ k → k < 452 → k < 14 ∨ 24 ≤ k → M k = N k) (hL : InL M) : InY M := by
  obtain ⟨h0, _, hH, hB, hD, hC, hG⟩ := h
  have h60 := h0.2.2.2.2.2.2.1
  have h8 := h0.2.2.2.2.2.1
  refine ⟨i0_eq h0 fun k a b => e k a (by omega) (by omega), hL, iH_eq hH (by rw [e 4 (by omega) (by omega) (by omega)]; exact Int.le_refl _) fun k a b => e k (by omega) (by omega) (by omega), iB_eq h60.2 hB (e 6 (by omega) (by omega) (by omega)) (by rw [e 5 (by omega) (by omega) (by omega)]; exact Int.le_refl _) fun k a b => e k (by omega) (by omega) (by omega), iD_eq h8.2 hD (e 5 (by omega) (by omega) (by omega)) fun k a b => e k (by omega) (by omega) (by omega), iC_eq hC (e 6 (by omega) (by omega) (by omega)) (fun k a b => e k (by omega) (by omega) (by omega)) fun b c d => ⟨e _ (by omega) (by omega) (by omega), e _ (by omega) (by omega) (by omega)⟩, iG_eq hG (e 6 (by omega) (by omega) (by omega)) (fun k a b => e k (by omega) (by omega) (by omega)) fun b c d => ⟨e _ (by omega) (by omega) (by omega), e _ (by omega) (by omega) (by omega)⟩⟩
theorem sealsF_14 {N : Int → Int} {l : Int} (hl : 0 ≤ l ∧ l < 5) (h : 0 ≤ N 7) : sealsF N l (14 + l) = 1 := by
  unfold sealsF
  rw [uZ_ne (by omega), uZ_ne (by omega), uZ_ne (by omega), uZ_ne (by omega), uZ_eq]
theorem sealsF_19 {N : Int → Int} {l : Int} (hl : 0 ≤ l ∧ l < 5) (h : 0 ≤ N 7) : sealsF N l (19 + l) = N 7 + 1 := by
  unfold sealsF
  rw [uZ_ne (by omega), uZ_ne (by omega), uZ_ne (by omega), uZ_eq]
theorem sealsF_lo {N : Int → Int} {l k : Int} (hl : 0 ≤ l ∧ l < 5) (h : 0 ≤ N 7) (hk : 0 ≤ k ∧ k < 452) (h7 : k ≠ 7) (h1 : k < 14 ∨ 24 ≤ k) : sealsF N l k = N k := sealsF_ne (by omega)
theorem sealsF_L {N : Int → Int} {l : Int} (h : InL N) (hl : 0 ≤ l ∧ l < 5) (h7 : 0 ≤ N 7) : InL (sealsF N l) := fun k a b => by
  obtain ⟨h1, h2, h3⟩ := h k a b
  rw [sealsF_7 hl h7]
  by_cases e : k = l
  · rw [e, sealsF_14 hl h7, sealsF_19 hl h7]
    exact ⟨by omega, by omega, fun _ => by omega⟩
  · rw [sealsF_ne (k := 14 + k) (by omega), sealsF_ne (k := 19 + k) (by omega)]
    exact ⟨h1, by omega, h3⟩
theorem y_seal {N : Int → Int} {l : Int} (h : InY N) (hl : 0 ≤ l ∧ l < 5) (h7 : N 7 < 200) : InY (sealsF N l) := by
  obtain ⟨h0, hL, hH, hB, hD, hC, hG⟩ := h
  have h70 := h0.2.2.2.2.2.2.2.1.1
  have h60 := h0.2.2.2.2.2.2.1
  have h8 := h0.2.2.2.2.2.1
  have e : ∀ k : Int, 0 ≤ k → k < 452 → k ≠ 7 → (k < 14 ∨ 24 ≤ k) → sealsF N l k = N k := fun k a b c d => sealsF_lo hl h70 ⟨a, b⟩ c d
  refine ⟨in0_of h0 (fun k a b c => e k a (by omega) c (by omega)) (by rw [sealsF_7 hl h70]; omega), sealsF_L hL hl h70, iH_eq hH (by rw [e 4 (by omega) (by omega) (by omega) (by omega)]; exact Int.le_refl _) fun k a b => e k (by omega) (by omega) (by omega) (by omega), iB_eq h60.2 hB (e 6 (by omega) (by omega) (by omega) (by omega)) (by rw [e 5 (by omega) (by omega) (by omega) (by omega)]; exact Int.le_refl _) fun k a b => e k (by omega) (by omega) (by omega) (by omega), iD_eq h8.2 hD (e 5 (by omega) (by omega) (by omega) (by omega)) fun k a b => e k (by omega) (by omega) (by omega) (by omega), iC_eq hC (e 6 (by omega) (by omega) (by omega) (by omega)) (fun k a b => e k (by omega) (by omega) (by omega) (by omega)) fun b c d => ⟨e _ (by omega) (by omega) (by omega) (by omega), e _ (by omega) (by omega) (by omega) (by omega)⟩, iG_eq hG (e 6 (by omega) (by omega) (by omega) (by omega)) (fun k a b => e k (by omega) (by omega) (by omega) (by omega)) fun b c d => ⟨e _ (by omega) (by omega) (by omega) (by omega), e _ (by omega) (by omega) (by omega) (by omega)⟩⟩
theorem y_state {N : Int → Int} {l v : Int} (h : InY N) (hl : 0 ≤ l ∧ l < 5) (hv : v = 0 ∨ v = 2) : InY (uZ N (14 + l) v) := by
  refine y_eq h (fun k a b c => uZ_ne (by omega)) fun k a b => ?_
  obtain ⟨h1, h2, h3⟩ := h.2.1 k a b
  rw [uZ_ne (i := 14 + l) (k := 19 + k) (by omega), uZ_ne (i := 14 + l) (k := 7) (by omega)]
  by_cases e : k = l
  · rw [e, uZ_eq]
    rw [e] at h2
    exact ⟨by omega, h2, fun q => by omega⟩
  · rw [uZ_ne (by omega)]
    exact ⟨h1, h2, h3⟩
theorem y_hi {N : Int → Int} {i v : Int} (h : InY N) (hi : 452 ≤ i) : InY (uZ N i v) := y_eq h (fun k a b c => uZ_ne (by omega)) (iL_eq h.2.1 (by rw [uZ_ne (by omega)]; exact Int.le_refl _) fun k a b => uZ_ne (by omega))
theorem y_off {N : Int → Int} {l w : Int} (h : InY N) (hl : 0 ≤ l ∧ l < 5) : InY (offF N l w) := by
  unfold offF
  split
  · exact y_state (y_hi h (by have := (h.2.1 l hl.1 hl.2).2.1.1; omega)) hl (Or.inl rfl)
  · exact h
/-- units are in a locker no more -/
theorem hasF_up {N : Int → Int} {l g v : Int} (hl : 0 ≤ l ∧ l < 5) (hg : 0 ≤ g ∧ g < 8) : hasF (uZ N (24 + 8 * l + g) v) g = hasF N g + (v - N (24 + 8 * l + g)) := sumZ_one (f := fun l => N (24 + 8 * l + g)) (g := fun k => uZ N (24 + 8 * l + g) v (24 + 8 * k + g)) (i := l) (d := v - N (24 + 8 * l + g)) 5 hl.1 (by omega) (by show uZ N (24 + 8 * l + g) v (24 + 8 * l + g) = _; rw [uZ_eq]; omega) fun k a b c => uZ_ne (by omega)
theorem missF_up {N : Int → Int} {l g v : Int} (hl : 0 ≤ l ∧ l < 5) (hg : 0 ≤ g ∧ g < 8) : missF (uZ N (64 + 8 * l + g) v) g = missF N g + (v - N (64 + 8 * l + g)) := sumZ_one (f := fun l => N (64 + 8 * l + g)) (g := fun k => uZ N (64 + 8 * l + g) v (64 + 8 * k + g)) (i := l) (d := v - N (64 + 8 * l + g)) 5 hl.1 (by omega) (by show uZ N (64 + 8 * l + g) v (64 + 8 * l + g) = _; rw [uZ_eq]; omega) fun k a b c => uZ_ne (by omega)
theorem hasF_up2 {N : Int → Int} {l g h v : Int} (hl : 0 ≤ l ∧ l < 5) (hg : 0 ≤ g ∧ g < 8) (hh : 0 ≤ h ∧ h < 8) (hn : h ≠ g) : hasF (uZ N (24 + 8 * l + g) v) h = hasF N h := sumZ_congr (f := fun k => uZ N (24 + 8 * l + g) v (24 + 8 * k + h)) (g := fun k => N (24 + 8 * k + h)) 5 fun k a b => uZ_ne (by omega)
theorem missF_up2 {N : Int → Int} {l g h v : Int} (hl : 0 ≤ l ∧ l < 5) (hg : 0 ≤ g ∧ g < 8) (hh : 0 ≤ h ∧ h < 8) (hn : h ≠ g) : missF (uZ N (64 + 8 * l + g) v) h = missF N h := sumZ_congr (f := fun k => uZ N (64 + 8 * l + g) v (64 + 8 * k + h)) (g := fun k => N (64 + 8 * k + h)) 5 fun k a b => uZ_ne (by omega)
/-- only the cells of lockers change: their bounds, and what bonds have left of each good -/
theorem y_cells {N M : Int → Int} (h : InY N) (e : ∀ k : Int, 0 ≤ k → k < 24 ∨ 104 ≤ k → M k = N k) (hH : InH M) (hC : ∀ g : Int, 0 ≤ g → g < 8 → hasF M g + missF M g ≤ hasF N g + missF N g) : InY M := by
  obtain ⟨h0, hL, _, hB, hD, hC0, hG⟩ := h
  have h60 := h0.2.2.2.2.2.2.1
  have h8 := h0.2.2.2.2.2.1
  refine ⟨i0_eq h0 fun k a b => e k a (by omega), iL_eq hL (by rw [e 7 (by omega) (by omega)]; exact Int.le_refl _) fun k a b => e k (by omega) (by omega), hH, iB_eq h60.2 hB (e 6 (by omega) (by omega)) (by rw [e 5 (by omega) (by omega)]; exact Int.le_refl _) fun k a b => e k (by omega) (by omega), iD_eq h8.2 hD (e 5 (by omega) (by omega)) fun k a b => e k (by omega) (by omega), fun g a b => ?_, iG_eq hG (e 6 (by omega) (by omega)) (fun k a b => e k (by omega) (by omega)) fun b c d => ⟨e _ (by omega) (by omega), e _ (by omega) (by omega)⟩⟩
  rw [restF_eq (N := N) (e 6 (by omega) (by omega)) fun b c d => ⟨e _ (by omega) (by omega), e _ (by omega) (by omega)⟩]
  have h1 := hC g a b
  have h2 := hC0 g a b
  omega
theorem iH_up {N : Int → Int} {l g v : Int} (h : InH N) (hl : 0 ≤ l ∧ l < 5) (hg : 0 ≤ g ∧ g < 8) (hv : 0 ≤ v ∧ v ≤ 99999) (hz : N 4 ≤ l → v = 0) : InH (uZ N (24 + 8 * l + g) v) := fun k q a b c d => by
  obtain ⟨h1, h2, h3⟩ := h k q a b c d
  rw [uZ_ne (i := 24 + 8 * l + g) (k := 64 + 8 * k + q) (by omega), uZ_ne (i := 24 + 8 * l + g) (k := 4) (by omega)]
  by_cases e : k = l ∧ q = g
  · rw [e.1, e.2, uZ_eq]
    rw [e.1, e.2] at h2 h3
    exact ⟨hv, h2, fun q => ⟨hz q, (h3 q).2⟩⟩
  · rw [uZ_ne (by omega)]
    exact ⟨h1, h2, h3⟩
theorem iH_upM {N : Int → Int} {l g v : Int} (h : InH N) (hl : 0 ≤ l ∧ l < 5) (hg : 0 ≤ g ∧ g < 8) (hv : 0 ≤ v ∧ v ≤ 600000) (hz : N 4 ≤ l → v = 0) : InH (uZ N (64 + 8 * l + g) v) := fun k q a b c d => by
  obtain ⟨h1, h2, h3⟩ := h k q a b c d
  rw [uZ_ne (i := 64 + 8 * l + g) (k := 24 + 8 * k + q) (by omega), uZ_ne (i := 64 + 8 * l + g) (k := 4) (by omega)]
  by_cases e : k = l ∧ q = g
  · rw [e.1, e.2, uZ_eq]
    rw [e.1, e.2] at h1 h3
    exact ⟨h1, hv, fun q => ⟨(h3 q).1, hz q⟩⟩
  · rw [uZ_ne (by omega)]
    exact ⟨h1, h2, h3⟩
theorem y_less {N : Int → Int} {l g v : Int} (h : InY N) (hl : 0 ≤ l ∧ l < 5) (hg : 0 ≤ g ∧ g < 8) (hv : 0 ≤ v ∧ v ≤ N (24 + 8 * l + g)) : InY (uZ N (24 + 8 * l + g) v) := by
  obtain ⟨h1, h2, h3⟩ := h.2.2.1 l g hl.1 hl.2 hg.1 hg.2
  refine y_cells h (fun k a b => uZ_ne (by omega)) (iH_up h.2.2.1 hl hg (by omega) fun q => by have := h3 q; omega) fun q a b => ?_
  rw [missF_eq (N := N) ⟨a, b⟩ fun k c d => uZ_ne (by omega)]
  by_cases e : q = g
  · rw [e, hasF_up hl hg]
    omega
  · rw [hasF_up2 hl hg ⟨a, b⟩ e]
    exact Int.le_refl _
/-- released units leave what bonds have left -/
theorem y_rel {n : Nat} {N : Int → Int} {g u r : Int} (h : InY N) (hg : 0 ≤ g ∧ g < 8) (hr : 0 ≤ r ∧ r < 4) (h0 : 0 ≤ u) (hn : u ≤ (n : Int)) (hu : hasF N g + missF N g + u ≤ restF N g) : InY (relF n N g u r).1 := by
  have hR := inY_R h
  have hp : 0 ≤ hasF N g := sumZ_nonneg (f := fun l => N (24 + 8 * l + g)) 5 (fun k a b => (h.2.2.1 k g a (by omega) hg.1 hg.2).1.1)
  have hm : 0 ≤ missF N g := sumZ_nonneg (f := fun l => N (64 + 8 * l + g)) 5 (fun k a b => (h.2.2.1 k g a (by omega) hg.1 hg.2).2.1.1)
  obtain ⟨r1, r2, r3, r4⟩ := relF_all n hR hg hr h0 hn (by omega)
  obtain ⟨h0, hL, hH, hB, hD, hC, hG⟩ := h
  have h60 := h0.2.2.2.2.2.2.1
  have h8 := h0.2.2.2.2.2.1
  have e : ∀ k : Int, k < 10 ∨ (14 ≤ k ∧ k < 120) ∨ (152 ≤ k ∧ k < 272) ∨ 332 ≤ k → (relF n N g u r).1 k = N k := r2
  refine ⟨r1.1, iL_eq hL (by rw [e 7 (by omega)]; exact Int.le_refl _) fun k a b => e k (by omega), iH_eq hH (by rw [e 4 (by omega)]; exact Int.le_refl _) fun k a b => e k (by omega), r1.2, iD_eq h8.2 hD (e 5 (by omega)) fun k a b => e k (by omega), fun q a b => ?_, iG_eq hG (e 6 (by omega)) (fun k a b => e k (by omega)) fun b c d => ⟨e _ (by omega), e _ (by omega)⟩⟩
  rw [hasF_eq (N := N) ⟨a, b⟩ fun k c d => e k (by omega), missF_eq (N := N) ⟨a, b⟩ fun k c d => e k (by omega)]
  by_cases hq : q = g
  · rw [hq, r3]
    omega
  · rw [r4 q hq]
    exact hC q a b
theorem rel_0 {n : Nat} {N : Int → Int} {g u r : Int} (h : InY N) (hg : 0 ≤ g ∧ g < 8) (hr : 0 ≤ r ∧ r < 4) (h0 : 0 ≤ u) (hn : u ≤ (n : Int)) (hu : u ≤ restF N g) : ∀ k : Int, k < 10 ∨ (14 ≤ k ∧ k < 120) ∨ (152 ≤ k ∧ k < 272) ∨ 332 ≤ k → (relF n N g u r).1 k = N k := (relF_all n (inY_R h) hg hr h0 hn hu).2.1
theorem inY_b {N : Int → Int} (h : InY N) : (0 ≤ N 0 ∧ N 0 ≤ 2) ∧ (0 ≤ N 1 ∧ N 1 ≤ 5000) ∧ (0 ≤ N 2 ∧ N 2 ≤ 100000) ∧ (1 ≤ N 3 ∧ N 3 ≤ 99) ∧ (0 ≤ N 4 ∧ N 4 ≤ 5) ∧ (0 ≤ N 5 ∧ N 5 ≤ 8) ∧ (0 ≤ N 6 ∧ N 6 ≤ 60) ∧ (0 ≤ N 7 ∧ N 7 ≤ 200) ∧ (0 ≤ N 8 ∧ N 8 ≤ 30000000) ∧ (0 ≤ N 9 ∧ N 9 ≤ 2147483647) := h.1
theorem inY_c {N : Int → Int} (h : InY N) {g : Int} (hg : 0 ≤ g ∧ g < 8) : 0 ≤ hasF N g ∧ 0 ≤ missF N g ∧ hasF N g + missF N g ≤ restF N g ∧ restF N g ≤ 600000 := ⟨sumZ_nonneg (f := fun l => N (24 + 8 * l + g)) 5 (fun k a b => (h.2.2.1 k g a (by omega) hg.1 hg.2).1.1), sumZ_nonneg (f := fun l => N (64 + 8 * l + g)) 5 (fun k a b => (h.2.2.1 k g a (by omega) hg.1 hg.2).2.1.1), h.2.2.2.2.2.1 g hg.1 hg.2, (rest_max (inY_R h) g).2⟩
