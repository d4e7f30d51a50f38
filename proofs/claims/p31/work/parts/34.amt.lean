/-- how many bonds come behind p -/
def cF (N : Int → Int) (g p : Int) : Int := sumZ (fun k => if 0 < N (272 + k) ∧ (g < 0 ∨ N (152 + k) = g) ∧ (p < 0 ∨ N (392 + p) < N (392 + k) ∨ (N (392 + p) = N (392 + k) ∧ p < k)) then 1 else 0) (N 6).toNat
theorem cF_top {N : Int → Int} (g p : Int) (h6 : 0 ≤ N 6) : cF N g p ≤ N 6 := by
  have h1 : cF N g p ≤ sumZ (fun _ => (1 : Int)) (N 6).toNat := sumZ_le _ fun k a b => by split <;> omega
  rw [sumZ_const] at h1
  omega
theorem cF_0 {N : Int → Int} {g p : Int} (h : cF N g p ≤ 0) : nxt N g p = -4 := by
  rcases nxt_is N g p with ⟨h1, -⟩ | ⟨h1, h2, -⟩
  · exact h1
  · exfalso
    have h3 := sumZ_ge (f := fun k => if 0 < N (272 + k) ∧ (g < 0 ∨ N (152 + k) = g) ∧ (p < 0 ∨ N (392 + p) < N (392 + k) ∨ (N (392 + p) = N (392 + k) ∧ p < k)) then 1 else 0) (i := nxt N g p) (N 6).toNat (fun k a b => by split <;> omega) h1.1 (by omega)
    unfold cF at h
    unfold okB at h2
    rw [if_pos h2] at h3
    omega
/-- fewer: the places that count for M behind q count for N behind p, and z counts no longer -/
theorem cF_less {N M : Int → Int} {g p q z : Int} (h6 : M 6 = N 6) (hz : 0 ≤ z ∧ z < N 6) (hzo : okB N g p z) (hzn : ¬ okB M g q z) (h : ∀ k : Int, 0 ≤ k → k < N 6 → okB M g q k → okB N g p k) : cF M g q ≤ cF N g p - 1 := by
  unfold cF
  rw [h6]
  have e := sumZ_one (f := fun k => if 0 < N (272 + k) ∧ (g < 0 ∨ N (152 + k) = g) ∧ (p < 0 ∨ N (392 + p) < N (392 + k) ∨ (N (392 + p) = N (392 + k) ∧ p < k)) then 1 else 0)
    (g := fun k => if k = z then 0 else if 0 < N (272 + k) ∧ (g < 0 ∨ N (152 + k) = g) ∧ (p < 0 ∨ N (392 + p) < N (392 + k) ∨ (N (392 + p) = N (392 + k) ∧ p < k)) then 1 else 0) (i := z) (d := -1) (N 6).toNat hz.1 (by omega) (by
      unfold okB at hzo
      rw [if_pos rfl, if_pos hzo]
      rfl) (fun k a b c => if_neg c)
  rw [show ∀ x : Int, x - 1 = x + -1 from fun x => rfl, ← e]
  refine sumZ_le _ fun k a b => ?_
  by_cases hk : k = z
  · rw [if_pos hk, hk]
    unfold okB at hzn
    rw [if_neg hzn]
    exact Int.le_refl 0
  · rw [if_neg hk]
    have h1 := h k a (by omega)
    unfold okB at h1
    split
    · rename_i h2
      rw [if_pos (h1 h2)]
      exact Int.le_refl 1
    · split <;> omega
theorem cF_step {N : Int → Int} {g p : Int} (h : 0 ≤ nxt N g p) : cF N g (nxt N g p) ≤ cF N g p - 1 := by
  rcases nxt_is N g p with ⟨h1, -⟩ | ⟨h1, h2, -⟩
  · omega
  · refine cF_less rfl h1 h2 (fun h3 => by unfold okB at h3; omega) fun k a b c => ?_
    unfold okB at *
    omega
theorem nxt_same {N : Int → Int} {g p : Int} (h : ∀ k : Int, 0 ≤ k → k < N 6 → okB N g (-1) k → okB N g p k) : nxt N g p = nxt N g (-1) := by
  have hb : ∀ k : Int, okB N g p k → okB N g (-1) k := fun k hk => by
    unfold okB at *
    omega
  refine (nxt_eq (p := -1) ?_)
  rcases nxt_is N g p with ⟨h1, h2⟩ | ⟨h1, h2, h3⟩
  · exact Or.inl ⟨h1, fun k a b c => h2 k a b (h k a b c)⟩
  · exact Or.inr ⟨h1, hb _ h2, fun k a b c => h3 k a b (h k a b c)⟩
/-- the same bonds, the same next one -/
theorem nxt_cong {N M : Int → Int} {g p : Int} (h6 : M 6 = N 6) (h60 : N 6 ≤ 60) (hp : p = -1 ∨ (0 ≤ p ∧ p < N 6)) (h : ∀ k : Int, 0 ≤ k → k < N 6 → M (152 + k) = N (152 + k) ∧ M (272 + k) = N (272 + k) ∧ M (392 + k) = N (392 + k)) : nxt M g p = nxt N g p := by
  have hk : ∀ k : Int, 0 ≤ k → k < N 6 → (okB M g p k ↔ okB N g p k) := fun k a b => by
    unfold okB
    rw [(h k a b).1, (h k a b).2.1, (h k a b).2.2]
    rcases hp with hp | hp
    · subst hp
      omega
    · rw [(h p hp.1 hp.2).2.2]
  refine (nxt_eq (N := N) ?_)
  rcases nxt_is M g p with ⟨h1, h2⟩ | ⟨h1, h2, h3⟩
  · exact Or.inl ⟨h1, fun k a b c => h2 k a (by omega) ((hk k a b).mpr c)⟩
  · refine Or.inr ⟨by omega, (hk _ h1.1 (by omega)).mp h2, fun k a b c => ?_⟩
    have := h3 k a (by omega) ((hk k a b).mpr c)
    rw [(h _ h1.1 (by omega)).2.2, (h k a b).2.2] at this
    exact this
/-- units of a good are taken from its bonds alone -/
noncomputable def rlF : Nat → (Int → Int) → Int → Int → (Int → Int) × Int
  | 0, N, _, _ => (N, 0)
  | n + 1, N, g, u => if u ≤ 0 then (N, 0) else ((rlF n (uZ N (272 + nxt N g (-1)) (N (272 + nxt N g (-1)) - byF N g (-1) u)) g (u - byF N g (-1) u)).1, byF N g (-1) u * N (332 + nxt N g (-1)) + (rlF n (uZ N (272 + nxt N g (-1)) (N (272 + nxt N g (-1)) - byF N g (-1) u)) g (u - byF N g (-1) u)).2)
theorem rlF_0 {n : Nat} {N : Int → Int} {g u : Int} (h : u ≤ 0) : rlF n N g u = (N, 0) := by
  cases n with
  | zero => rfl
  | succ n => exact if_pos h
theorem rlF_s {n : Nat} {N : Int → Int} {g u : Int} (h : ¬ u ≤ 0) : rlF (n + 1) N g u = ((rlF n (uZ N (272 + nxt N g (-1)) (N (272 + nxt N g (-1)) - byF N g (-1) u)) g (u - byF N g (-1) u)).1, byF N g (-1) u * N (332 + nxt N g (-1)) + (rlF n (uZ N (272 + nxt N g (-1)) (N (272 + nxt N g (-1)) - byF N g (-1) u)) g (u - byF N g (-1) u)).2) := if_neg h
theorem cut_R {N : Int → Int} {b u : Int} (h : InR N) (hb : 0 ≤ b ∧ b < N 6) (hu : 0 ≤ u ∧ u ≤ N (272 + b)) : InR (uZ N (272 + b) (N (272 + b) - u)) := by
  obtain ⟨h0, hB⟩ := h
  have h00 := h0
  obtain ⟨b0, b1, b2, b3, b4, b5, b6, b7, b8, b9⟩ := h00
  have e : ∀ k : Int, k ≠ 272 + b → uZ N (272 + b) (N (272 + b) - u) k = N k := fun k hk => uZ_ne hk
  refine ⟨?_, fun k h1 h2 => ?_⟩
  · unfold In0
    rw [e 0 (by omega), e 1 (by omega), e 2 (by omega), e 3 (by omega), e 4 (by omega), e 5 (by omega), e 6 (by omega), e 7 (by omega), e 8 (by omega), e 9 (by omega)]
    exact h0
  · rw [e 6 (by omega)] at h2
    rw [e (152 + k) (by omega), e (212 + k) (by omega), e (332 + k) (by omega), e (392 + k) (by omega), e 5 (by omega)]
    have hk := hB k h1 h2
    by_cases hkb : k = b
    · rw [hkb, uZ_eq]
      rw [hkb] at hk
      omega
    · rw [e (272 + k) (by omega)]
      exact hk
theorem cut_rest {N : Int → Int} {b u : Int} (h : InR N) (hb : 0 ≤ b ∧ b < N 6) : restF (uZ N (272 + b) (N (272 + b) - u)) (N (152 + b)) = restF N (N (152 + b)) - u := by
  obtain ⟨h0, hB⟩ := h
  obtain ⟨b0, b1, b2, b3, b4, b5, b6, b7, b8, b9⟩ := h0
  unfold restF
  rw [uZ_ne (k := 6) (by omega)]
  rw [sumZ_one (f := fun k => if N (152 + k) = N (152 + b) then N (272 + k) else 0) (i := b) (d := -u) (N 6).toNat hb.1 (by omega) ?_ ?_]
  · omega
  · rw [uZ_ne (k := 152 + b) (by omega), if_pos rfl, if_pos rfl, uZ_eq]
    omega
  · intro k h1 h2 h3
    rw [uZ_ne (k := 152 + k) (by omega), uZ_ne (k := 272 + k) (by omega)]
def kpQ (k : Int) : Prop := k < 10 ∨ (14 ≤ k ∧ k < 120) ∨ 152 ≤ k
/-- releases and accounts apart -/
theorem relF_rl : ∀ (n : Nat) {N M : Int → Int} {g u r : Int}, InR N → (∀ k, kpQ k → M k = N k) → 0 ≤ g ∧ g < 8 → 0 ≤ r ∧ r < 4 → 0 ≤ u → u ≤ (n : Int) → u ≤ restF N g →
    (relF n M g u r).2 = (rlF n N g u).2 ∧ (∀ k, kpQ k → (relF n M g u r).1 k = (rlF n N g u).1 k) ∧ (relF n M g u r).1 (10 + r) = M (10 + r) + (rlF n N g u).2 ∧ (relF n M g u r).1 (120 + 4 * g + r) = M (120 + 4 * g + r) + u ∧ ∀ k, ¬ kpQ k → k ≠ 10 + r → k ≠ 120 + 4 * g + r → (relF n M g u r).1 k = M k
  | 0, N, M, g, u, r, hR, hM, hg, hr, h0, hn, hu => by
    rw [relF_0 (by omega), rlF_0 (by omega)]
    refine ⟨rfl, hM, ?_, ?_, fun k _ _ _ => rfl⟩
    · show M (10 + r) = M (10 + r) + 0
      omega
    · show M (120 + 4 * g + r) = M (120 + 4 * g + r) + u
      omega
  | n + 1, N, M, g, u, r, hR, hM, hg, hr, h0, hn, hu => by
    by_cases hu0 : u ≤ 0
    · rw [relF_0 (by omega), rlF_0 (by omega)]
      refine ⟨rfl, hM, ?_, ?_, fun k _ _ _ => rfl⟩
      · show M (10 + r) = M (10 + r) + 0
        omega
      · show M (120 + 4 * g + r) = M (120 + 4 * g + r) + u
        omega
    · have hb := nx_pos (by omega) (nxt_is N g (-1))
      have hf := hR.2 _ hb.1.1 hb.1.2
      have hbd := hR.1
      obtain ⟨b0, b1, b2, b3, b4, b5, b6, b7, b8, b9⟩ := hbd
      have hby := byF_in hu0 hb.2.1
      have hgd : N (152 + nxt N g (-1)) = g := by omega
      have e6 : M 6 = N 6 := hM 6 (Or.inl (by omega))
      have en : nxt M g (-1) = nxt N g (-1) := nxt_cong e6 (by omega) (Or.inl rfl) fun k a b => ⟨hM _ (Or.inr (Or.inr (by omega))), hM _ (Or.inr (Or.inr (by omega))), hM _ (Or.inr (Or.inr (by omega)))⟩
      have eb : byF M g (-1) u = byF N g (-1) u := by
        unfold byF
        rw [en, hM (272 + nxt N g (-1)) (Or.inr (Or.inr (by omega)))]
      have ed : M (332 + nxt N g (-1)) = N (332 + nxt N g (-1)) := hM _ (Or.inr (Or.inr (by omega)))
      have eg : M (152 + nxt N g (-1)) = g := by rw [hM _ (Or.inr (Or.inr (by omega)))]; exact hgd
      have er : M (272 + nxt N g (-1)) = N (272 + nxt N g (-1)) := hM _ (Or.inr (Or.inr (by omega)))
      have h1 := cut_R (u := byF N g (-1) u) hR hb.1 (by omega)
      have h2 := cut_rest (u := byF N g (-1) u) hR hb.1
      rw [hgd] at h2
      have hT : ∀ k, kpQ k → takeF M (nxt N g (-1)) (byF N g (-1) u) r k = uZ N (272 + nxt N g (-1)) (N (272 + nxt N g (-1)) - byF N g (-1) u) k := fun k hk => by
        unfold kpQ at hk
        by_cases hq : k = 272 + nxt N g (-1)
        · rw [hq, takeF_at (by omega) hr (by omega), uZ_eq, er]
        · rw [takeF_ne hq (by omega) (by omega), uZ_ne hq]
          exact hM k hk
      obtain ⟨i1, i2, i3, i4, i5⟩ := relF_rl n h1 hT hg hr (u := u - byF N g (-1) u) (by omega) (by omega) (by omega)
      have t1 : takeF M (nxt N g (-1)) (byF N g (-1) u) r (10 + r) = M (10 + r) + byF N g (-1) u * N (332 + nxt N g (-1)) := by
        unfold takeF
        rw [uZ_ne (by omega), uZ_eq, ed]
      have t2 : takeF M (nxt N g (-1)) (byF N g (-1) u) r (120 + 4 * g + r) = M (120 + 4 * g + r) + byF N g (-1) u := by
        unfold takeF
        rw [eg, uZ_eq]
      rw [relF_s hu0, rlF_s hu0, en, eb, ed]
      refine ⟨by rw [i1], i2, ?_, ?_, fun k hk a b => ?_⟩
      · dsimp only
        rw [i3, t1]
        omega
      · dsimp only
        rw [i4, t2]
        omega
      · dsimp only
        unfold kpQ at hk
        rw [i5 k hk a b]
        exact takeF_ne (by omega) a (by rw [eg]; exact b)
theorem rel_rad {N : Int → Int} {g u r : Int} (hR : InR N) (hg : 0 ≤ g ∧ g < 8) (hr : 0 ≤ r ∧ r < 4) (hu : 0 ≤ u) (hr2 : u ≤ restF N g) : radF (rlF u.toNat N g u).1 g r u (rlF u.toNat N g u).2 = (relF u.toNat N g u r).1 ∧ (rlF u.toNat N g u).2 = (relF u.toNat N g u r).2 := by
  obtain ⟨i1, i2, i3, i4, i5⟩ := relF_rl u.toNat hR (fun k _ => rfl) hg hr hu (by omega) hr2
  refine ⟨?_, i1.symm⟩
  funext k
  unfold radF
  have hn : ∀ (n : Nat) (N : Int → Int) (u k : Int), (k < 272 ∨ 332 ≤ k) → InR N → 0 ≤ u → u ≤ (n : Int) → u ≤ restF N g → (rlF n N g u).1 k = N k := by
    intro n
    induction n with
    | zero => intro N u k _ _ _ _ _; rfl
    | succ n ih =>
      intro N u k hk hR h0 hn hu
      by_cases hu0 : u ≤ 0
      · rw [rlF_0 hu0]
      · have hb := nx_pos (by omega) (nxt_is N g (-1))
        have hbd := hR.1
        obtain ⟨b0, b1, b2, b3, b4, b5, b6, b7, b8, b9⟩ := hbd
        have hf := hR.2 _ hb.1.1 hb.1.2
        have hby := byF_in hu0 hb.2.1
        have hgd : N (152 + nxt N g (-1)) = g := by omega
        have h2 := cut_rest (u := byF N g (-1) u) hR hb.1
        rw [hgd] at h2
        rw [rlF_s hu0]
        dsimp only
        rw [ih _ _ k hk (cut_R hR hb.1 (by omega)) (by omega) (by omega) (by omega), uZ_ne (by omega)]
  have e1 : (rlF u.toNat N g u).1 (10 + r) = N (10 + r) := hn _ N u _ (by omega) hR hu (by omega) hr2
  have e2 : (rlF u.toNat N g u).1 (120 + 4 * g + r) = N (120 + 4 * g + r) := hn _ N u _ (by omega) hR hu (by omega) hr2
  by_cases h1 : k = 10 + r
  · rw [h1, uZ_eq, i3, e1]
  · rw [uZ_ne h1]
    by_cases h2 : k = 120 + 4 * g + r
    · rw [h2, uZ_eq, i4, e2]
    · rw [uZ_ne h2]
      by_cases h3 : kpQ k
      · exact (i2 k h3).symm
      · rw [i5 k h3 h1 h2]
        unfold kpQ at h3
        exact hn _ N u k (by omega) hR hu (by omega) hr2
/-- behind a step: what is left in order comes behind the bond -/
theorem step_pos {N : Int → Int} {g z v : Int} (h60 : N 6 ≤ 60) (hz : 0 ≤ z ∧ z < N 6) (hn : z = nxt N g (-1)) (h0 : v ≤ 0) : ∀ k : Int, 0 ≤ k → k < N 6 → okB (uZ N (272 + z) v) g (-1) k → okB (uZ N (272 + z) v) g z k := by
  intro k a b h
  have hk : k ≠ z := fun e => by
    unfold okB at h
    rw [e, uZ_eq] at h
    omega
  have hN : okB N g (-1) k := by
    unfold okB at *
    rw [uZ_ne (by omega), uZ_ne (by omega)] at h
    omega
  have hm : N (392 + z) < N (392 + k) ∨ (N (392 + z) = N (392 + k) ∧ z ≤ k) := by
    rcases nxt_is N g (-1) with ⟨h1, -⟩ | ⟨h1, -, h3⟩
    · omega
    · rw [← hn] at h3
      exact h3 k a b hN
  unfold okB at *
  rw [uZ_ne (by omega), uZ_ne (by omega), uZ_ne (by omega), uZ_ne (by omega)]
  omega
theorem step_cnt {N : Int → Int} {g p z v : Int} (h6 : 0 ≤ N 6 ∧ N 6 ≤ 60) (hz : 0 ≤ z ∧ z < N 6) (hn : z = nxt N g p) (h0 : v ≤ 0) (hp : p = -1 ∨ (0 ≤ p ∧ p < N 6)) : cF (uZ N (272 + z) v) g z ≤ cF N g p - 1 := by
  have hzo : okB N g p z := by
    rcases nxt_is N g p with ⟨h1, -⟩ | ⟨-, h2, -⟩
    · omega
    · rw [hn]; exact h2
  refine cF_less (uZ_ne (by omega)) hz hzo (fun h => by
    unfold okB at h
    rw [uZ_eq] at h
    omega) fun k a b h => ?_
  have hk : k ≠ z := fun e => by
    unfold okB at h
    rw [e, uZ_eq] at h
    omega
  unfold okB at *
  rw [uZ_ne (by omega), uZ_ne (by omega), uZ_ne (by omega), uZ_ne (by omega)] at h
  omega
