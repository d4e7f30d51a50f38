/-- the states before: the class's ring of five ships, the reference's ring of four rows -/
def HisR (R : Nat → Int → Int) (G SS F : Int → Int) : Prop := F 0 = G 0 ∧ (0 ≤ G 0 ∧ G 0 ≤ 4) ∧ (0 ≤ G 1 ∧ G 1 ≤ 4) ∧ (0 ≤ F 1 ∧ F 1 < 4) ∧ ∀ k : Int, 0 ≤ k → k < G 0 → Inv (R ((G 1 + 5 - k) % 5).toNat) ∧ ∀ i : Int, 0 ≤ i → i < 1055 → SS (1055 * ((F 1 + 3 - k) % 4) + i) = R ((G 1 + 5 - k) % 5).toNat i
def RelL (N : Int → Int) (R : Nat → Int → Int) (G L NU TT SS F : Int → Int) : Prop := Inv N ∧ HisR R G SS F ∧ (0 ≤ L 0 ∧ L 0 ≤ 80) ∧ F 2 = L 0 ∧ TxT TT (L 0) ∧ (F 4 = 0 ∨ F 4 = 1) ∧ nuIn NU
theorem his_F {R : Nat → Int → Int} {G SS F F2 : Int → Int} (h : HisR R G SS F) (e0 : F2 0 = F 0) (e1 : F2 1 = F 1) : HisR R G SS F2 := by
  unfold HisR
  rw [e0, e1]
  exact h
theorem his_rec {R : Nat → Int → Int} {G SS F N : Int → Int} (h : HisR R G SS F) (hN : Inv N) (z : Int) : HisR (upR R (spF G).toNat N) (fiG G z) (recP N SS F z).1 (recP N SS F z).2 := by
  obtain ⟨h0, hg0, hg1, hf1, hk⟩ := h
  have hs : spF G = (G 1 + 1) % 5 := by
    unfold spF
    split <;> omega
  unfold fiG recP
  by_cases hz : iI z < 0
  · rw [if_pos hz, if_pos hz]
    refine ⟨h0, hg0, hg1, hf1, fun k a b => ?_⟩
    rw [upR_ne (by omega)]
    exact hk k a b
  · rw [if_neg hz, if_neg hz]
    dsimp only
    have e0 : uZ (uZ G 1 (spF G)) 0 (if G 0 < 4 then G 0 + 1 else 4) 0 = if G 0 < 4 then G 0 + 1 else 4 := uZ_eq
    have e1 : uZ (uZ G 1 (spF G)) 0 (if G 0 < 4 then G 0 + 1 else 4) 1 = (G 1 + 1) % 5 := by rw [uZ_ne (by omega), uZ_eq, hs]
    have e2 : uZ (uZ F 1 ((F 1 + 1) % 4)) 0 (if F 0 < 4 then F 0 + 1 else 4) 0 = if F 0 < 4 then F 0 + 1 else 4 := uZ_eq
    have e3 : uZ (uZ F 1 ((F 1 + 1) % 4)) 0 (if F 0 < 4 then F 0 + 1 else 4) 1 = (F 1 + 1) % 4 := by rw [uZ_ne (by omega), uZ_eq]
    unfold HisR
    rw [e0, e1, e2, e3, hs, h0]
    have hm : 0 ≤ (if G 0 < 4 then G 0 + 1 else 4) ∧ (if G 0 < 4 then G 0 + 1 else 4) ≤ 4 ∧ (if G 0 < 4 then G 0 + 1 else 4) ≤ G 0 + 1 := by split <;> omega
    generalize (if G 0 < 4 then G 0 + 1 else 4) = g at hm
    refine ⟨rfl, ⟨hm.1, hm.2.1⟩, by omega, by omega, fun k a b => ?_⟩
    by_cases hk0 : k = 0
    · subst hk0
      rw [show (((G 1 + 1) % 5 + 5 - 0) % 5).toNat = ((G 1 + 1) % 5).toNat by omega, upR_eq, show ((F 1 + 1) % 4 + 3 - 0) % 4 = F 1 by omega]
      refine ⟨hN, fun i c d => ?_⟩
      unfold recQ
      rw [if_pos (by omega), show 1055 * F 1 + i - 1055 * F 1 = i by omega]
    · have hk1 := hk (k - 1) (by omega) (by omega)
      rw [show ((G 1 + 1) % 5 + 5 - k) % 5 = (G 1 + 5 - (k - 1)) % 5 by omega, upR_ne (by omega), show ((F 1 + 1) % 4 + 3 - k) % 4 = (F 1 + 3 - (k - 1)) % 4 by omega]
      refine ⟨hk1.1, fun i c d => ?_⟩
      have hr : (F 1 + 3 - (k - 1)) % 4 ≠ F 1 := by omega
      rw [← hk1.2 i c d]
      generalize (F 1 + 3 - (k - 1)) % 4 = r at hr
      unfold recQ
      rw [if_neg (by omega)]
theorem his_und {R : Nat → Int → Int} {G SS F N : Int → Int} (h : HisR R G SS F) (hg : G 0 ≠ 0) : HisR R (uZ (uZ G 1 (if 0 < G 1 then G 1 - 1 else 4)) 0 (G 0 - 1)) SS (uZ (uZ F 1 ((F 1 + 4 - 1) % 4)) 0 (F 0 - 1)) ∧ Inv (R (G 1).toNat) ∧ ∀ i : Int, 0 ≤ i → i < 1055 → unQ N SS ((F 1 + 4 - 1) % 4) 1055 i = R (G 1).toNat i := by
  obtain ⟨h0, hg0, hg1, hf1, hk⟩ := h
  refine ⟨?_, ?_, ?_⟩
  · have e0 : uZ (uZ G 1 (if 0 < G 1 then G 1 - 1 else 4)) 0 (G 0 - 1) 0 = G 0 - 1 := uZ_eq
    have e1 : uZ (uZ G 1 (if 0 < G 1 then G 1 - 1 else 4)) 0 (G 0 - 1) 1 = if 0 < G 1 then G 1 - 1 else 4 := by rw [uZ_ne (by omega), uZ_eq]
    have e2 : uZ (uZ F 1 ((F 1 + 4 - 1) % 4)) 0 (F 0 - 1) 0 = F 0 - 1 := uZ_eq
    have e3 : uZ (uZ F 1 ((F 1 + 4 - 1) % 4)) 0 (F 0 - 1) 1 = (F 1 + 4 - 1) % 4 := by rw [uZ_ne (by omega), uZ_eq]
    have hm : (if 0 < G 1 then G 1 - 1 else 4) = (G 1 + 4) % 5 := by split <;> omega
    unfold HisR
    rw [e0, e1, e2, e3, h0, hm]
    refine ⟨rfl, by omega, by omega, by omega, fun k a b => ?_⟩
    have hk1 := hk (k + 1) (by omega) (by omega)
    rw [show ((G 1 + 4) % 5 + 5 - k) % 5 = (G 1 + 5 - (k + 1)) % 5 by omega, show ((F 1 + 4 - 1) % 4 + 3 - k) % 4 = (F 1 + 3 - (k + 1)) % 4 by omega]
    exact hk1
  · have hk1 := (hk 0 (by omega) (by omega)).1
    rw [show ((G 1 + 5 - 0) % 5).toNat = (G 1).toNat by omega] at hk1
    exact hk1
  · intro i a b
    have hk1 := (hk 0 (by omega) (by omega)).2 i a b
    rw [show ((G 1 + 5 - 0) % 5).toNat = (G 1).toNat by omega, show (F 1 + 3 - 0) % 4 = (F 1 + 4 - 1) % 4 by omega] at hk1
    unfold unQ
    rw [if_pos (by omega), hk1]
theorem recP_f (N SS F : Int → Int) (z : Int) : ∀ k : Int, k ≠ 0 → k ≠ 1 → (recP N SS F z).2 k = F k := fun k a b => by
  unfold recP
  split
  · rfl
  · dsimp only
    rw [uZ_ne a, uZ_ne b]
theorem rel_chg {N N2 : Int → Int} {R : Nat → Int → Int} {G L NU TT SS F : Int → Int} (h : RelL N R G L NU TT SS F) (h2 : Inv N2) (z : Int) : RelL N2 (upR R (spF G).toNat N) (fiG G z) L NU TT (recP N SS F z).1 (recP N SS F z).2 := by
  obtain ⟨hI, hH, hL, hF2, hT, hF4, hn⟩ := h
  exact ⟨h2, his_rec hH hI z, hL, by rw [recP_f N SS F z 2 (by omega) (by omega)]; exact hF2, hT, by rw [recP_f N SS F z 4 (by omega) (by omega)]; exact hF4, hn⟩
theorem rel_F {N : Int → Int} {R : Nat → Int → Int} {G L L2 NU NU2 TT SS F F2 : Int → Int} (h : RelL N R G L NU TT SS F) (e : ∀ k : Int, k < 3 → F2 k = F k) (h4 : F2 4 = 0 ∨ F2 4 = 1) (hL2 : L2 0 = L 0) (hn2 : nuIn NU2) : RelL N R G L2 NU2 TT SS F2 := by
  obtain ⟨hI, hH, hL, hF2, hT, hF4, hn⟩ := h
  exact ⟨hI, his_F hH (e 0 (by omega)) (e 1 (by omega)), by rw [hL2]; exact hL, by rw [e 2 (by omega), hL2]; exact hF2, by rw [hL2]; exact hT, h4, hn2⟩
theorem rel_type {N : Int → Int} {R : Nat → Int → Int} {G L NU TT SS F : Int → Int} {ch : Int} (h : RelL N R G L NU TT SS F) (hc : 32 ≤ ch ∧ ch ≤ 126) (h8 : L 0 ≠ 80) : RelL N R G (uZ L 0 (L 0 + 1)) NU (uZ TT (L 0) ch) SS (uZ F 2 (L 0 + 1)) := by
  obtain ⟨hI, hH, hL, hF2, hT, hF4, hn⟩ := h
  refine ⟨hI, his_F hH (uZ_ne (by omega)) (uZ_ne (by omega)), by rw [uZ_eq]; omega, by rw [uZ_eq, uZ_eq], ?_, by rw [uZ_ne (by omega)]; exact hF4, hn⟩
  rw [uZ_eq]
  intro k a b
  by_cases e : k = L 0
  · rw [e, uZ_eq]
    exact hc
  · rw [uZ_ne e]
    exact hT k a (by omega)
theorem rel_clear {N : Int → Int} {R : Nat → Int → Int} {G L NU TT SS F : Int → Int} (h : RelL N R G L NU TT SS F) : RelL N R G (uZ L 0 0) NU TT SS (uZ F 2 0) := by
  obtain ⟨hI, hH, hL, hF2, hT, hF4, hn⟩ := h
  refine ⟨hI, his_F hH (uZ_ne (by omega)) (uZ_ne (by omega)), by rw [uZ_eq]; omega, by rw [uZ_eq, uZ_eq], ?_, by rw [uZ_ne (by omega)]; exact hF4, hn⟩
  rw [uZ_eq]
  intro k a b
  omega
theorem rel_undo {N : Int → Int} {R : Nat → Int → Int} {G L NU TT SS F : Int → Int} (h : RelL N R G L NU TT SS F) (hg : G 0 ≠ 0) : RelL (R (G 1).toNat) R (uZ (uZ G 1 (if 0 < G 1 then G 1 - 1 else 4)) 0 (G 0 - 1)) L NU TT SS (uZ (uZ F 1 ((F 1 + 4 - 1) % 4)) 0 (F 0 - 1)) := by
  obtain ⟨hI, hH, hL, hF2, hT, hF4, hn⟩ := h
  have h1 := his_und (N := N) hH hg
  exact ⟨h1.2.1, h1.1, hL, by rw [uZ_ne (by omega), uZ_ne (by omega)]; exact hF2, hT, by rw [uZ_ne (by omega), uZ_ne (by omega)]; exact hF4, hn⟩
theorem inv_n0 : Inv n0F := by
  have z : ∀ k : Int, k = 1 ∨ 4 ≤ k → n0F k = 0 := fun k h => n0F_z h
  have e0 : n0F 0 = 2 := rfl
  have e2 : n0F 2 = 5000 := rfl
  have e3 : n0F 3 = 30 := rfl
  have e6 : n0F 6 = 0 := z 6 (by omega)
  have hh : ∀ g : Int, 0 ≤ g → hasF n0F g = 0 := fun g a => by
    have h1 : hasF n0F g = sumZ (fun _ => (0 : Int)) 5 := sumZ_congr 5 fun k b c => z _ (by omega)
    rw [h1, sumZ_const]
    omega
  have hm : ∀ g : Int, 0 ≤ g → missF n0F g = 0 := fun g a => by
    have h1 : missF n0F g = sumZ (fun _ => (0 : Int)) 5 := sumZ_congr 5 fun k b c => z _ (by omega)
    rw [h1, sumZ_const]
    omega
  refine ⟨?_, fun l a b => ?_, fun l g a b c d => ?_, fun b a c => ?_, fun g a b => ?_, fun g a b => ?_, fun g a b => ?_, fun q => ?_, ?_⟩
  · unfold In0
    rw [e0, e2, e3, z 1 (by omega), z 4 (by omega), z 5 (by omega), e6, z 7 (by omega), z 8 (by omega), z 9 (by omega)]
    omega
  · rw [z (14 + l) (by omega), z (19 + l) (by omega), z 7 (by omega)]
    exact ⟨by omega, by omega, fun q => by omega⟩
  · rw [z (24 + 8 * l + g) (by omega), z (64 + 8 * l + g) (by omega)]
    exact ⟨by omega, by omega, fun _ => ⟨rfl, rfl⟩⟩
  · rw [e6] at c
    omega
  · rw [z 5 (by omega)] at b
    omega
  · rw [hh g a, hm g a]
    unfold restF
    rw [e6]
    exact Int.le_refl _
  · rw [z (112 + g) (by omega), e6]
    rfl
  · rw [e0] at q
    omega
  · unfold InF
    rw [z 8 (by omega), z 7 (by omega)]
    omega
theorem rel_ini : RelL n0F (fun _ => n0F) zF zF zF zF zF zF := by
  refine ⟨inv_n0, ⟨rfl, ?_, ?_, ?_, fun k a b => ?_⟩, ?_, rfl, fun k a b => ?_, Or.inl rfl, fun k a b => ?_⟩
  · show (0 : Int) ≤ 0 ∧ (0 : Int) ≤ 4
    omega
  · show (0 : Int) ≤ 0 ∧ (0 : Int) ≤ 4
    omega
  · show (0 : Int) ≤ 0 ∧ (0 : Int) < 4
    omega
  · have b : k < (0 : Int) := b
    omega
  · show (0 : Int) ≤ 0 ∧ (0 : Int) ≤ 80
    omega
  · have b : k < (0 : Int) := b
    omega
  · show (0 : Int) ≤ 0 ∧ (0 : Int) ≤ 9999
    omega
