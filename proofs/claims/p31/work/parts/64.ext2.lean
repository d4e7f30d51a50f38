/-- a bond runs out -/
theorem run_gm {N : Int → Int} {b : Int} (h : InY N) (hb : 0 ≤ b ∧ b < N 6) (hg0 : GM N) (hc0 : EC N) : GM (losF 10 (takeF N b (N (272 + b)) 3) (N (152 + b)) (N (272 + b))).1 ∧ EC (losF 10 (takeF N b (N (272 + b)) 3) (N (152 + b)) (N (272 + b))).1 ∧ (losF 10 (takeF N b (N (272 + b)) 3) (N (152 + b)) (N (272 + b))).1 13 = N 13 + N (272 + b) * N (332 + b) := by
  have hf := h.2.2.2.1 b hb.1 hb.2
  obtain ⟨b0, b1, b2, b3, b4, b5, b6, b7, b8, b9⟩ := inY_b h
  have hR := inY_R h
  have hg : 0 ≤ N (152 + b) ∧ N (152 + b) < 8 := by omega
  have tG := takeF_gm (u := N (272 + b)) (r := 3) hR hb (by omega) (by omega) hg0
  have tr := takeF_rest (u := N (272 + b)) (r := 3) hR hb (by omega)
  have tr2 : ∀ q : Int, q ≠ N (152 + b) → restF (takeF N b (N (272 + b)) 3) q = restF N q := fun q hq => takeF_rest2 hR hb (by omega) hq
  have t13 := takeF_10 (N := N) (b := b) (u := N (272 + b)) (r := 3) (by omega) hb.1 (by omega)
  have eT : ∀ k : Int, k < 10 ∨ (14 ≤ k ∧ k < 120) ∨ (152 ≤ k ∧ k < 272) ∨ 332 ≤ k → takeF N b (N (272 + b)) 3 k = N k := fun k hk => takeF_ne (by omega) (by omega) (by omega)
  have hp : ∀ k : Int, 24 ≤ k → k < 104 → 0 ≤ N k := fun k a c => by
    by_cases hk : k < 64
    · have h1 := (h.2.2.1 ((k - 24) / 8) ((k - 24) % 8) (by omega) (by omega) (by omega) (by omega)).1.1
      rw [show 24 + 8 * ((k - 24) / 8) + (k - 24) % 8 = k by omega] at h1
      exact h1
    · have h1 := (h.2.2.1 ((k - 64) / 8) ((k - 64) % 8) (by omega) (by omega) (by omega) (by omega)).2.1.1
      rw [show 64 + 8 * ((k - 64) / 8) + (k - 64) % 8 = k by omega] at h1
      exact h1
  obtain ⟨l1, l2, l3, l4, l5⟩ := losF_all 10 (N := takeF N b (N (272 + b)) 3) (g := N (152 + b)) (u := N (272 + b)) (by omega) hg (by omega) fun k a c => by rw [eT k (by omega)]; exact hp k a c
  have eL : ∀ k : Int, k < 24 ∨ 104 ≤ k → (losF 10 (takeF N b (N (272 + b)) 3) (N (152 + b)) (N (272 + b))).1 k = takeF N b (N (272 + b)) 3 k := fun k hk => losF_ne 10 (by omega) hg hk
  rw [sumA_10, sumA_10] at l3
  rw [sumA_10] at l4
  rw [hasF_eq (N := N) (M := takeF N b (N (272 + b)) 3) hg fun k a c => eT k (by omega), missF_eq (N := N) (M := takeF N b (N (272 + b)) 3) hg fun k a c => eT k (by omega)] at l3
  have e6T : takeF N b (N (272 + b)) 3 6 = N 6 := eT 6 (by omega)
  generalize losF 10 (takeF N b (N (272 + b)) 3) (N (152 + b)) (N (272 + b)) = L at l1 l2 l3 l4 l5 eL ⊢
  generalize takeF N b (N (272 + b)) 3 = T at tG tr tr2 t13 eT e6T l1 l5 eL
  refine ⟨gm_eq (N := T) (by omega) tG fun k hk => eL k (by omega), fun q a c => ?_, by rw [eL 13 (by omega)]; exact t13⟩
  have hr : restF L.1 q = restF T q := restF_eq (eL 6 (by omega)) fun k x y => ⟨eL _ (by omega), eL _ (by omega)⟩
  have h1 := hc0 q a c
  rw [hr]
  by_cases hq : q = N (152 + b)
  · rw [hq] at h1 ⊢
    rw [tr]
    have h2 := restF_ge hR hb
    rcases l4 with l4 | l4 <;> omega
  · rw [tr2 q hq]
    have e1 : hasF L.1 q = hasF N q := sumZ_congr (f := fun k => L.1 (24 + 8 * k + q)) (g := fun k => N (24 + 8 * k + q)) 5 fun k x y => by
      show L.1 (24 + 8 * k + q) = N (24 + 8 * k + q)
      rw [l5 (24 + 8 * k + q) fun j z w => (atF_has (k := j) (l := k) (by omega) hg (by omega) ⟨a, c⟩ hq).1.symm, eT _ (by omega)]
    have e2 : missF L.1 q = missF N q := sumZ_congr (f := fun k => L.1 (64 + 8 * k + q)) (g := fun k => N (64 + 8 * k + q)) 5 fun k x y => by
      show L.1 (64 + 8 * k + q) = N (64 + 8 * k + q)
      rw [l5 (64 + 8 * k + q) fun j z w => (atF_has (k := j) (l := k) (by omega) hg (by omega) ⟨a, c⟩ hq).2.symm, eT _ (by omega)]
    rw [e1, e2]
    exact h1
theorem roF_gm : ∀ (n : Nat) {N : Int → Int}, InY N → GM N → EC N → GM (roF n N).1 ∧ EC (roF n N).1 ∧ (roF n N).1 13 = N 13 + (roF n N).2 ∧ 0 ≤ (roF n N).2
  | 0, N, h, hG, hC => ⟨hG, hC, (Int.add_zero _).symm, Int.le_refl 0⟩
  | n + 1, N, h, hG, hC => by
    by_cases hc : nxt N (-1) (-1) < 0 ∨ N 1 ≤ N (392 + nxt N (-1) (-1))
    · rw [roF_0 hc]
      exact ⟨hG, hC, (Int.add_zero _).symm, Int.le_refl 0⟩
    · rw [roF_s hc]
      have h2 := nxt_or N (-1) (-1)
      have hf := h.2.2.2.1 (nxt N (-1) (-1)) (by omega) (by omega)
      obtain ⟨j1, -⟩ := y_run h (b := nxt N (-1) (-1)) (by omega)
      obtain ⟨k1, k2, k3⟩ := run_gm h (b := nxt N (-1) (-1)) (by omega) hG hC
      obtain ⟨i1, i2, i3, i4⟩ := roF_gm n j1 k1 k2
      have hd : 0 ≤ N (272 + nxt N (-1) (-1)) * N (332 + nxt N (-1) (-1)) := Int.mul_nonneg (by omega) (by omega)
      refine ⟨i1, i2, ?_, ?_⟩
      · dsimp only
        rw [i3, k3]
        omega
      · dsimp only
        omega
/-- no bond that is over has units left -/
theorem roF_ed : ∀ (n : Nat) {N : Int → Int}, InR N → livF N < (n : Int) → ED (roF n N).1
  | 0, N, hR, hn => by
    have := (livF_in (N := N) hR.1.2.2.2.2.2.2.1.1).1
    omega
  | n + 1, N, hR, hn => by
    by_cases hc : nxt N (-1) (-1) < 0 ∨ N 1 ≤ N (392 + nxt N (-1) (-1))
    · rw [roF_0 hc]
      intro b a c d
      have ho : okB N (-1) (-1) b := ⟨d, Or.inl (by omega), Or.inl (by omega)⟩
      dsimp only at c d ⊢
      rcases nxt_is N (-1) (-1) with ⟨h1, h2⟩ | ⟨h1, h2, h3⟩
      · exact absurd ho (h2 b a c)
      · have := h3 b a c ho
        omega
    · obtain ⟨h1, h2, h3⟩ := stp_f hR (by omega)
      have i := roF_ed n h1 (by omega)
      rw [roF_s hc]
      exact i
theorem sPass_X {N : Int → Int} (h : InX N) (d : Int) : InX (sPass N d).2 := by
  refine ⟨sPass_inv h.1 d, ?_⟩
  have hY := inY h.1
  obtain ⟨b0, b1, b2, b3, b4, b5, b6, b7, b8, b9⟩ := inY_b hY
  unfold sPass
  split
  · exact h.2
  rename_i c1
  split
  · exact h.2
  rename_i c2
  have c1 := Decidable.not_not.mp c1
  obtain ⟨hC, hG, hE, hZ, hS, hP⟩ := h.2
  show EX (dayF d.toNat N).1
  rw [dayF_one (inY_R hY) c1.1 (by omega)]
  have pY := y_one (i := 1) (v := N 1 + d) hY (by omega) (by omega) (by omega) (by omega) (by omega) (by omega) (by omega)
  have pG : GM (uZ N 1 (N 1 + d)) := gm_eq b6.2 hG fun k hk => uZ_ne (by omega)
  have pC : EC (uZ N 1 (N 1 + d)) := ec_eq b6.2 hC fun k hk => uZ_ne (by omega)
  obtain ⟨i1, i2, -, -⟩ := roF_gm 61 pY pG pC
  have hl := livF_in (N := uZ N 1 (N 1 + d)) (by rw [uZ_ne (by omega)]; exact b6.1)
  have hl6 : uZ N 1 (N 1 + d) 6 = N 6 := uZ_ne (by omega)
  have i3 := roF_ed 61 (inY_R pY) (by omega)
  obtain ⟨-, j⟩ := y_ro 61 pY
  have j1 : (roF 61 (uZ N 1 (N 1 + d))).1 1 = N 1 + d := by rw [j 1 (by omega), uZ_eq]
  have jj : ∀ k : Int, k ≠ 1 → k < 10 ∨ (14 ≤ k ∧ k < 24) ∨ 332 ≤ k → (roF 61 (uZ N 1 (N 1 + d))).1 k = N k := fun k a c => by rw [j k (by omega), uZ_ne a]
  exact ⟨i2, i1, i3, ez_eq b4.2 hZ fun k hk => jj k (by omega) (by omega), es_eq b4.2 b7.2 hY.2.1 hS fun k hk => jj k (by omega) (by omega), ep_eq b7.2 hP (by rw [j1]; omega) (jj 7 (by omega) (by omega)) fun k a c => jj k (by omega) (by omega)⟩
/-- the missing units of a locker are taxed, good by good -/
theorem ins_X : ∀ (n : Nat) {N : Int → Int} {l : Int}, n ≤ 8 → InY N → 0 ≤ l ∧ l < 5 → EC N → GM N → ED N → EC (insF n N l) ∧ GM (insF n N l) ∧ ED (insF n N l)
  | 0, N, l, _, _, _, hC, hG, hE => ⟨hC, hG, hE⟩
  | n + 1, N, l, hn, h, hl, hC, hG, hE => by
    obtain ⟨i1, i2, i3⟩ := ins_X n (by omega) h hl hC hG hE
    obtain ⟨y1, -⟩ := y_ins n (by omega) h hl
    show EC (uZ (relF ((insF n N l) (64 + 8 * l + (n : Int))).toNat (insF n N l) (n : Int) ((insF n N l) (64 + 8 * l + (n : Int))) 3).1 (64 + 8 * l + (n : Int)) 0) ∧ GM (uZ (relF ((insF n N l) (64 + 8 * l + (n : Int))).toNat (insF n N l) (n : Int) ((insF n N l) (64 + 8 * l + (n : Int))) 3).1 (64 + 8 * l + (n : Int)) 0) ∧ ED (uZ (relF ((insF n N l) (64 + 8 * l + (n : Int))).toNat (insF n N l) (n : Int) ((insF n N l) (64 + 8 * l + (n : Int))) 3).1 (64 + 8 * l + (n : Int)) 0)
    generalize insF n N l = I at i1 i2 i3 y1 ⊢
    obtain ⟨b0, b1, b2, b3, b4, b5, b6, b7, b8, b9⟩ := inY_b y1
    have hg : 0 ≤ (n : Int) ∧ (n : Int) < 8 := by omega
    have hm := (y1.2.2.1 l (n : Int) hl.1 hl.2 hg.1 hg.2).2.1
    have hms : I (64 + 8 * l + (n : Int)) ≤ missF I (n : Int) := sumZ_ge (f := fun l => I (64 + 8 * l + (n : Int))) 5 (fun k a b => (y1.2.2.1 k (n : Int) a (by omega) hg.1 hg.2).2.1.1) hl.1 (by omega)
    have hc := inY_c y1 hg
    have hR := inY_R y1
    obtain ⟨r1, r2, r3, r4⟩ := relF_all (I (64 + 8 * l + (n : Int))).toNat (N := I) (g := (n : Int)) (u := I (64 + 8 * l + (n : Int))) (r := 3) hR hg (by omega) hm.1 (by omega) (by omega)
    have g1 := (relF_gm (I (64 + 8 * l + (n : Int))).toNat (N := I) (g := (n : Int)) (u := I (64 + 8 * l + (n : Int))) (r := 3) hR hg (by omega) hm.1 (by omega) (by omega) i2).1
    have g2 := relF_ed (n := (I (64 + 8 * l + (n : Int))).toNat) (N := I) (g := (n : Int)) (u := I (64 + 8 * l + (n : Int))) (r := 3) hR hg (by omega) hm.1 (by omega) (by omega) i2 i3
    have eR : ∀ k : Int, k < 10 ∨ (14 ≤ k ∧ k < 120) ∨ (152 ≤ k ∧ k < 272) ∨ 332 ≤ k → (relF (I (64 + 8 * l + (n : Int))).toNat I (n : Int) (I (64 + 8 * l + (n : Int))) 3).1 k = I k := r2
    generalize (relF (I (64 + 8 * l + (n : Int))).toNat I (n : Int) (I (64 + 8 * l + (n : Int))) 3).1 = R at r1 r3 r4 eR g1 g2 ⊢
    have e6 : R 6 = I 6 := eR 6 (by omega)
    refine ⟨fun q a b => ?_, gm_eq (N := R) (by omega) g1 fun k hk => uZ_ne (by omega), ed_eq (N := R) (by omega) g2 fun k hk => uZ_ne (by omega)⟩
    have h1 := i1 q a b
    rw [rest_has q (by omega) (by omega), hasF_eq (N := I) (M := uZ R (64 + 8 * l + (n : Int)) 0) ⟨a, b⟩ fun k c d => by rw [uZ_ne (by omega), eR k (by omega)]]
    by_cases hq : q = (n : Int)
    · rw [hq, missF_up hl hg, missF_eq (N := I) hg fun k c d => eR k (by omega), eR (64 + 8 * l + (n : Int)) (by omega), r3]
      rw [hq] at h1
      omega
    · rw [missF_up2 hl hg ⟨a, b⟩ hq, missF_eq (N := I) ⟨a, b⟩ fun k c d => eR k (by omega), r4 q hq]
      exact h1
/-- a seal ends: torn, or taken off -/
theorem es_end {N M : Int → Int} {l v w : Int} (h4 : N 4 ≤ 5) (h7 : N 7 ≤ 200) (hL : InL N) (h : ES N) (hl : 0 ≤ l ∧ l < N 4) (h1 : N (14 + l) = 1) (hv : v ≠ 1) (hw : 1 ≤ w ∧ w ≤ 3) (e : ∀ k : Int, k ≠ 14 + l → k ≠ 854 + N (19 + l) → M k = N k) (e1 : M (14 + l) = v) (e2 : M (854 + N (19 + l)) = w) : ES M := by
  obtain ⟨g1, g2, g3⟩ := h
  have hs := hL l hl.1 (by omega)
  have hs1 := g1 l hl.1 hl.2 h1
  have hs0 := hs.2.2 h1
  refine ⟨fun k a b c => ?_, fun n a b c => ?_, fun n a b => ?_⟩
  · rw [e 4 (by omega) (by omega)] at b
    have hk : k ≠ l := fun q => hv (by rw [← e1, ← q]; exact c)
    rw [e (14 + k) (by omega) (by omega)] at c
    have hk2 := hL k a (by omega)
    have hk3 := g1 k a b c
    have hn : N (19 + k) ≠ N (19 + l) := fun q => hk (by rw [← hk3.1, ← hs1.1, q])
    rw [e (19 + k) (by omega) (by omega), e (452 + N (19 + k)) (by omega) (by omega), e (854 + N (19 + k)) (by omega) (by omega)]
    exact hk3
  · rw [e 7 (by omega) (by omega)] at b
    have hn : n ≠ N (19 + l) := fun q => by
      rw [q, e2] at c
      omega
    rw [e (854 + n) (by omega) (by omega)] at c
    have q := g2 n a b c
    have hk : N (452 + n) ≠ l := fun x => hn (by rw [← q.2.2, x])
    rw [e (452 + n) (by omega) (by omega), e 4 (by omega) (by omega), e (14 + N (452 + n)) (by omega) (by omega), e (19 + N (452 + n)) (by omega) (by omega)]
    exact q
  · rw [e 7 (by omega) (by omega)] at b
    by_cases hn : n = N (19 + l)
    · rw [hn, e2]
      omega
    · rw [e (854 + n) (by omega) (by omega)]
      exact g3 n a b
theorem es_off {N : Int → Int} {l w : Int} (hY : InY N) (h : ES N) (hl : 0 ≤ l ∧ l < N 4) (hw : 1 ≤ w ∧ w ≤ 3) : ES (offF N l w) ∧ offF N l w (14 + l) ≠ 1 := by
  obtain ⟨b0, b1, b2, b3, b4, b5, b6, b7, b8, b9⟩ := inY_b hY
  have hs := hY.2.1 l hl.1 (by omega)
  unfold offF
  by_cases h1 : N (14 + l) = 1
  · rw [if_pos h1]
    refine ⟨es_end (v := 0) b4.2 b7.2 hY.2.1 h hl h1 (by omega) hw (fun k a b => by rw [uZ_ne a, uZ_ne b]) uZ_eq (by rw [uZ_ne (by omega), uZ_eq]), by rw [uZ_eq]; omega⟩
  · rw [if_neg h1]
    exact ⟨h, h1⟩
/-- a locker that is not sealed, and will not be -/
theorem es_state {N : Int → Int} {l v : Int} (h4 : N 4 ≤ 5) (h7 : N 7 ≤ 200) (hL : InL N) (h : ES N) (hl : 0 ≤ l ∧ l < N 4) (h1 : N (14 + l) ≠ 1) (hv : v ≠ 1) : ES (uZ N (14 + l) v) := by
  obtain ⟨g1, g2, g3⟩ := h
  refine ⟨fun k a b c => ?_, fun n a b c => ?_, fun n a b => ?_⟩
  · rw [uZ_ne (by omega)] at b
    have hk : k ≠ l := fun q => hv (by rw [q, uZ_eq] at c; exact c)
    rw [uZ_ne (by omega)] at c
    have hk2 := hL k a (by omega)
    rw [uZ_ne (i := 14 + l) (k := 19 + k) (by omega), uZ_ne (by omega), uZ_ne (by omega)]
    exact g1 k a b c
  · rw [uZ_ne (by omega)] at b c
    have q := g2 n a b c
    have hk : N (452 + n) ≠ l := fun x => h1 (by rw [← x]; exact q.2.1)
    rw [uZ_ne (i := 14 + l) (k := 452 + n) (by omega), uZ_ne (by omega), uZ_ne (by omega), uZ_ne (by omega)]
    exact q
  · rw [uZ_ne (by omega)] at b
    rw [uZ_ne (by omega)]
    exact g3 n a b
/-- a seal is put on a locker that has none -/
theorem es_put {N M : Int → Int} {l : Int} (h4 : N 4 ≤ 5) (h7 : 0 ≤ N 7 ∧ N 7 < 200) (hL : InL N) (h : ES N) (hl : 0 ≤ l ∧ l < 5) (h1 : l < N 4 → N (14 + l) ≠ 1) (e : ∀ k : Int, k ≠ 4 → M k = sealsF N l k) (e4 : l < M 4 ∧ N 4 ≤ M 4 ∧ ∀ k : Int, k < M 4 → k = l ∨ k < N 4) (h45 : M 4 ≤ 5) : ES M := by
  obtain ⟨g1, g2, g3⟩ := h
  have m7 : M 7 = N 7 + 1 := by rw [e 7 (by omega), sealsF_7 hl h7.1]
  have m14 : M (14 + l) = 1 := by rw [e _ (by omega), sealsF_14 hl h7.1]
  have m19 : M (19 + l) = N 7 + 1 := by rw [e _ (by omega), sealsF_19 hl h7.1]
  have m453 : M (452 + (N 7 + 1)) = l := by
    rw [e _ (by omega), show 452 + (N 7 + 1) = 453 + N 7 by omega]
    unfold sealsF
    rw [uZ_ne (by omega), uZ_ne (by omega), uZ_eq]
  have m855 : M (854 + (N 7 + 1)) = 0 := by
    rw [e _ (by omega), show 854 + (N 7 + 1) = 855 + N 7 by omega]
    unfold sealsF
    rw [uZ_eq]
  have em : ∀ k : Int, k ≠ 4 → k ≠ 7 ∧ k ≠ 14 + l ∧ k ≠ 19 + l ∧ k ≠ 453 + N 7 ∧ k ≠ 654 + N 7 ∧ k ≠ 855 + N 7 → M k = N k := fun k a b => by rw [e k a, sealsF_ne b]
  refine ⟨fun k a b c => ?_, fun n a b c => ?_, fun n a b => ?_⟩
  · by_cases hk : k = l
    · rw [hk, m19]
      exact ⟨m453, m855⟩
    · have hk4 := (e4.2.2 k b).resolve_left hk
      have hk2 := hL k a (by omega)
      rw [em (14 + k) (by omega) (by omega)] at c
      rw [em (19 + k) (by omega) (by omega), em (452 + N (19 + k)) (by omega) (by omega), em (854 + N (19 + k)) (by omega) (by omega)]
      exact g1 k a hk4 c
  · rw [m7] at b
    by_cases hn : n = N 7 + 1
    · rw [hn, m453, m14, m19]
      exact ⟨⟨hl.1, e4.1⟩, rfl, rfl⟩
    · rw [em (854 + n) (by omega) (by omega)] at c
      have q := g2 n a (by omega) c
      have hk : N (452 + n) ≠ l := fun x => h1 (by omega) (by rw [← x]; exact q.2.1)
      rw [em (452 + n) (by omega) (by omega), em (14 + N (452 + n)) (by omega) (by omega), em (19 + N (452 + n)) (by omega) (by omega)]
      exact ⟨⟨q.1.1, by omega⟩, q.2⟩
  · rw [m7] at b
    by_cases hn : n = N 7 + 1
    · rw [hn, m855]
      omega
    · rw [em (854 + n) (by omega) (by omega)]
      exact g3 n a (by omega)
theorem ep_put {N M : Int → Int} {l : Int} (h1 : 0 ≤ N 1) (h7 : 0 ≤ N 7 ∧ N 7 < 200) (h : EP N) (hl : 0 ≤ l ∧ l < 5) (e : ∀ k : Int, k ≠ 4 → M k = sealsF N l k) : EP M := by
  have m7 : M 7 = N 7 + 1 := by rw [e 7 (by omega), sealsF_7 hl h7.1]
  have em : ∀ k : Int, k ≠ 4 → k ≠ 7 ∧ k ≠ 14 + l ∧ k ≠ 19 + l ∧ k ≠ 453 + N 7 ∧ k ≠ 654 + N 7 ∧ k ≠ 855 + N 7 → M k = N k := fun k a b => by rw [e k a, sealsF_ne b]
  have m654 : M (653 + (N 7 + 1)) = N 1 := by
    rw [e _ (by omega), show 653 + (N 7 + 1) = 654 + N 7 by omega]
    unfold sealsF
    rw [uZ_ne (by omega), uZ_eq]
  intro n a b
  rw [m7] at b
  rw [em 1 (by omega) (by omega)]
  by_cases hn : n = N 7 + 1
  · rw [hn, m654]
    refine ⟨⟨h1, Int.le_refl _⟩, fun c => ?_⟩
    have q := h (N 7) (by omega) (Int.le_refl _)
    rw [show 652 + (N 7 + 1) = 653 + N 7 by omega, em (653 + N 7) (by omega) (by omega)]
    exact q.1.2
  · have q := h n a (by omega)
    rw [em (653 + n) (by omega) (by omega)]
    refine ⟨q.1, fun c => ?_⟩
    rw [em (652 + n) (by omega) (by omega)]
    exact q.2 c
