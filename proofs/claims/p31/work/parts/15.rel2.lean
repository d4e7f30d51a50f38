def kpR (k : Int) : Prop := k < 10 ∨ (14 ≤ k ∧ k < 120) ∨ (152 ≤ k ∧ k < 272) ∨ 332 ≤ k
theorem byF_in {N : Int → Int} {g p u : Int} (h : ¬ u ≤ 0) (hb : 0 < N (272 + nxt N g p)) : 1 ≤ byF N g p u ∧ byF N g p u ≤ u ∧ byF N g p u ≤ N (272 + nxt N g p) := by
  unfold byF
  split <;> omega
theorem relF_all : ∀ (n : Nat) {N : Int → Int} {g u r : Int}, InR N → 0 ≤ g ∧ g < 8 → 0 ≤ r ∧ r < 4 → 0 ≤ u → u ≤ (n : Int) → u ≤ restF N g → InR (relF n N g u r).1 ∧ (∀ k, kpR k → (relF n N g u r).1 k = N k) ∧ restF (relF n N g u r).1 g = restF N g - u ∧ ∀ g2, g2 ≠ g → restF (relF n N g u r).1 g2 = restF N g2
  | 0, N, g, u, r, hR, hg, hr, h0, hn, hu => by
    rw [relF_0 (by omega)]
    exact ⟨hR, fun k _ => rfl, by show restF N g = restF N g - u; omega, fun g2 _ => rfl⟩
  | n + 1, N, g, u, r, hR, hg, hr, h0, hn, hu => by
    by_cases hu0 : u ≤ 0
    · rw [relF_0 hu0]
      exact ⟨hR, fun k _ => rfl, by show restF N g = restF N g - u; omega, fun g2 _ => rfl⟩
    · have hb := nx_pos (by omega) (nxt_is N g (-1))
      have hf := hR.2 _ hb.1.1 hb.1.2
      have hbd := hR.1
      obtain ⟨b0, b1, b2, b3, b4, b5, b6, b7, b8, b9⟩ := hbd
      have hby := byF_in hu0 hb.2.1
      have hgd : N (152 + nxt N g (-1)) = g := by omega
      have h1 := takeF_R (u := byF N g (-1) u) (r := r) hR hb.1 (by omega) hr
      have h2 := takeF_rest (u := byF N g (-1) u) (r := r) hR hb.1 hr
      rw [hgd] at h2
      obtain ⟨i1, i2, i3, i4⟩ := relF_all n h1 hg hr (u := u - byF N g (-1) u) (by omega) (by omega) (by omega)
      rw [relF_s hu0]
      refine ⟨i1, fun k hk => ?_, by rw [i3]; omega, fun g2 h3 => ?_⟩
      · unfold kpR at hk
        rw [i2 k hk]
        exact takeF_ne (by omega) (by omega) (by omega)
      · rw [i4 g2 h3]
        exact takeF_rest2 hR hb.1 hr (by rw [hgd]; exact h3)
/-- the missing units of the locker l are taxed, good by good -/
noncomputable def insF : Nat → (Int → Int) → Int → (Int → Int)
  | 0, N, _ => N
  | n + 1, N, l => uZ (relF ((insF n N l) (64 + 8 * l + (n : Int))).toNat (insF n N l) (n : Int) ((insF n N l) (64 + 8 * l + (n : Int))) 3).1 (64 + 8 * l + (n : Int)) 0
theorem insF_s {N : Int → Int} {l i : Int} (h : 0 ≤ i) : insF (i + 1).toNat N l = uZ (relF ((insF i.toNat N l) (64 + 8 * l + i)).toNat (insF i.toNat N l) i ((insF i.toNat N l) (64 + 8 * l + i)) 3).1 (64 + 8 * l + i) 0 := by
  rw [show (i + 1).toNat = i.toNat + 1 by omega]
  show uZ (relF ((insF i.toNat N l) (64 + 8 * l + ((i.toNat : Nat) : Int))).toNat (insF i.toNat N l) ((i.toNat : Nat) : Int) ((insF i.toNat N l) (64 + 8 * l + ((i.toNat : Nat) : Int))) 3).1 (64 + 8 * l + ((i.toNat : Nat) : Int)) 0 = _
  rw [Int.toNat_of_nonneg h]
def finF (N : Int → Int) (l : Int) : Int := if N (14 + l) = 2 then N 2 else 0
noncomputable def dueF (N : Int → Int) (l : Int) : Int := finF N l + sumZ (fun g => worA N g (N (64 + 8 * l + g))) (N 5).toNat
noncomputable def sInspect (N : Int → Int) (l : Int) : Int × (Int → Int) := if ¬ (0 ≤ l ∧ l < N 4) then (-1, N) else if N 0 ≠ 2 then (-2, N) else if ¬ N 7 + 1 ≤ 200 ∨ ¬ lI (dueF N l) ≤ lI 2147483647 then (-3, N) else (dueF N l, sealsF (insF (N 5).toNat (offF (uZ N 8 (N 8 + finF N l)) l 2) l) l)
theorem cntF_in {N : Int → Int} (h : Int) (h4 : 0 ≤ N 4) : 0 ≤ cntF N h ∧ cntF N h ≤ N 4 := by
  constructor
  · exact sumZ_nonneg _ fun k a b => by split <;> omega
  · have h1 : cntF N h ≤ sumZ (fun _ => (1 : Int)) (N 4).toNat := sumZ_le _ fun k a b => by split <;> omega
    rw [sumZ_const] at h1
    omega
theorem cntF_all {N : Int → Int} {h : Int} (h4 : 0 ≤ N 4) (ha : ∀ l : Int, 0 ≤ l → l < N 4 → N (14 + l) = h) : cntF N h = N 4 := by
  have h1 : cntF N h = sumZ (fun _ => (1 : Int)) (N 4).toNat := sumZ_congr _ fun k a b => if_pos (ha k a (by omega))
  rw [h1, sumZ_const]
  omega
/-- the lockers 0 .. n-1 are opened, or sealed -/
def crF : Nat → (Int → Int) → Int → Int → (Int → Int)
  | 0, N, _, _ => N
  | n + 1, N, z, w => if z = 0 then uZ (offF (crF n N z w) (n : Int) 1) (14 + (n : Int)) 0 else if w = 0 then sealsF (crF n N z w) (n : Int) else crF n N z w
theorem crF_s {N : Int → Int} {z w i : Int} (h : 0 ≤ i) : crF (i + 1).toNat N z w = if z = 0 then uZ (offF (crF i.toNat N z w) i 1) (14 + i) 0 else if w = 0 then sealsF (crF i.toNat N z w) i else crF i.toNat N z w := by
  rw [show (i + 1).toNat = i.toNat + 1 by omega]
  show (if z = 0 then uZ (offF (crF i.toNat N z w) ((i.toNat : Nat) : Int) 1) (14 + ((i.toNat : Nat) : Int)) 0 else if w = 0 then sealsF (crF i.toNat N z w) ((i.toNat : Nat) : Int) else crF i.toNat N z w) = _
  rw [Int.toNat_of_nonneg h]
def howmF (N : Int → Int) (z : Int) : Int := if N 0 = 0 then cntF N 0 else if z = 0 then cntF N 1 else 0
def sCross (N : Int → Int) (z : Int) : Int × (Int → Int) := if ¬ (0 ≤ z ∧ z ≤ 2) then (-1, N) else if N 0 = z ∨ N 0 + z = 2 then (-2, N) else if N 0 = 0 ∧ ¬ N 7 + howmF N z ≤ 200 then (-3, N) else (howmF N z, crF (N 4).toNat (uZ N 0 z) z (N 0))
/-- the places where units of a good are looked for: missing ones, then those in lockers -/
def atF (k g : Int) : Int := if k < 5 then 64 + 8 * k + g else 24 + 8 * (k - 5) + g
def minF (a b : Int) : Int := if a ≤ b then a else b
def losF : Nat → (Int → Int) → Int → Int → (Int → Int) × Int
  | 0, N, _, u => (N, u)
  | n + 1, N, g, u => (uZ (losF n N g u).1 (atF (n : Int) g) ((losF n N g u).1 (atF (n : Int) g) - minF (losF n N g u).2 ((losF n N g u).1 (atF (n : Int) g))), (losF n N g u).2 - minF (losF n N g u).2 ((losF n N g u).1 (atF (n : Int) g)))
theorem losF_s {N : Int → Int} {g u i : Int} (h : 0 ≤ i) : losF (i + 1).toNat N g u = (uZ (losF i.toNat N g u).1 (atF i g) ((losF i.toNat N g u).1 (atF i g) - minF (losF i.toNat N g u).2 ((losF i.toNat N g u).1 (atF i g))), (losF i.toNat N g u).2 - minF (losF i.toNat N g u).2 ((losF i.toNat N g u).1 (atF i g))) := by
  rw [show (i + 1).toNat = i.toNat + 1 by omega]
  show (uZ (losF i.toNat N g u).1 (atF ((i.toNat : Nat) : Int) g) ((losF i.toNat N g u).1 (atF ((i.toNat : Nat) : Int) g) - minF (losF i.toNat N g u).2 ((losF i.toNat N g u).1 (atF ((i.toNat : Nat) : Int) g))), (losF i.toNat N g u).2 - minF (losF i.toNat N g u).2 ((losF i.toNat N g u).1 (atF ((i.toNat : Nat) : Int) g))) = _
  rw [Int.toNat_of_nonneg h]
theorem minF_of {a b z : Int} (h : z ≤ a ∧ z ≤ b ∧ (z = a ∨ z = b)) : z = minF a b := by
  unfold minF
  split <;> omega
/-- bonds that have run out before the day are taxed, one after another -/
noncomputable def roF : Nat → (Int → Int) → (Int → Int) × Int
  | 0, N => (N, 0)
  | n + 1, N => if nxt N (-1) (-1) < 0 ∨ N 1 ≤ N (392 + nxt N (-1) (-1)) then (N, 0) else ((roF n (losF 10 (takeF N (nxt N (-1) (-1)) (N (272 + nxt N (-1) (-1))) 3) (N (152 + nxt N (-1) (-1))) (N (272 + nxt N (-1) (-1)))).1).1, N (272 + nxt N (-1) (-1)) * N (332 + nxt N (-1) (-1)) + (roF n (losF 10 (takeF N (nxt N (-1) (-1)) (N (272 + nxt N (-1) (-1))) 3) (N (152 + nxt N (-1) (-1))) (N (272 + nxt N (-1) (-1)))).1).2)
theorem roF_0 {n : Nat} {N : Int → Int} (h : nxt N (-1) (-1) < 0 ∨ N 1 ≤ N (392 + nxt N (-1) (-1))) : roF n N = (N, 0) := by
  cases n with
  | zero => rfl
  | succ n => exact if_pos h
theorem roF_s {n : Nat} {N : Int → Int} (h : ¬ (nxt N (-1) (-1) < 0 ∨ N 1 ≤ N (392 + nxt N (-1) (-1)))) : roF (n + 1) N = ((roF n (losF 10 (takeF N (nxt N (-1) (-1)) (N (272 + nxt N (-1) (-1))) 3) (N (152 + nxt N (-1) (-1))) (N (272 + nxt N (-1) (-1)))).1).1, N (272 + nxt N (-1) (-1)) * N (332 + nxt N (-1) (-1)) + (roF n (losF 10 (takeF N (nxt N (-1) (-1)) (N (272 + nxt N (-1) (-1))) 3) (N (152 + nxt N (-1) (-1))) (N (272 + nxt N (-1) (-1)))).1).2) := if_neg h
/-- bonds that have units left -/
def livF (N : Int → Int) : Int := sumZ (fun b => if 0 < N (272 + b) then 1 else 0) (N 6).toNat
/-- days go by, one after another -/
noncomputable def dayF : Nat → (Int → Int) → (Int → Int) × Int
  | 0, N => (N, 0)
  | d + 1, N => ((roF 61 (uZ (dayF d N).1 1 ((dayF d N).1 1 + 1))).1, (dayF d N).2 + (roF 61 (uZ (dayF d N).1 1 ((dayF d N).1 1 + 1))).2)
theorem dayF_s {N : Int → Int} {i : Int} (h : 0 ≤ i) : dayF (i + 1).toNat N = ((roF 61 (uZ (dayF i.toNat N).1 1 ((dayF i.toNat N).1 1 + 1))).1, (dayF i.toNat N).2 + (roF 61 (uZ (dayF i.toNat N).1 1 ((dayF i.toNat N).1 1 + 1))).2) := by
  rw [show (i + 1).toNat = i.toNat + 1 by omega]
  rfl
noncomputable def sPass (N : Int → Int) (d : Int) : Int × (Int → Int) := if ¬ (1 ≤ d ∧ d ≤ 60) then (-1, N) else if 5000 < N 1 + d then (-3, N) else ((dayF d.toNat N).2, (dayF d.toNat N).1)
theorem livF_in {N : Int → Int} (h : 0 ≤ N 6) : 0 ≤ livF N ∧ livF N ≤ N 6 := by
  constructor
  · exact sumZ_nonneg _ fun k a b => by split <;> omega
  · have h1 : livF N ≤ sumZ (fun _ => (1 : Int)) (N 6).toNat := sumZ_le _ fun k a b => by split <;> omega
    rw [sumZ_const] at h1
    omega
theorem livF_eq {N M : Int → Int} (h6 : M 6 = N 6) (h : ∀ b : Int, 0 ≤ b → b < N 6 → M (272 + b) = N (272 + b)) : livF M = livF N := by
  unfold livF
  rw [h6]
  exact sumZ_congr _ fun k h1 h2 => by rw [h k h1 (by omega)]
theorem livF_take {N : Int → Int} {b r : Int} (h : InR N) (hb : 0 ≤ b ∧ b < N 6) (hr : 0 ≤ r ∧ r < 4) (hp : 0 < N (272 + b)) : livF (takeF N b (N (272 + b)) r) = livF N - 1 := by
  obtain ⟨h0, hB⟩ := h
  have ho := hB b hb.1 hb.2
  obtain ⟨b0, b1, b2, b3, b4, b5, b6, b7, b8, b9⟩ := h0
  unfold livF
  rw [takeF_ne (k := 6) (by omega) (by omega) (by omega)]
  rw [sumZ_one (f := fun k => if 0 < N (272 + k) then 1 else 0) (i := b) (d := -1) (N 6).toNat hb.1 (by omega) ?_ ?_]
  · omega
  · rw [takeF_at (by omega) hr (by omega), if_pos hp, if_neg (by omega)]
    rfl
  · intro k h1 h2 h3
    rw [takeF_ne (k := 272 + k) (by omega) (by omega) (by omega)]
theorem atF_in {k g : Int} (hk : 0 ≤ k ∧ k < 10) (hg : 0 ≤ g ∧ g < 8) : 24 ≤ atF k g ∧ atF k g < 104 := by
  unfold atF
  split <;> omega
theorem losF_ne : ∀ (n : Nat) {N : Int → Int} {g u k : Int}, n ≤ 10 → 0 ≤ g ∧ g < 8 → k < 24 ∨ 104 ≤ k → (losF n N g u).1 k = N k
  | 0, N, g, u, k, _, _, _ => rfl
  | n + 1, N, g, u, k, hn, hg, hk => by
    have ha := atF_in (k := (n : Int)) (by omega) hg
    show uZ (losF n N g u).1 (atF (n : Int) g) _ k = _
    rw [uZ_ne (by omega), losF_ne n (by omega) hg hk]
theorem losF_R {N : Int → Int} {g u : Int} (h : InR N) (hg : 0 ≤ g ∧ g < 8) : InR (losF 10 N g u).1 := by
  have h0 := h.1
  obtain ⟨b0, b1, b2, b3, b4, b5, b6, b7, b8, b9⟩ := h0
  exact inR_eq h (in0_of h.1 (fun k h1 h2 h3 => losF_ne 10 (by omega) hg (by omega)) (by rw [losF_ne 10 (by omega) hg (by omega)]; omega)) (losF_ne 10 (by omega) hg (by omega)) (losF_ne 10 (by omega) hg (by omega)) fun k h1 h2 => losF_ne 10 (by omega) hg (by omega)
/-- cells of lockers are not below 0, nor out of the way of an int -/
def InK (N : Int → Int) : Prop := ∀ l g : Int, 0 ≤ l → l < 5 → 0 ≤ g → g < 8 → (0 ≤ N (24 + 8 * l + g) ∧ N (24 + 8 * l + g) ≤ 600000) ∧ (0 ≤ N (64 + 8 * l + g) ∧ N (64 + 8 * l + g) ≤ 600000)
theorem inK_up {N : Int → Int} {i v : Int} (h : InK N) (hv : 0 ≤ v ∧ v ≤ 600000) : InK (uZ N i v) := by
  intro l g a b c d
  have := h l g a b c d
  unfold uZ
  constructor <;> split <;> omega
theorem inK_at {N : Int → Int} {k g : Int} (h : InK N) (hk : 0 ≤ k ∧ k < 10) (hg : 0 ≤ g ∧ g < 8) : 0 ≤ N (atF k g) ∧ N (atF k g) ≤ 600000 := by
  unfold atF
  split
  · exact (h k g (by omega) (by omega) hg.1 hg.2).2
  · exact (h (k - 5) g (by omega) (by omega) hg.1 hg.2).1
theorem losF_K : ∀ (n : Nat) {N : Int → Int} {g u : Int}, n ≤ 10 → 0 ≤ g ∧ g < 8 → 0 ≤ u → InK N → InK (losF n N g u).1 ∧ 0 ≤ (losF n N g u).2 ∧ (losF n N g u).2 ≤ u
  | 0, N, g, u, _, _, hu, h => ⟨h, hu, Int.le_refl u⟩
  | n + 1, N, g, u, hn, hg, hu, h => by
    obtain ⟨h1, h2, h3⟩ := losF_K n (by omega) hg hu h
    have ha := inK_at h1 (k := (n : Int)) (by omega) hg
    have hm : 0 ≤ minF (losF n N g u).2 ((losF n N g u).1 (atF (n : Int) g)) ∧ minF (losF n N g u).2 ((losF n N g u).1 (atF (n : Int) g)) ≤ (losF n N g u).2 ∧ minF (losF n N g u).2 ((losF n N g u).1 (atF (n : Int) g)) ≤ (losF n N g u).1 (atF (n : Int) g) := by
      unfold minF
      split <;> omega
    refine ⟨inK_up h1 (by omega), ?_, ?_⟩
    · show 0 ≤ (losF n N g u).2 - minF (losF n N g u).2 ((losF n N g u).1 (atF (n : Int) g))
      omega
    · show (losF n N g u).2 - minF (losF n N g u).2 ((losF n N g u).1 (atF (n : Int) g)) ≤ u
      omega
theorem inK_of {N M : Int → Int} (h : InK N) (e : ∀ k : Int, 24 ≤ k → k < 104 → M k = N k) : InK M := by
  intro l g a b c d
  rw [e (24 + 8 * l + g) (by omega) (by omega), e (64 + 8 * l + g) (by omega) (by omega)]
  exact h l g a b c d
theorem inK_inv {N : Int → Int} (h : Inv N) : InK N := by
  intro l g a b c d
  have := h.2.2.1 l g a b c d
  omega
theorem inR_day {N : Int → Int} {v : Int} (h : InR N) (hv : 0 ≤ v ∧ v ≤ 5000) : InR (uZ N 1 v) := by
  have h0 := h.1
  obtain ⟨b0, b1, b2, b3, b4, b5, b6, b7, b8, b9⟩ := h0
  refine inR_eq h ?_ (uZ_ne (by omega)) (uZ_ne (by omega)) fun k h1 h2 => uZ_ne (by omega)
  unfold In0
  rw [uZ_eq, uZ_ne (by omega), uZ_ne (by omega), uZ_ne (by omega), uZ_ne (by omega), uZ_ne (by omega), uZ_ne (by omega), uZ_ne (by omega), uZ_ne (by omega), uZ_ne (by omega)]
  omega
theorem inR_fine {N : Int → Int} {v : Int} (h : InR N) (hv : 0 ≤ v ∧ v ≤ 100000) (h8 : N 8 ≤ 100000 * N 7) : InR (uZ N 8 (N 8 + v)) := by
  have h0 := h.1
  obtain ⟨b0, b1, b2, b3, b4, b5, b6, b7, b8, b9⟩ := h0
  refine inR_eq h ?_ (uZ_ne (by omega)) (uZ_ne (by omega)) fun k h1 h2 => uZ_ne (by omega)
  unfold In0
  rw [uZ_eq, uZ_ne (by omega), uZ_ne (by omega), uZ_ne (by omega), uZ_ne (by omega), uZ_ne (by omega), uZ_ne (by omega), uZ_ne (by omega), uZ_ne (by omega), uZ_ne (by omega)]
  omega
