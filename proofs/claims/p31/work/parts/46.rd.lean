theorem psF2 {TT F : Int → Int} {sg : Int} : psF TT F sg 2 = F 2 := (psF_f TT F sg).1 2 (by omega) (by omega)
theorem psF4 {TT F : Int → Int} {sg : Int} (h : F 4 = 0) : psF TT F sg 4 = 0 := by
  unfold psF
  rw [uZ_ne (by omega), uZ_eq, if_neg (by omega)]
theorem numP2 {TT F : Int → Int} : (numP TT F).2 2 = F 2 := (numP_f TT F).1 2 (by omega) (by omega)
theorem numP4 {TT F : Int → Int} (h : F 4 = 0) : (numP TT F).2 4 = 0 := by
  unfold numP
  dsimp only
  rw [uZ_eq, if_neg (by omega)]
theorem hereF_in {TT : Int → Int} {lt p : Int} (h : p < lt) : hereF TT lt p = TT p := if_pos h
theorem hereF_out {TT : Int → Int} {lt p : Int} (h : ¬ p < lt) : hereF TT lt p = 0 := if_neg h
theorem psF_y {TT F : Int → Int} {sg : Int} (h4 : F 4 = 1) (h : hereF TT (F 2) (F 3) = sg) : psF TT F sg 4 = 1 ∧ psF TT F sg 3 = F 3 + 1 := by
  unfold psF
  rw [uZ_ne (by omega), uZ_eq, uZ_eq, if_pos (by omega)]
  exact ⟨rfl, rfl⟩
theorem psF_n {TT F : Int → Int} {sg : Int} (h : ¬ hereF TT (F 2) (F 3) = sg) : psF TT F sg 4 = 0 := by
  unfold psF
  rw [uZ_ne (by omega), uZ_eq, if_neg (by omega)]
/-- how many numbers stand behind a letter -/
def nbF (ch : Int) : Int := if ch = 98 then 4 else if ch = 114 ∨ ch = 117 then 3 else if ch = 99 ∨ ch = 100 ∨ ch = 116 ∨ ch = 122 then 1 else 0
theorem nbF_or (ch : Int) : (ch = 98 ∧ nbF ch = 4) ∨ ((ch = 114 ∨ ch = 117) ∧ nbF ch = 3) ∨ ((ch = 99 ∨ ch = 100 ∨ ch = 116 ∨ ch = 122) ∧ nbF ch = 1) ∨ (¬ (ch = 98 ∨ ch = 114 ∨ ch = 117 ∨ ch = 99 ∨ ch = 100 ∨ ch = 116 ∨ ch = 122) ∧ nbF ch = 0) := by
  unfold nbF
  split
  · omega
  · split
    · omega
    · split <;> omega
def okL (ch : Int) : Prop := ch = 98 ∨ ch = 114 ∨ ch = 117 ∨ ch = 99 ∨ ch = 100 ∨ ch = 116 ∨ ch = 122
/-- the numbers of an order, as they are read -/
def nuOk (TT F NU : Int → Int) : Prop := NU 0 = (ord0 TT F).1 ∧ (letF TT F = 98 ∨ letF TT F = 114 ∨ letF TT F = 117 → NU 1 = (ordX TT F).1 ∧ NU 2 = (ordX TT F).2.1) ∧ (letF TT F = 98 → NU 3 = (ordY TT F).1)
def nuIn (NU : Int → Int) : Prop := ∀ k : Int, 0 ≤ k → k < 4 → 0 ≤ NU k ∧ NU k ≤ 9999
theorem nuIn_up {NU TT F : Int → Int} {i : Int} (h : nuIn NU) : nuIn (uZ NU i (numP TT F).1) := fun k h1 h2 => by
  have h3 := (numP_f TT F).2.2.2
  by_cases e : k = i
  · rw [uZ_at e]; exact h3
  · rw [uZ_ne e]; exact h k h1 h2
theorem ordX_1 {TT F : Int → Int} (h : ¬ (letF TT F = 117 ∨ letF TT F = 114 ∨ letF TT F = 98)) : ordX TT F = (0, 0, (ord0 TT F).2) := by
  unfold ordX ordB
  rw [if_neg h]
theorem ordX_3 {TT F : Int → Int} (h : letF TT F = 117 ∨ letF TT F = 114 ∨ letF TT F = 98) : ordX TT F = ((numP TT (psF TT (ord0 TT F).2 44)).1, (numP TT (psF TT (numP TT (psF TT (ord0 TT F).2 44)).2 44)).1, (numP TT (psF TT (numP TT (psF TT (ord0 TT F).2 44)).2 44)).2) := by
  unfold ordX ordB
  rw [if_pos h]
theorem ordY_1 {TT F : Int → Int} (h : ¬ letF TT F = 98) : ordY TT F = (0, (ordX TT F).2.2) := by
  unfold ordY ordD
  rw [if_neg h]
theorem ordY_4 {TT F : Int → Int} (h : letF TT F = 98) : ordY TT F = numP TT (psF TT (ordX TT F).2.2 44) := by
  unfold ordY ordD
  rw [if_pos h]
theorem ordZ_1 {TT F : Int → Int} (h : ¬ (letF TT F = 117 ∨ letF TT F = 114 ∨ letF TT F = 98)) : ordZ TT F = psF TT (ord0 TT F).2 59 := by
  unfold ordZ
  rw [ordY_1 (by omega), ordX_1 h]
theorem ordZ_3 {TT F : Int → Int} (h : letF TT F = 117 ∨ letF TT F = 114) : ordZ TT F = psF TT (numP TT (psF TT (numP TT (psF TT (ord0 TT F).2 44)).2 44)).2 59 := by
  unfold ordZ
  rw [ordY_1 (by omega), ordX_3 (by omega)]
theorem ordZ_4 {TT F : Int → Int} (h : letF TT F = 98) : ordZ TT F = psF TT (numP TT (psF TT (numP TT (psF TT (numP TT (psF TT (ord0 TT F).2 44)).2 44)).2 44)).2 59 := by
  unfold ordZ
  rw [ordY_4 h, ordX_3 (by omega)]
noncomputable def doP (M NU : Int → Int) (k : Int) : Int × (Int → Int) := if k = 122 then sCross M (NU 0) else if k = 117 then sUse M (NU 0) (NU 1) (NU 2) else if k = 114 then sBring M (NU 0) (NU 1) (NU 2) else if k = 98 then sSmash M (NU 0) (NU 1) (NU 2) (NU 3) else if k = 116 then sTear M (NU 0) else if k = 99 then sInspect M (NU 0) else sPass M (NU 0)
/-- an order that holds its form, as the class does it -/
theorem ordP_y {TT N F NU : Int → Int} (h4 : ordZ TT F 4 = 1) (hL : okL (letF TT F)) (hn : nuOk TT F NU) : ordP TT N F = ((doP N NU (letF TT F)).1, (doP N NU (letF TT F)).2, ordZ TT F) := by
  obtain ⟨n0, n1, n3⟩ := hn
  unfold ordP ordG doP
  rw [if_neg (by omega)]
  unfold okL at hL
  by_cases e1 : letF TT F = 122
  · rw [if_pos e1, if_pos e1, n0]
  rw [if_neg e1, if_neg e1]
  by_cases e2 : letF TT F = 117
  · rw [if_pos e2, if_pos e2, n0, (n1 (by omega)).1, (n1 (by omega)).2]
  rw [if_neg e2, if_neg e2]
  by_cases e3 : letF TT F = 114
  · rw [if_pos e3, if_pos e3, n0, (n1 (by omega)).1, (n1 (by omega)).2]
  rw [if_neg e3, if_neg e3]
  by_cases e4 : letF TT F = 98
  · rw [if_pos e4, if_pos e4, n0, (n1 (by omega)).1, (n1 (by omega)).2, n3 e4]
  rw [if_neg e4, if_neg e4]
  by_cases e5 : letF TT F = 116
  · rw [if_pos e5, if_pos e5, n0]
  rw [if_neg e5, if_neg e5]
  by_cases e6 : letF TT F = 99
  · rw [if_pos e6, if_pos e6, n0]
  rw [if_neg e6, if_neg e6, if_pos (by omega), n0]
theorem ordP_n {TT N F : Int → Int} (h : ordZ TT F 4 = 0 ∨ ¬ okL (letF TT F)) : (ordP TT N F).2.2 4 = 0 := by
  unfold ordP ordG
  by_cases h0 : ordZ TT F 4 = 0
  · rw [if_pos h0]; exact h0
  · have hL : ¬ okL (letF TT F) := h.resolve_left h0
    unfold okL at hL
    rw [if_neg h0, if_neg (by omega), if_neg (by omega), if_neg (by omega), if_neg (by omega), if_neg (by omega), if_neg (by omega), if_neg (by omega)]
    exact (uZ_eq : uZ (ordZ TT F) 4 0 4 = 0)
