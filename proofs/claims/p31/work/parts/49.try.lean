theorem xW_at5 {K : KT} {o : Nat} {N M : Int → Int} {R : Nat → Int → Int} {G L NU TT : Int → Int} : ∀ {i : Nat}, i < 5 → (xW K o N M R G L NU TT)[48 + 21 * i]? = some (o + 43 + 2 + 21 * i, .inr (6, [.int (iI (R i 0)), .int (iI (R i 1)), .int (iI (R i 5)), .ref (o + 43 + 2 + 21 * i + 1), .ref (o + 43 + 2 + 21 * i + 2), .ref (o + 43 + 2 + 21 * i + 3), .ref (o + 43 + 2 + 21 * i + 8), .ref (o + 43 + 2 + 21 * i + 12), .ref (o + 43 + 2 + 21 * i + 18)]))
  | 0, _ => rfl
  | 1, _ => rfl
  | 2, _ => rfl
  | 3, _ => rfl
  | 4, _ => rfl
  | n + 5, hn => by omega
theorem ring_keep {K : KT} {r b i : Nat} {R : Nat → Int → Int} {H H1 : Heap} (h : xP K (ringW K r R) H) (hb : b + 21 ≤ r ∨ r + 105 ≤ b) (hi : i < 5) (hk : ∀ q : Nat, q < H.size → ¬ Bk2 b (r + 21 * i) q → H1[q]? = H[q]?) (h1 : xP K (shipW K (r + 21 * i) (R i)) H1) : xP K (ringW K r R) H1 := ring_mk fun j hj => by
  by_cases e : j = i
  · rw [e]; exact h1
  · exact xP_out (ring_get h j hj) (ship_D K _ _) (fun q a c => bk2_x (by omega) a c) hk
def resP (N : Int → Int) (R : Nat → Int → Int) (G : Int → Int) : Int × (Int → Int) × (Int → Int) := if G 0 = 0 then (-2, N, G) else (G 0 - 1, R (G 1).toNat, uZ (uZ G 1 (if 0 < G 1 then G 1 - 1 else 4)) 0 (G 0 - 1))
theorem aftF_6 {F : Int → Int} {z : Int} : aftF F z 6 = if F 4 = 0 then 1 else if iI z < 0 then 2 else 0 := by
  unfold aftF
  rw [uZ_ne (by omega), uZ_eq]
theorem aftF_7 {F : Int → Int} {z : Int} : aftF F z 7 = z := by
  unfold aftF
  rw [uZ_ne (by omega), uZ_ne (by omega), uZ_eq]
theorem trF_1 {n : Nat} {TT M F : Int → Int} (h : F 3 < F 2 ∧ F 6 = 0) (h1 : ordZ TT (uZ F 5 (F 3)) 4 = 0 ∨ ¬ okL (letF TT (uZ F 5 (F 3)))) : (trF (n + 1) TT M F).2 6 = 1 ∧ (trF (n + 1) TT M F).2 5 = F 3 := by
  have h2 := ordP_n (N := M) h1
  have h3 := (ordP_f TT M (uZ F 5 (F 3))).1 5 (by omega) (by omega)
  have h6 : aftF (ordP TT M (uZ F 5 (F 3))).2.2 (ordP TT M (uZ F 5 (F 3))).1 6 = 1 := by rw [aftF_6, if_pos h2]
  rw [trF_s h, trF_e (by omega)]
  refine ⟨h6, ?_⟩
  show aftF (ordP TT M (uZ F 5 (F 3))).2.2 (ordP TT M (uZ F 5 (F 3))).1 5 = F 3
  rw [(aftF_f _ _).1 5 (by omega) (by omega) (by omega), h3, uZ_eq]
theorem trF_2 {n : Nat} {TT M F NU : Int → Int} (h : F 3 < F 2 ∧ F 6 = 0) (h4 : ordZ TT (uZ F 5 (F 3)) 4 = 1) (hL : okL (letF TT (uZ F 5 (F 3)))) (hn : nuOk TT (uZ F 5 (F 3)) NU) (hz : iI (doP M NU (letF TT (uZ F 5 (F 3)))).1 < 0) : (trF (n + 1) TT M F).2 6 = 2 ∧ (trF (n + 1) TT M F).2 5 = F 3 ∧ (trF (n + 1) TT M F).2 7 = (doP M NU (letF TT (uZ F 5 (F 3)))).1 := by
  have h2 := ordP_y (N := M) h4 hL hn
  have h6 : aftF (ordZ TT (uZ F 5 (F 3))) (doP M NU (letF TT (uZ F 5 (F 3)))).1 6 = 2 := by rw [aftF_6, if_neg (by omega), if_pos hz]
  rw [trF_s h, h2]
  dsimp only
  rw [trF_e (by omega)]
  have h7 : aftF (ordZ TT (uZ F 5 (F 3))) (doP M NU (letF TT (uZ F 5 (F 3)))).1 7 = (doP M NU (letF TT (uZ F 5 (F 3)))).1 := aftF_7
  refine ⟨h6, ?_, h7⟩
  show aftF (ordZ TT (uZ F 5 (F 3))) (doP M NU (letF TT (uZ F 5 (F 3)))).1 5 = F 3
  rw [(aftF_f _ _).1 5 (by omega) (by omega) (by omega), (ordZ_f TT _).1 5 (by omega) (by omega), uZ_eq]
theorem trF_3 {n : Nat} {TT M F NU : Int → Int} (h : F 3 < F 2 ∧ F 6 = 0) (h4 : ordZ TT (uZ F 5 (F 3)) 4 = 1) (hL : okL (letF TT (uZ F 5 (F 3)))) (hn : nuOk TT (uZ F 5 (F 3)) NU) (hz : ¬ iI (doP M NU (letF TT (uZ F 5 (F 3)))).1 < 0) : ∃ FF : Int → Int, trF (n + 1) TT M F = trF n TT (doP M NU (letF TT (uZ F 5 (F 3)))).2 FF ∧ FF 2 = F 2 ∧ FF 3 = ordZ TT (uZ F 5 (F 3)) 3 ∧ FF 6 = 0 ∧ FF 8 = F 8 + 1 := by
  have h2 := ordP_y (N := M) h4 hL hn
  refine ⟨aftF (ordZ TT (uZ F 5 (F 3))) (doP M NU (letF TT (uZ F 5 (F 3)))).1, by rw [trF_s h, h2], ?_, ?_, ?_, ?_⟩
  · rw [(aftF_f _ _).1 2 (by omega) (by omega) (by omega), (ordZ_f TT _).1 2 (by omega) (by omega), uZ_ne (by omega)]
  · rw [(aftF_f _ _).1 3 (by omega) (by omega) (by omega)]
  · rw [aftF_6, if_neg (by omega), if_neg hz]
  · rw [(aftF_f _ _).2.2, (ordZ_f TT _).1 8 (by omega) (by omega), uZ_ne (by omega)]
theorem doP_inv {M NU : Int → Int} (h : Inv M) (k : Int) : Inv (doP M NU k).2 := by
  unfold doP
  split
  · exact sCross_inv h _
  split
  · exact sUse_inv h _ _ _
  split
  · exact sBring_inv h _ _ _
  split
  · exact sSmash_inv h _ _ _ _
  split
  · exact sTear_inv h _
  split
  · exact sInspect_inv h _
  · exact sPass_inv h _
/-- what a trial of the text tells: the class's fields beside the reference's -/
def trQ (P : (Int → Int) × (Int → Int)) (M L : Int → Int) : Prop := (L 2 = 0 ∧ P.2 6 = 0 ∧ M = P.1 ∧ L 4 = P.2 8) ∨ ((P.2 6 = 1 ∨ P.2 6 = 2) ∧ L 2 = P.2 6 ∧ L 1 = P.2 5 ∧ (P.2 6 = 2 → L 3 = P.2 7))
