section X8
variable {p : Program} {l : Launch} {e : Env} {R : Room} {s : State} {m : MethodId} {args : Array Value} {below : List Frame} {meth : Method} {c : Code} {H : Heap} {locs : List Loc} {cells slots : Nat} {Q : State → Prop}
variable {cc : ByteArray} {pc nL : Nat} {ls : Array Slot} {rest : List Value} {own : String}
theorem xv_cv {a b : Int} (h : a = b) (k : W p l e R s m args below meth c H locs cells slots Q (F0 m pc ls (.int (iI b) :: rest))) : W p l e R s m args below meth c H locs cells slots Q (F0 m pc ls (.int (iI a) :: rest)) := by rw [h]; exact k
theorem xv_cvL {a b : Int} (h : a = b) (k : W p l e R s m args below meth c H locs cells slots Q (F0 m pc ls (.long (lI b) :: rest))) : W p l e R s m args below meth c H locs cells slots Q (F0 m pc ls (.long (lI a) :: rest)) := by rw [h]; exact k
theorem xv_i2c (T : CF p m c cc nL s args own) {a : Int} (h : 0 ≤ a ∧ a < 65536) (hdg : decode cc pc = .ok (.i2c, 1)) (k : W p l e R s m args below meth c H locs cells slots Q (F0 m (pc + 1) ls (.int (iI a) :: rest))) : W p l e R s m args below meth c H locs cells slots Q (F0 m pc ls (.int (iI a) :: rest)) := lv_i2c T.1 T.2.1 hdg (by
  rw [pk_char, show iI a = nI a.toNat by rw [show a = ((a.toNat : Nat) : Int) by omega, iI_ofNat]; rfl, pk_tn (by omega), Nat.mod_eq_of_lt (by omega)]) k
theorem xv_min (T : CF p m c cc nL s args own) {idx : Nat} (hm : (Cond.methodLink own idx Lib.Math.min.name) ∈ xtb) (hdg : decode cc pc = .ok (.invokestatic idx, 3)) (hsz : ls.size = nL) (hf : 1 ≤ R.frames) (hlo : (rest.map fun v => v.category).sum + 13 ≤ R.locals) (hcs : cells ≤ R.cells ∧ slots ≤ R.slots) {a b : Int} (h : (-2147483648 ≤ a ∧ a ≤ 2147483647) ∧ (-2147483648 ≤ b ∧ b ≤ 2147483647)) (k : ∀ z : Int, (z ≤ a ∧ z ≤ b ∧ (z = a ∨ z = b)) → W p l e R s m args below meth c H locs cells slots Q (F0 m (pc + 3) ls (.int (iI z) :: rest))) : W p l e R s m args below meth c H locs cells slots Q (F0 m pc ls (.int (iI b) :: .int (iI a) :: rest)) := by
  refine va_mmin T.1 T.2.1 (T.2.2.1.trans hsz.symm) T.2.2.2.1 (T.2.2.2.2 _ hm) (T.2.2.2.2 _ mw_2_70) (T.2.2.2.2 _ mw_1_10) (T.2.2.2.2 _ mw_2_71) hf hlo hcs.1 hcs.2 hdg ?_
  have e : (iI b < iI a) ↔ b < a := iI_lt ⟨h.2, h.1⟩
  by_cases q : b < a
  · rw [if_pos (e.mpr q)]
    exact k b ⟨by omega, by omega, Or.inr rfl⟩
  · rw [if_neg (fun r => q (e.mp r))]
    exact k a ⟨by omega, by omega, Or.inl rfl⟩
end X8
def In0 (N : Int → Int) : Prop := (0 ≤ N 0 ∧ N 0 ≤ 2) ∧ (0 ≤ N 1 ∧ N 1 ≤ 5000) ∧ (0 ≤ N 2 ∧ N 2 ≤ 100000) ∧ (1 ≤ N 3 ∧ N 3 ≤ 99) ∧ (0 ≤ N 4 ∧ N 4 ≤ 5) ∧ (0 ≤ N 5 ∧ N 5 ≤ 8) ∧ (0 ≤ N 6 ∧ N 6 ≤ 60) ∧ (0 ≤ N 7 ∧ N 7 ≤ 200) ∧ (0 ≤ N 8 ∧ N 8 ≤ 30000000) ∧ (0 ≤ N 9 ∧ N 9 ≤ 2147483647)
def InL (N : Int → Int) : Prop := ∀ l : Int, 0 ≤ l → l < 5 → (0 ≤ N (14 + l) ∧ N (14 + l) ≤ 2) ∧ (0 ≤ N (19 + l) ∧ N (19 + l) ≤ N 7) ∧ (N (14 + l) = 1 → 1 ≤ N (19 + l))
def InH (N : Int → Int) : Prop := ∀ l g : Int, 0 ≤ l → l < 5 → 0 ≤ g → g < 8 → (0 ≤ N (24 + 8 * l + g) ∧ N (24 + 8 * l + g) ≤ 99999) ∧ (0 ≤ N (64 + 8 * l + g) ∧ N (64 + 8 * l + g) ≤ 600000) ∧ (N 4 ≤ l → N (24 + 8 * l + g) = 0 ∧ N (64 + 8 * l + g) = 0)
def InB (N : Int → Int) : Prop := ∀ b : Int, 0 ≤ b → b < N 6 → (0 ≤ N (152 + b) ∧ N (152 + b) < N 5) ∧ (1 ≤ N (212 + b) ∧ N (212 + b) ≤ 9999) ∧ (0 ≤ N (272 + b) ∧ N (272 + b) ≤ 9999) ∧ (1 ≤ N (332 + b) ∧ N (332 + b) ≤ 1000000) ∧ (0 ≤ N (392 + b) ∧ N (392 + b) ≤ 5099)
def InD (N : Int → Int) : Prop := ∀ g : Int, 0 ≤ g → g < N 5 → 1 ≤ N (104 + g) ∧ N (104 + g) ≤ 1000000
/-- the sum of f over 0 .. n-1 -/
def sumZ (f : Int → Int) : Nat → Int
  | 0 => 0
  | n + 1 => sumZ f n + f (n : Int)
/-- units of a good left in bonds -/
def restF (N : Int → Int) (g : Int) : Int := sumZ (fun b => if N (152 + b) = g then N (272 + b) else 0) (N 6).toNat
/-- units of a good in lockers, and missing ones -/
def hasF (N : Int → Int) (g : Int) : Int := sumZ (fun l => N (24 + 8 * l + g)) 5
def missF (N : Int → Int) (g : Int) : Int := sumZ (fun l => N (64 + 8 * l + g)) 5
def InC (N : Int → Int) : Prop := ∀ g : Int, 0 ≤ g → g < 8 → hasF N g + missF N g ≤ restF N g
def InG (N : Int → Int) : Prop := ∀ g : Int, 0 ≤ g → g < 8 → N (112 + g) = sumZ (fun b => if N (152 + b) = g then N (212 + b) else 0) (N 6).toNat
def InZ (N : Int → Int) : Prop := N 0 = 0 → ∀ l : Int, 0 ≤ l → l < N 4 → N (14 + l) = 0
def InF (N : Int → Int) : Prop := N 8 ≤ 100000 * N 7
def Inv (N : Int → Int) : Prop := In0 N ∧ InL N ∧ InH N ∧ InB N ∧ InD N ∧ InC N ∧ InG N ∧ InZ N ∧ InF N
