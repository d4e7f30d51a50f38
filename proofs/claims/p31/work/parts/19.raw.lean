section X19
variable {p : Program} {l : Launch} {e : Env} {R : Room} {s : State} {m : MethodId} {args : Array Value} {below : List Frame} {meth : Method} {c : Code} {H : Heap} {locs : List Loc} {cells slots : Nat} {Q : State → Prop}
variable {cc : ByteArray} {pc nL : Nat} {ls : Array Slot} {rest : List Value} {own : String}
theorem xr_if_lt (T : CF p m c cc nL s args own) {a : Int} {off : Int} {tgt : Nat} (hdg : decode cc pc = .ok (.ifCond .lt off, 3)) (ht : (pc : Int) + off = (tgt : Int)) (kt : iI a < 0 → W p l e R s m args below meth c H locs cells slots Q (F0 m tgt ls rest)) (kf : ¬ iI a < 0 → W p l e R s m args below meth c H locs cells slots Q (F0 m (pc + 3) ls rest)) : W p l e R s m args below meth c H locs cells slots Q (F0 m pc ls (.int (iI a) :: rest)) := lv_if_lt T.1 T.2.1 hdg ht kt kf
theorem xr_if_ge (T : CF p m c cc nL s args own) {a : Int} {off : Int} {tgt : Nat} (hdg : decode cc pc = .ok (.ifCond .ge off, 3)) (ht : (pc : Int) + off = (tgt : Int)) (kt : ¬ iI a < 0 → W p l e R s m args below meth c H locs cells slots Q (F0 m tgt ls rest)) (kf : iI a < 0 → W p l e R s m args below meth c H locs cells slots Q (F0 m (pc + 3) ls rest)) : W p l e R s m args below meth c H locs cells slots Q (F0 m pc ls (.int (iI a) :: rest)) := lv_if_ge T.1 T.2.1 hdg ht (fun q => kt (Int32.not_lt.mpr q)) (fun q => kf (Int32.not_le.mp q))
end X19
theorem uZ_uZ {N : Int → Int} {i v w : Int} : uZ (uZ N i v) i w = uZ N i w := by
  funext k
  unfold uZ
  split <;> rfl
theorem uZ_id {N : Int → Int} {i v : Int} (h : N i = v) : uZ N i v = N := by
  funext k
  unfold uZ
  split
  · rename_i e
    rw [e, h]
  · rfl
/-- the first i numbers of the row a of the states are those of B -/
def recQ (B SS : Int → Int) (a i : Int) : Int → Int := fun x => if 1055 * a ≤ x ∧ x < 1055 * a + i then B (x - 1055 * a) else SS x
theorem recQ_0 {B SS : Int → Int} {a : Int} : recQ B SS a 0 = SS := by
  funext x
  unfold recQ
  rw [if_neg (by omega)]
theorem recQ_s {B SS : Int → Int} {a i : Int} (h : 0 ≤ i) : uZ (recQ B SS a i) (1055 * a + i) (B i) = recQ B SS a (i + 1) := by
  funext x
  unfold uZ recQ
  by_cases h1 : x = 1055 * a + i
  · rw [if_pos h1, if_pos (by omega), show x - 1055 * a = i by omega]
  · rw [if_neg h1]
    by_cases h2 : 1055 * a ≤ x ∧ x < 1055 * a + i
    · rw [if_pos h2, if_pos (by omega)]
    · rw [if_neg h2, if_neg (by omega)]
def recP (B SS F : Int → Int) (an : Int) : (Int → Int) × (Int → Int) := if iI an < 0 then (SS, F) else (recQ B SS (F 1) 1055, uZ (uZ F 1 ((F 1 + 1) % 4)) 0 (if F 0 < 4 then F 0 + 1 else 4))
/-- the first i numbers are those of the row a of the states -/
def unQ (N SS : Int → Int) (a i : Int) : Int → Int := fun x => if 0 ≤ x ∧ x < i then SS (1055 * a + x) else N x
theorem unQ_0 {N SS : Int → Int} {a : Int} : unQ N SS a 0 = N := by
  funext x
  unfold unQ
  rw [if_neg (by omega)]
theorem unQ_s {N SS : Int → Int} {a i : Int} (h : 0 ≤ i) : uZ (unQ N SS a i) i (SS (1055 * a + i)) = unQ N SS a (i + 1) := by
  funext x
  unfold uZ unQ
  by_cases h1 : x = i
  · rw [if_pos h1, if_pos (by omega), h1]
  · rw [if_neg h1]
    by_cases h2 : 0 ≤ x ∧ x < i
    · rw [if_pos h2, if_pos (by omega)]
    · rw [if_neg h2, if_neg (by omega)]
def undP (N SS F : Int → Int) : Int × (Int → Int) × (Int → Int) := if F 0 = 0 then (-2, N, F) else (F 0 - 1, unQ N SS ((F 1 + 4 - 1) % 4) 1055, uZ (uZ F 1 ((F 1 + 4 - 1) % 4)) 0 (F 0 - 1))
