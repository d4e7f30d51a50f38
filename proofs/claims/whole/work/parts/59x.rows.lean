section XL
variable {p : Program} {l : Launch} {e : Env} {R : Room} {s : State} {m : MethodId} {args : Array Value} {below : List Frame} {meth : Method} {c : Code} {H : Heap} {locs : List Loc} {cells slots : Nat} {Q : State → Prop}
variable {cc : ByteArray} {pc nL : Nat} {ls : Array Slot} {rest : List Value} {own : String}
variable {A : Nat → Prop} {b L : Nat} {xs : Nat → Int32}
theorem xl_sld (T : CF p m c cc nL s args own) (hX : va_X b L xs s s.heap) (hbl : b < s.heap.size) (hbA : ¬ A b) (hS : va_S A s.heap H locs) {z v : Int} (hz : 0 ≤ z ∧ z < (L : Int)) (hL : L ≤ 2560) (hv : xs z.toNat = iI v) (hdg : decode cc pc = .ok (.iaload, 1)) (k : W p l e R s m args below meth c H locs cells slots Q (F0 m (pc + 1) ls (.int (iI v) :: rest))) : W p l e R s m args below meth c H locs cells slots Q (F0 m pc ls (.int (iI z) :: .ref b :: rest)) := by
  refine va_sld T.1 T.2.1 hX hbl hbA hS (iI_in hz (by omega)) hdg ?_
  rw [iI_clamp (by omega), hv]
  exact k
theorem xl_same (T : CF p m c cc nL s args own) {a b : Int} (h : a = b) {off : Int} {tgt : Nat} (hdg : decode cc pc = .ok (.if_icmp .eq off, 3)) (ht : (pc : Int) + off = (tgt : Int)) (k : W p l e R s m args below meth c H locs cells slots Q (F0 m tgt ls rest)) : W p l e R s m args below meth c H locs cells slots Q (F0 m pc ls (.int (iI b) :: .int (iI a) :: rest)) := lv_icmp_eq T.1 T.2.1 hdg ht (fun _ => k) (fun q => absurd (congrArg iI h) q)
end XL
def LwX (K : KT) (o : Nat) (H : Heap) : Prop := ∃ (N M : Int → Int) (R : Nat → Int → Int) (G L NU TT B SS F : Int → Int), RelL N R G L NU TT SS F ∧ xP K (xW K o N M R G L NU TT) H ∧ xP K (mW K (o + 153) N B SS TT F) H
