section XLZ
variable {p : Program} {l : Launch} {e : Env} {R : Room} {s : State} {m : MethodId} {args : Array Value} {below : List Frame} {meth : Method} {c : Code} {H : Heap} {locs : List Loc} {cells slots : Nat} {Q : State → Prop}
variable {cc : ByteArray} {pc nL : Nat} {ls : Array Slot} {rest : List Value} {own : String}
variable {A : Nat → Prop} {b n : Nat} {xs : Nat → Int32} {K : KT} {o : Nat} {N : Int → Int} {st : List (Int → Int)}
theorem xl_sld (T : CF p m c cc nL s args own) (hX : va_X b n xs s s.heap) (hbl : b < s.heap.size) (hbA : ¬ A b) (hS : va_S A s.heap H locs) {z v : Int} (hz : 0 ≤ z ∧ z < (n : Int)) (hL : n ≤ 2560) (hv : xs z.toNat = iI v) (hdg : decode cc pc = .ok (.iaload, 1)) (k : W p l e R s m args below meth c H locs cells slots Q (F0 m (pc + 1) ls (.int (iI v) :: rest))) : W p l e R s m args below meth c H locs cells slots Q (F0 m pc ls (.int (iI z) :: .ref b :: rest)) := by
  refine va_sld T.1 T.2.1 hX hbl hbA hS (iI_in hz (by omega)) hdg ?_
  rw [iI_clamp (by omega), hv]
  exact k
theorem lwY_keep {H1 : Heap} (hW : LwY K o N st H) (h : ∀ q : Nat, q < H.size → ¬ NoA q → H1[q]? = H[q]?) : LwY K o N st H1 := by
  obtain ⟨u, hu, hok, hP⟩ := hW
  exact ⟨u, hu, hok, xP_kept hP h⟩
theorem c_L_low (l : Launch) (K : KT) (v k : Int) (hk0 : 0 < k ∧ k ≤ 8192) : CtI l yL_low cL_low 2 .int 0 0 K [.int (iI v), .int (iI k)] ([]) NoA (fun (z : Int) (_ : Unit) => 0 ≤ z ∧ z < k) (fun _ => []) := by
  refine CtI_of (by decide) (Nat.le_of_ble_eq_true rfl) ?_
  intro p e s m args below meth c T hr hk hP hK ls hl
  have T : CF p m c cL_low 2 s args RL := T
  have hS : va_S NoA s.heap s.heap [] := va_S.rf
  have hl : lv_has ls 2 [(0, .int (iI v)), (1, .int (iI k))] := hl
  refine lv_iload_n T.1 T.2.1 dL_low_0 rfl (lv_at hl 0 rfl) ?_
  refine xv_ldc T mw_3_137 (n := 2147483647) (by decide +kernel) dL_low_1 ?_
  refine lv_iand T.1 T.2.1 dL_low_3 ?_
  obtain ⟨j, hj, ej⟩ := pk_andE (iI v) (m := iI 2147483647) 31 (by decide)
  rw [ej, show nI j = iI (j : Int) from (iI_ofNat j).symm]
  refine lv_iload_n T.1 T.2.1 dL_low_4 rfl (lv_at hl 1 rfl) ?_
  refine xv_irem T (by omega) (by omega) dL_low_5 ?_
  exact rI T (u := ()) hr hk hK hP hS dL_low_6 ⟨Int.emod_nonneg _ (by omega), Int.emod_lt_of_pos _ hk0.1⟩
theorem ly_low (T : CF p m c cc nL s args own) (hK : xK K s) (hW : LwY K o N st H) {A0 : Nat → Prop} {H0 : Heap} (hS : va_S A0 H0 H locs) {v k : Int} (hk0 : 0 < k ∧ k ≤ 8192) {idx : Nat} (hm : Cond.methodLink own idx yL_low ∈ xtb) (ho : own = RL) (hR : 0 + 1 ≤ R.frames ∧ 8 + (2 + 11) + 0 ≤ R.locals) (hsz : ls.size = nL) (hrm : (rest.map fun v => v.category).sum ≤ 8) (hcs : cells ≤ R.cells ∧ slots ≤ R.slots) (hdg : decode cc pc = .ok (.invokestatic idx, 3)) (kk : ∀ (z : Int) (H1 : Heap) (locs1 : List Loc), 0 ≤ z ∧ z < k → LwY K o N st H1 → va_S A0 H0 H1 locs1 → W p l e R s m args below meth c H1 locs1 cells slots Q (F0 m (pc + 3) ls (.int (iI z) :: rest))) : W p l e R s m args below meth c H locs cells slots Q (F0 m pc ls (.int (iI k) :: .int (iI v) :: rest)) := by
  subst ho
  refine cI_S T hK (xP_nil (K := K) (H := H)) hS (c_L_low l K v k hk0) iL_low hm hR (xP_nil (K := K) (H := H)) noA rfl hsz rfl hrm hcs hdg (fun z u H1 locs1 q _ _ h2 h3 => ?_)
  exact kk z H1 locs1 q (lwY_keep hW h2) h3
/-- the number of the script that a turn takes (any) -/
theorem c_L_cell (l : Launch) (K : KT) (t : Int) (ht : 0 ≤ t ∧ t < 30) (hn : n ≤ 260) : Met l yL_cell (wy yL_cell cL_cell 2 (some .int)) (rmF 0 0) (va_Pc [.ref b, .int (iI t)] (fun U => va_X b n xs U U.heap ∧ b < U.heap.size ∧ xK K U)) (qI K (fun (_ : Int) (_ : Unit) => True) (fun _ => []) NoA) 0 0 NoA := by
  refine Met.ofW (cc := cL_cell) (maxL := 2) (ret := some .int) (by decide) rfl ?_
  intro p e s m args below meth c s₁ B hml hv
  obtain ⟨rfl, hX, hbl, hK⟩ := hv
  have hts := atoms_spec (ws := wy yL_cell cL_cell 2 (some .int)) B.pre
  have hl := lv_entry [.ref b, .int (iI t)] (n := 2) (Nat.le_of_ble_eq_true rfl)
  rw [lg_entry_eq]
  have T : CF p m c cL_cell 2 s _ RL := ⟨B.exec, B.bytes, hml, findClass_of_methodNamed B.named, fun w h => hts w (List.mem_cons_of_mem _ h)⟩
  have hr := B.returns
  have hk := B.notSynchronized
  generalize (lg_sl [.ref b, .int (iI t)] ++ List.replicate (2 - (lg_sl [.ref b, .int (iI t)]).length) Slot.unset).toArray = ls at hl ⊢
  have hl : lv_has ls 2 [(0, .ref b), (1, .int (iI t))] := hl
  have hS : va_S NoA s.heap s.heap [] := va_S.rf
  refine lv_iload_n T.1 T.2.1 dL_cell_0 rfl (lv_at hl 1 rfl) ?_
  refine lv_aload_n T.1 T.2.1 dL_cell_1 rfl (lv_at hl 0 rfl) ?_
  refine va_slen T.1 T.2.1 hX hbl (fun q => q) hS dL_cell_2 ?_
  rw [show Int32.ofNat n = iI (n : Int) from (iI_ofNat n).symm]
  refine xv_icmp_ge T (by omega) (tgt := 12) dL_cell_3 (by decide) (fun c1 => ?_) (fun c1 => ?_)
  · refine xv_ldc T mw_3_133 (n := 1779033703) (by decide +kernel) dL_cell_12 ?_
    refine lv_iload_n T.1 T.2.1 dL_cell_14 rfl (lv_at hl 1 rfl) ?_
    refine xv_iconst T dL_cell_15 ?_
    refine xv_iadd T dL_cell_16 ?_
    refine xv_imul T dL_cell_17 ?_
    exact rI T (u := ()) hr hk hK (xP_nil (K := K) (H := s.heap)) hS dL_cell_18 trivial
  · refine lv_aload_n T.1 T.2.1 dL_cell_6 rfl (lv_at hl 0 rfl) ?_
    refine lv_iload_n T.1 T.2.1 dL_cell_7 rfl (lv_at hl 1 rfl) ?_
    obtain ⟨v0, r0, x0⟩ := iI_ex (xs t.toNat)
    refine xl_sld T hX hbl (fun q => q) hS (z := t) (by omega) (by omega) x0 dL_cell_8 ?_
    refine lv_goto T.1 T.2.1 (tgt := 18) dL_cell_9 (by decide) ?_
    exact rI T (u := ()) hr hk hK (xP_nil (K := K) (H := s.heap)) hS dL_cell_18 trivial
theorem ly_cell (T : CF p m c cc nL s args own) (hK : xK K s) (hW : LwY K o N st H) (hXs : va_X b n xs s s.heap) (hbl : b < s.heap.size) (hbA : ¬ A b) (hn : n ≤ 260) (hS : va_S A s.heap H locs) {t : Int} (ht : 0 ≤ t ∧ t < 30) {idx : Nat} (hm : Cond.methodLink own idx yL_cell ∈ xtb) (ho : own = RL) (hR : 0 + 1 ≤ R.frames ∧ 8 + (2 + 11) + 0 ≤ R.locals) (hsz : ls.size = nL) (hrm : (rest.map fun v => v.category).sum ≤ 8) (hcs : cells ≤ R.cells ∧ slots ≤ R.slots) (hdg : decode cc pc = .ok (.invokestatic idx, 3)) (kk : ∀ (z : Int) (H1 : Heap) (locs1 : List Loc), -2147483648 ≤ z ∧ z ≤ 2147483647 → LwY K o N st H1 → va_S A s.heap H1 locs1 → W p l e R s m args below meth c H1 locs1 cells slots Q (F0 m (pc + 3) ls (.int (iI z) :: rest))) : W p l e R s m args below meth c H locs cells slots Q (F0 m pc ls (.int (iI t) :: .ref b :: rest)) := by
  subst ho
  have hb : FrameBlind (va_Pc [.ref b, .int (iI t)] (fun U => va_X b n xs U U.heap ∧ b < U.heap.size ∧ xK K U)) := fun a U g mk q => ⟨q.1, va_X.moved (u := U) (U := U.calling g mk a) (Vm.Alike.refl U.vm) q.2.1, q.2.2.1, va_K.moved (u := U) (U := U.calling g mk a) (Vm.Alike.refl U.vm) q.2.2.2⟩
  have hXH : va_X b n xs s H := by
    obtain ⟨scr, h1, h2⟩ := hXs
    exact ⟨scr, (hS.2.1 b hbl hbA).trans h1, h2⟩
  have hp : ∀ U : State, U.heap = H → s.WarmedH U.vm → va_Pc [.ref b, .int (iI t)] (fun U => va_X b n xs U U.heap ∧ b < U.heap.size ∧ xK K U) ([.ref b, .int (iI t)] : List Value).toArray U := fun U hU hW => ⟨rfl, by rw [hU]; exact va_X.moved hW.alike hXH, by rw [hU]; exact Nat.lt_of_lt_of_le hbl hS.1, va_K.moved hW.alike hK⟩
  refine va_calli (va_runS T (c_L_cell l K t ht hn) (cwS 2 T.2.2.2.2 (gxS iL_cell hm) rfl rfl rfl iL_cell.2.2.2 hR) ⟨hb, hp⟩ rfl rfl hsz rfl (lv_room hrm) hdg hcs) hS (fun q _ h => h.elim) (fun q h => h.elim) (fun r u t1 H1 locs1 ht1 hvm hp1 hB h1 h2 h3 => ?_)
  obtain ⟨z, rz, ez⟩ := iI_ex r
  rw [ez]
  exact kk z H1 locs1 rz (lwY_keep hW h2) h3
end XLZ
