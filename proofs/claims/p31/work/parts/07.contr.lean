abbrev rmF (f lo : Nat) : Room := { frames := f, cells := 0, slots := 0, locals := lo }
abbrev wy (y : MethodName) (cc : ByteArray) (n : Nat) (r : Option FieldType) : List Cond := Cond.code y cc n r :: xtb
abbrev pcX (K : KT) (as : List Value) (w0 : va_W) : Array Value → State → Prop := va_Pc as (fun U => xP K w0 U.heap ∧ xK K U)
abbrev qI {S : Type} (K : KT) (post : Int → S → Prop) (w1 : S → va_W) (A : Nat → Prop) : Array Value → State → Outcome → State → Prop := va_Qi (fun (r : Int32) (u : S) => ∃ z : Int, r = iI z ∧ post z u) (fun (u : S) (t : State) => xP K (w1 u) t.heap ∧ xK K t) A
abbrev qL {S : Type} (K : KT) (post : Int → S → Prop) (w1 : S → va_W) (A : Nat → Prop) : Array Value → State → Outcome → State → Prop := va_Ql (fun (r : Int64) (u : S) => ∃ z : Int, r = lI z ∧ post z u) (fun (u : S) (t : State) => xP K (w1 u) t.heap ∧ xK K t) A
abbrev qV {S : Type} (K : KT) (post : S → Prop) (w1 : S → va_W) (A : Nat → Prop) : Array Value → State → Outcome → State → Prop := va_Qv post (fun (u : S) (t : State) => xP K (w1 u) t.heap ∧ xK K t) A
def CtI (l : Launch) (y : MethodName) (cc : ByteArray) (n : Nat) (rt : FieldType) (f lo : Nat) (K : KT) (as : List Value) (w0 : va_W) (A : Nat → Prop) {S : Type} (post : Int → S → Prop) (w1 : S → va_W) : Prop := Met l y (wy y cc n (some rt)) (rmF f lo) (pcX K as w0) (qI K post w1 A) 0 0 A
def CtL (l : Launch) (y : MethodName) (cc : ByteArray) (n : Nat) (f lo : Nat) (K : KT) (as : List Value) (w0 : va_W) (A : Nat → Prop) {S : Type} (post : Int → S → Prop) (w1 : S → va_W) : Prop := Met l y (wy y cc n (some .long)) (rmF f lo) (pcX K as w0) (qL K post w1 A) 0 0 A
def CtV (l : Launch) (y : MethodName) (cc : ByteArray) (n : Nat) (f lo : Nat) (K : KT) (as : List Value) (w0 : va_W) (A : Nat → Prop) {S : Type} (post : S → Prop) (w1 : S → va_W) : Prop := Met l y (wy y cc n none) (rmF f lo) (pcX K as w0) (qV K post w1 A) 0 0 A
def VInfo (C : String) (y : MethodName) (cc : ByteArray) (n : Nat) (rt : Option FieldType) (k : Nat) : Prop := Cond.instanceMethod y ∈ xtb ∧ Cond.selects C y y ∈ xtb ∧ Cond.initialized C ∈ xtb ∧ Cond.code y cc n rt ∈ xtb ∧ (y.cls = C ∧ y.cls ≠ "java/lang/invoke/MethodHandle" ∧ y.cls ≠ "java/lang/invoke/VarHandle" ∧ (parseMethodDescriptor y.desc).map (fun d => d.parameters.length) = some k)
def SInfo (C : String) (y : MethodName) (cc : ByteArray) (n : Nat) (rt : Option FieldType) (k : Nat) : Prop := Cond.static y ∈ xtb ∧ Cond.initialized C ∈ xtb ∧ Cond.code y cc n rt ∈ xtb ∧ (y.cls = C ∧ y.cls ≠ "java/lang/invoke/MethodHandle" ∧ y.cls ≠ "java/lang/invoke/VarHandle" ∧ (parseMethodDescriptor y.desc).map (fun d => d.parameters.length) = some k)
theorem gx {w : Cond} (h : w ∈ xtb) : w ∈ xtb ∧ ((w.onTables && w.keeps) = true ∨ ∃ ty, w = .arrayClass ty) := ⟨h, good_of_word (xtb_good w h)⟩
theorem gxy {y : MethodName} {cc : ByteArray} {n : Nat} {rt : Option FieldType} (h : Cond.code y cc n rt ∈ xtb) : GoodIn xtb (wy y cc n rt) := fun w hw => by
  rcases List.mem_cons.mp hw with rfl | hw
  · exact gx h
  · exact gx hw
theorem gxV {own C : String} {idx : Nat} {y : MethodName} {cc : ByteArray} {n k : Nat} {rt : Option FieldType} (h : VInfo C y cc n rt k) (hm : Cond.methodLink own idx y ∈ xtb) : GoodIn xtb (wsV own idx C y (wy y cc n rt)) := fun w hw => by
  rcases List.mem_append.mp hw with hw | hw
  · simp only [List.mem_cons, List.not_mem_nil, or_false] at hw
    rcases hw with rfl | rfl | rfl | rfl
    · exact gx hm
    · exact gx h.1
    · exact gx h.2.1
    · exact gx h.2.2.1
  · exact gxy h.2.2.2.1 w hw
theorem gxS {own : String} {idx : Nat} {y : MethodName} {cc : ByteArray} {n k : Nat} {rt : Option FieldType} (h : SInfo own y cc n rt k) (hm : Cond.methodLink own idx y ∈ xtb) : GoodIn xtb (wsS own idx y (wy y cc n rt)) := fun w hw => by
  rcases List.mem_append.mp hw with hw | hw
  · simp only [List.mem_cons, List.not_mem_nil, or_false] at hw
    rcases hw with rfl | rfl | rfl
    · exact gx hm
    · exact gx h.1
    · exact gx h.2.1
  · exact gxy h.2.2.1 w hw
theorem blindX {K : KT} {as : List Value} {w0 : va_W} : FrameBlind (pcX K as w0) := fun a U g mk q => ⟨q.1, q.2.1, va_K.moved (u := U) (U := U.calling g mk a) (Vm.Alike.refl U.vm) q.2.2⟩
theorem preX {K : KT} {s : State} {H : Heap} {as : List Value} {w0 : va_W} (hP : xP K w0 H) (hK : xK K s) : ∀ U : State, U.heap = H → s.WarmedH U.vm → pcX K as w0 as.toArray U := fun U hU hW => ⟨rfl, by rw [hU]; exact hP, va_K.moved hW.alike hK⟩
theorem CtI_of {l : Launch} {y : MethodName} {cc : ByteArray} {n : Nat} {rt : FieldType} {f lo : Nat} {K : KT} {as : List Value} {w0 : va_W} {A : Nat → Prop} {S : Type} {post : Int → S → Prop} {w1 : S → va_W} (hy : plainName y.cls = true) (hn : (lg_sl as).length ≤ n) (body : ∀ (p : Program) (e : Env) (s : State) (m : MethodId) (args : Array Value) (below : List Frame) (meth : Method) (c : Code), CF p m c cc n s args y.cls → meth.sig.returnType = (some rt) → meth.locks = false → xP K w0 s.heap → xK K s → ∀ ls : Array Slot, lv_has ls n (lv_args 0 as) → W p l e (rmF f lo) s m args below meth c s.heap [] 0 0 (MQ below (qI K post w1 A) args s 0 0 A) (F0 m 0 ls [])) : CtI l y cc n rt f lo K as w0 A post w1 := by
  refine Met.ofW (cc := cc) (maxL := n) (ret := (some rt)) hy rfl ?_
  intro p e s m args below meth c s₁ B hml hv
  obtain ⟨rfl, hP, hK⟩ := hv
  have hts := atoms_spec (ws := wy y cc n (some rt)) B.pre
  have hl := lv_entry as (n := n) hn
  rw [lg_entry_eq]
  exact body p e s m _ below meth c ⟨B.exec, B.bytes, hml, findClass_of_methodNamed B.named, fun w h => hts w (List.mem_cons_of_mem _ h)⟩ B.returns B.notSynchronized hP hK _ hl
theorem CtL_of {l : Launch} {y : MethodName} {cc : ByteArray} {n : Nat} {f lo : Nat} {K : KT} {as : List Value} {w0 : va_W} {A : Nat → Prop} {S : Type} {post : Int → S → Prop} {w1 : S → va_W} (hy : plainName y.cls = true) (hn : (lg_sl as).length ≤ n) (body : ∀ (p : Program) (e : Env) (s : State) (m : MethodId) (args : Array Value) (below : List Frame) (meth : Method) (c : Code), CF p m c cc n s args y.cls → meth.sig.returnType = (some .long) → meth.locks = false → xP K w0 s.heap → xK K s → ∀ ls : Array Slot, lv_has ls n (lv_args 0 as) → W p l e (rmF f lo) s m args below meth c s.heap [] 0 0 (MQ below (qL K post w1 A) args s 0 0 A) (F0 m 0 ls [])) : CtL l y cc n f lo K as w0 A post w1 := by
  refine Met.ofW (cc := cc) (maxL := n) (ret := (some .long)) hy rfl ?_
  intro p e s m args below meth c s₁ B hml hv
  obtain ⟨rfl, hP, hK⟩ := hv
  have hts := atoms_spec (ws := wy y cc n (some .long)) B.pre
  have hl := lv_entry as (n := n) hn
  rw [lg_entry_eq]
  exact body p e s m _ below meth c ⟨B.exec, B.bytes, hml, findClass_of_methodNamed B.named, fun w h => hts w (List.mem_cons_of_mem _ h)⟩ B.returns B.notSynchronized hP hK _ hl
theorem CtV_of {l : Launch} {y : MethodName} {cc : ByteArray} {n : Nat} {f lo : Nat} {K : KT} {as : List Value} {w0 : va_W} {A : Nat → Prop} {S : Type} {post : S → Prop} {w1 : S → va_W} (hy : plainName y.cls = true) (hn : (lg_sl as).length ≤ n) (body : ∀ (p : Program) (e : Env) (s : State) (m : MethodId) (args : Array Value) (below : List Frame) (meth : Method) (c : Code), CF p m c cc n s args y.cls → meth.sig.returnType = none → meth.locks = false → xP K w0 s.heap → xK K s → ∀ ls : Array Slot, lv_has ls n (lv_args 0 as) → W p l e (rmF f lo) s m args below meth c s.heap [] 0 0 (MQ below (qV K post w1 A) args s 0 0 A) (F0 m 0 ls [])) : CtV l y cc n f lo K as w0 A post w1 := by
  refine Met.ofW (cc := cc) (maxL := n) (ret := none) hy rfl ?_
  intro p e s m args below meth c s₁ B hml hv
  obtain ⟨rfl, hP, hK⟩ := hv
  have hts := atoms_spec (ws := wy y cc n none) B.pre
  have hl := lv_entry as (n := n) hn
  rw [lg_entry_eq]
  exact body p e s m _ below meth c ⟨B.exec, B.bytes, hml, findClass_of_methodNamed B.named, fun w h => hts w (List.mem_cons_of_mem _ h)⟩ B.returns B.notSynchronized hP hK _ hl
section CR
variable {p : Program} {l : Launch} {e : Env} {R : Room} {s : State} {m : MethodId} {args : Array Value} {below : List Frame} {meth : Method} {c : Code} {H : Heap} {locs : List Loc} {cells slots : Nat} {Q : State → Prop}
variable {cc : ByteArray} {pc nL : Nat} {ls : Array Slot} {rest : List Value} {own : String}
variable {K : KT} {A A0 : Nat → Prop} {S : Type} {u : S} {w1 : S → va_W} {z : Int}
theorem rI (T : CF p m c cc nL s args own) {post : Int → S → Prop} (hr : meth.sig.returnType = some .int) (hk : meth.locks = false) (hK : xK K s) (hP : xP K (w1 u) H) (hS : va_S A s.heap H locs) (hdg : decode cc pc = .ok (.ireturn, 1)) (hp : post z u) : W p l e R s m args below meth c H locs cells slots (MQ below (qI K post w1 A) args s cells slots A) (F0 m pc ls [.int (iI z)]) := W.iret T.1 T.2.1 hr (fun t ht hW => ⟨⟨iI z, u, rfl, ⟨z, rfl, hp⟩, by rw [ht]; exact hP, va_K.moved hW.alike hK⟩, hS.F ht⟩) hS.2.2 hdg hk
theorem rB (T : CF p m c cc nL s args own) {post : Int → S → Prop} (hr : meth.sig.returnType = some .boolean) (hk : meth.locks = false) (hK : xK K s) (hP : xP K (w1 u) H) (hS : va_S A s.heap H locs) (hz : z = 0 ∨ z = 1) (hdg : decode cc pc = .ok (.ireturn, 1)) (hp : post z u) : W p l e R s m args below meth c H locs cells slots (MQ below (qI K post w1 A) args s cells slots A) (F0 m pc ls [.int (iI z)]) := W.zret T.1 T.2.1 hr (xn_bool hz).1 (fun t ht hW => ⟨⟨iI z, u, rfl, ⟨z, rfl, hp⟩, by rw [ht]; exact hP, va_K.moved hW.alike hK⟩, hS.F ht⟩) hS.2.2 hdg hk
theorem rL (T : CF p m c cc nL s args own) {post : Int → S → Prop} (hr : meth.sig.returnType = some .long) (hk : meth.locks = false) (hK : xK K s) (hP : xP K (w1 u) H) (hS : va_S A s.heap H locs) (hdg : decode cc pc = .ok (.lreturn, 1)) (hp : post z u) : W p l e R s m args below meth c H locs cells slots (MQ below (qL K post w1 A) args s cells slots A) (F0 m pc ls [.long (lI z)]) := W.lret T.1 T.2.1 hr (fun t ht hW => ⟨⟨lI z, u, rfl, ⟨z, rfl, hp⟩, by rw [ht]; exact hP, va_K.moved hW.alike hK⟩, hS.F ht⟩) hS.2.2 hdg hk
theorem rV (T : CF p m c cc nL s args own) {post : S → Prop} (hr : meth.sig.returnType = none) (hk : meth.locks = false) (hK : xK K s) (hP : xP K (w1 u) H) (hS : va_S A s.heap H locs) (hdg : decode cc pc = .ok (.return_, 1)) (hp : post u) : W p l e R s m args below meth c H locs cells slots (MQ below (qV K post w1 A) args s cells slots A) (F0 m pc ls []) := W.vret T.1 T.2.1 hr (fun t ht hW => ⟨⟨u, rfl, hp, by rw [ht]; exact hP, va_K.moved hW.alike hK⟩, hS.F ht⟩) hS.2.2 hdg hk
variable {y : MethodName} {cy : ByteArray} {n f lo k idx : Nat} {rt : FieldType} {C : String} {w0 ws : va_W} {H0 : Heap} {b : Nat} {As : List Value}
theorem cI_V (T : CF p m c cc nL s args own) (hK : xK K s) (hP : xP K ws H) (hS : va_S A0 H0 H locs) (q0 : Nat) {ci : Nat} {r : vw_C} {fs : List Value} (he : ws[q0]? = some (b, .inr (ci, fs))) (hc : vwCl[ci]? = some r) (hC : r.1 = C)  {post : Int → S → Prop} (hM : CtI l y cy n rt f lo K (.ref b :: As) w0 A post w1) (hi : VInfo C y cy n (some rt) k) (hm : Cond.methodLink own idx y ∈ xtb) (hR : f + 1 ≤ R.frames ∧ 8 + (n + 11) + lo ≤ R.locals) (hw0 : xP K w0 H) (hA : ∀ q, A q → A0 q) (hn : As.length = k) (hsz : ls.size = nL) {st : List Value} (hst : st = As.reverse ++ .ref b :: rest) (hrm : (rest.map fun v => v.category).sum ≤ 8) (hcs : cells ≤ R.cells ∧ slots ≤ R.slots) (hdg : decode cc pc = .ok (.invokevirtual idx, 3)) (kk : ∀ (z : Int) (u : S) (H1 : Heap) (locs1 : List Loc), post z u → xP K (w1 u) H1 → H.size ≤ H1.size → (∀ q : Nat, q < H.size → ¬ A q → H1[q]? = H[q]?) → va_S A0 H0 H1 locs1 → W p l e R s m args below meth c H1 locs1 cells slots Q (F0 m (pc + 3) ls (.int (iI z) :: rest))) : W p l e R s m args below meth c H locs cells slots Q (F0 m pc ls st) := by
  refine va_calli (va_runV T hM (cwV k T.2.2.2.2 (gxV hi hm) rfl rfl rfl hi.2.2.2.2 hR) ⟨blindX, by rw [← hC]; exact va_recv hK hP hc he, preX hw0 hK⟩ rfl hn hsz hst (lv_room hrm) hdg hcs) hS (fun q _ h => hA q h) hA (fun r u t H1 locs1 ht hvm hp hB h1 h2 h3 => ?_)
  obtain ⟨z, rfl, hp⟩ := hp
  rw [ht] at hB
  exact kk z u H1 locs1 hp hB.1 h1 h2 h3
theorem cI_S (T : CF p m c cc nL s args own) (hK : xK K s) (hP : xP K ws H) (hS : va_S A0 H0 H locs)  {post : Int → S → Prop} (hM : CtI l y cy n rt f lo K As w0 A post w1) (hi : SInfo own y cy n (some rt) k) (hm : Cond.methodLink own idx y ∈ xtb) (hR : f + 1 ≤ R.frames ∧ 8 + (n + 11) + lo ≤ R.locals) (hw0 : xP K w0 H) (hA : ∀ q, A q → A0 q) (hn : As.length = k) (hsz : ls.size = nL) {st : List Value} (hst : st = As.reverse ++ rest) (hrm : (rest.map fun v => v.category).sum ≤ 8) (hcs : cells ≤ R.cells ∧ slots ≤ R.slots) (hdg : decode cc pc = .ok (.invokestatic idx, 3)) (kk : ∀ (z : Int) (u : S) (H1 : Heap) (locs1 : List Loc), post z u → xP K (w1 u) H1 → H.size ≤ H1.size → (∀ q : Nat, q < H.size → ¬ A q → H1[q]? = H[q]?) → va_S A0 H0 H1 locs1 → W p l e R s m args below meth c H1 locs1 cells slots Q (F0 m (pc + 3) ls (.int (iI z) :: rest))) : W p l e R s m args below meth c H locs cells slots Q (F0 m pc ls st) := by
  refine va_calli (va_runS T hM (cwS k T.2.2.2.2 (gxS hi hm) rfl rfl rfl hi.2.2.2 hR) ⟨blindX, preX hw0 hK⟩ rfl hn hsz hst (lv_room hrm) hdg hcs) hS (fun q _ h => hA q h) hA (fun r u t H1 locs1 ht hvm hp hB h1 h2 h3 => ?_)
  obtain ⟨z, rfl, hp⟩ := hp
  rw [ht] at hB
  exact kk z u H1 locs1 hp hB.1 h1 h2 h3
theorem cL_V (T : CF p m c cc nL s args own) (hK : xK K s) (hP : xP K ws H) (hS : va_S A0 H0 H locs) (q0 : Nat) {ci : Nat} {r : vw_C} {fs : List Value} (he : ws[q0]? = some (b, .inr (ci, fs))) (hc : vwCl[ci]? = some r) (hC : r.1 = C)  {post : Int → S → Prop} (hM : CtL l y cy n f lo K (.ref b :: As) w0 A post w1) (hi : VInfo C y cy n (some .long) k) (hm : Cond.methodLink own idx y ∈ xtb) (hR : f + 1 ≤ R.frames ∧ 8 + (n + 11) + lo ≤ R.locals) (hw0 : xP K w0 H) (hA : ∀ q, A q → A0 q) (hn : As.length = k) (hsz : ls.size = nL) {st : List Value} (hst : st = As.reverse ++ .ref b :: rest) (hrm : (rest.map fun v => v.category).sum ≤ 8) (hcs : cells ≤ R.cells ∧ slots ≤ R.slots) (hdg : decode cc pc = .ok (.invokevirtual idx, 3)) (kk : ∀ (z : Int) (u : S) (H1 : Heap) (locs1 : List Loc), post z u → xP K (w1 u) H1 → H.size ≤ H1.size → (∀ q : Nat, q < H.size → ¬ A q → H1[q]? = H[q]?) → va_S A0 H0 H1 locs1 → W p l e R s m args below meth c H1 locs1 cells slots Q (F0 m (pc + 3) ls (.long (lI z) :: rest))) : W p l e R s m args below meth c H locs cells slots Q (F0 m pc ls st) := by
  refine va_calll (va_runV T hM (cwV k T.2.2.2.2 (gxV hi hm) rfl rfl rfl hi.2.2.2.2 hR) ⟨blindX, by rw [← hC]; exact va_recv hK hP hc he, preX hw0 hK⟩ rfl hn hsz hst (lv_room hrm) hdg hcs) hS (fun q _ h => hA q h) hA (fun r u t H1 locs1 ht hvm hp hB h1 h2 h3 => ?_)
  obtain ⟨z, rfl, hp⟩ := hp
  rw [ht] at hB
  exact kk z u H1 locs1 hp hB.1 h1 h2 h3
theorem cL_S (T : CF p m c cc nL s args own) (hK : xK K s) (hP : xP K ws H) (hS : va_S A0 H0 H locs)  {post : Int → S → Prop} (hM : CtL l y cy n f lo K As w0 A post w1) (hi : SInfo own y cy n (some .long) k) (hm : Cond.methodLink own idx y ∈ xtb) (hR : f + 1 ≤ R.frames ∧ 8 + (n + 11) + lo ≤ R.locals) (hw0 : xP K w0 H) (hA : ∀ q, A q → A0 q) (hn : As.length = k) (hsz : ls.size = nL) {st : List Value} (hst : st = As.reverse ++ rest) (hrm : (rest.map fun v => v.category).sum ≤ 8) (hcs : cells ≤ R.cells ∧ slots ≤ R.slots) (hdg : decode cc pc = .ok (.invokestatic idx, 3)) (kk : ∀ (z : Int) (u : S) (H1 : Heap) (locs1 : List Loc), post z u → xP K (w1 u) H1 → H.size ≤ H1.size → (∀ q : Nat, q < H.size → ¬ A q → H1[q]? = H[q]?) → va_S A0 H0 H1 locs1 → W p l e R s m args below meth c H1 locs1 cells slots Q (F0 m (pc + 3) ls (.long (lI z) :: rest))) : W p l e R s m args below meth c H locs cells slots Q (F0 m pc ls st) := by
  refine va_calll (va_runS T hM (cwS k T.2.2.2.2 (gxS hi hm) rfl rfl rfl hi.2.2.2 hR) ⟨blindX, preX hw0 hK⟩ rfl hn hsz hst (lv_room hrm) hdg hcs) hS (fun q _ h => hA q h) hA (fun r u t H1 locs1 ht hvm hp hB h1 h2 h3 => ?_)
  obtain ⟨z, rfl, hp⟩ := hp
  rw [ht] at hB
  exact kk z u H1 locs1 hp hB.1 h1 h2 h3
theorem cV_V (T : CF p m c cc nL s args own) (hK : xK K s) (hP : xP K ws H) (hS : va_S A0 H0 H locs) (q0 : Nat) {ci : Nat} {r : vw_C} {fs : List Value} (he : ws[q0]? = some (b, .inr (ci, fs))) (hc : vwCl[ci]? = some r) (hC : r.1 = C)  {post : S → Prop} (hM : CtV l y cy n f lo K (.ref b :: As) w0 A post w1) (hi : VInfo C y cy n none k) (hm : Cond.methodLink own idx y ∈ xtb) (hR : f + 1 ≤ R.frames ∧ 8 + (n + 11) + lo ≤ R.locals) (hw0 : xP K w0 H) (hA : ∀ q, A q → A0 q) (hn : As.length = k) (hsz : ls.size = nL) {st : List Value} (hst : st = As.reverse ++ .ref b :: rest) (hrm : (rest.map fun v => v.category).sum ≤ 8) (hcs : cells ≤ R.cells ∧ slots ≤ R.slots) (hdg : decode cc pc = .ok (.invokevirtual idx, 3)) (kk : ∀ (u : S) (H1 : Heap) (locs1 : List Loc), post u → xP K (w1 u) H1 → H.size ≤ H1.size → (∀ q : Nat, q < H.size → ¬ A q → H1[q]? = H[q]?) → va_S A0 H0 H1 locs1 → W p l e R s m args below meth c H1 locs1 cells slots Q (F0 m (pc + 3) ls (rest))) : W p l e R s m args below meth c H locs cells slots Q (F0 m pc ls st) := by
  refine va_callv (va_runV T hM (cwV k T.2.2.2.2 (gxV hi hm) rfl rfl rfl hi.2.2.2.2 hR) ⟨blindX, by rw [← hC]; exact va_recv hK hP hc he, preX hw0 hK⟩ rfl hn hsz hst (lv_room hrm) hdg hcs) hS (fun q _ h => hA q h) hA (fun u t H1 locs1 ht hvm hp hB h1 h2 h3 => ?_)
  rw [ht] at hB
  exact kk u H1 locs1 hp hB.1 h1 h2 h3
theorem cV_S (T : CF p m c cc nL s args own) (hK : xK K s) (hP : xP K ws H) (hS : va_S A0 H0 H locs)  {post : S → Prop} (hM : CtV l y cy n f lo K As w0 A post w1) (hi : SInfo own y cy n none k) (hm : Cond.methodLink own idx y ∈ xtb) (hR : f + 1 ≤ R.frames ∧ 8 + (n + 11) + lo ≤ R.locals) (hw0 : xP K w0 H) (hA : ∀ q, A q → A0 q) (hn : As.length = k) (hsz : ls.size = nL) {st : List Value} (hst : st = As.reverse ++ rest) (hrm : (rest.map fun v => v.category).sum ≤ 8) (hcs : cells ≤ R.cells ∧ slots ≤ R.slots) (hdg : decode cc pc = .ok (.invokestatic idx, 3)) (kk : ∀ (u : S) (H1 : Heap) (locs1 : List Loc), post u → xP K (w1 u) H1 → H.size ≤ H1.size → (∀ q : Nat, q < H.size → ¬ A q → H1[q]? = H[q]?) → va_S A0 H0 H1 locs1 → W p l e R s m args below meth c H1 locs1 cells slots Q (F0 m (pc + 3) ls (rest))) : W p l e R s m args below meth c H locs cells slots Q (F0 m pc ls st) := by
  refine va_callv (va_runS T hM (cwS k T.2.2.2.2 (gxS hi hm) rfl rfl rfl hi.2.2.2 hR) ⟨blindX, preX hw0 hK⟩ rfl hn hsz hst (lv_room hrm) hdg hcs) hS (fun q _ h => hA q h) hA (fun u t H1 locs1 ht hvm hp hB h1 h2 h3 => ?_)
  rw [ht] at hB
  exact kk u H1 locs1 hp hB.1 h1 h2 h3
theorem xP_kept {H1 : Heap} (hP : xP K ws H) (h : ∀ q : Nat, q < H.size → ¬ NoA q → H1[q]? = H[q]?) : xP K ws H1 := va_P.kept hP (fun k q hk => h q.1 (va_at.lt (hP k q hk)) (fun z => z))
theorem noA {B : Nat → Prop} : ∀ q, NoA q → B q := fun _ h => h.elim
theorem xP_nil {H : Heap} : xP K [] H := fun k q h => by simp at h
end CR
theorem iX0_become : VInfo RX0 yX0_become cX0_become 2 none 1 := ⟨mw_2_40, mw_2_41, mw_1_5, mw_2_42, rfl, by decide +kernel, by decide +kernel, by decide +kernel⟩
theorem iX0_add : VInfo RX0 yX0_add cX0_add 6 (some .int) 4 := ⟨mw_2_120, mw_2_121, mw_1_5, mw_2_122, rfl, by decide +kernel, by decide +kernel, by decide +kernel⟩
theorem iX0_held : VInfo RX0 yX0_held cX0_held 2 (some .long) 1 := ⟨mw_2_144, mw_2_145, mw_1_5, mw_2_146, rfl, by decide +kernel, by decide +kernel, by decide +kernel⟩
theorem iX0_heldByAll : VInfo RX0 yX0_heldByAll cX0_heldByAll 4 (some .long) 0 := ⟨mw_3_42, mw_3_43, mw_1_5, mw_3_44, rfl, by decide +kernel, by decide +kernel, by decide +kernel⟩
theorem iX0_withUnits : VInfo RX0 yX0_withUnits cX0_withUnits 3 (some .int) 0 := ⟨mw_3_55, mw_3_56, mw_1_5, mw_3_57, rfl, by decide +kernel, by decide +kernel, by decide +kernel⟩
theorem iX0_loaded : VInfo RX0 yX0_loaded cX0_loaded 4 (some .int) 1 := ⟨mw_3_29, mw_3_30, mw_1_5, mw_3_31, rfl, by decide +kernel, by decide +kernel, by decide +kernel⟩
theorem iX0_leftOf : VInfo RX0 yX0_leftOf cX0_leftOf 4 (some .int) 1 := ⟨mw_3_73, mw_3_74, mw_1_5, mw_3_75, rfl, by decide +kernel, by decide +kernel, by decide +kernel⟩
theorem iX0_nextAfter : VInfo RX0 yX0_nextAfter cX0_nextAfter 10 (some .int) 2 := ⟨mw_2_164, mw_2_165, mw_1_5, mw_2_166, rfl, by decide +kernel, by decide +kernel, by decide +kernel⟩
theorem iX0_amountOf : VInfo RX0 yX0_amountOf cX0_amountOf 10 (some .long) 3 := ⟨mw_2_160, mw_2_161, mw_1_5, mw_2_162, rfl, by decide +kernel, by decide +kernel, by decide +kernel⟩
theorem iX1_prepare : VInfo RX1 yX1_prepare cX1_prepare 2 none 1 := ⟨mw_2_15, mw_2_16, mw_1_7, mw_2_17, rfl, by decide +kernel, by decide +kernel, by decide +kernel⟩
theorem iX1_finish : VInfo RX1 yX1_finish cX1_finish 2 (some .int) 1 := ⟨mw_2_66, mw_2_67, mw_1_7, mw_2_68, rfl, by decide +kernel, by decide +kernel, by decide +kernel⟩
theorem iX1_restore : VInfo RX1 yX1_restore cX1_restore 2 (some .int) 1 := ⟨mw_3_64, mw_3_65, mw_1_7, mw_3_66, rfl, by decide +kernel, by decide +kernel, by decide +kernel⟩
theorem iX1_spare : VInfo RX1 yX1_spare cX1_spare 1 (some .int) 0 := ⟨mw_2_20, mw_0_0, mw_1_7, mw_2_21, rfl, by decide +kernel, by decide +kernel, by decide +kernel⟩
theorem iX2_become : VInfo RX2 yX2_become cX2_become 2 none 1 := ⟨mw_2_30, mw_2_31, mw_1_3, mw_2_32, rfl, by decide +kernel, by decide +kernel, by decide +kernel⟩
theorem iX2_place : VInfo RX2 yX2_place cX2_place 3 (some .int) 2 := ⟨mw_2_106, mw_2_107, mw_1_3, mw_2_108, rfl, by decide +kernel, by decide +kernel, by decide +kernel⟩
theorem iX2_inState : VInfo RX2 yX2_inState cX2_inState 4 (some .int) 1 := ⟨mw_2_221, mw_2_222, mw_1_3, mw_2_223, rfl, by decide +kernel, by decide +kernel, by decide +kernel⟩
theorem iX2_sumOfLocker : VInfo RX2 yX2_sumOfLocker cX2_sumOfLocker 5 (some .int) 2 := ⟨mw_2_129, mw_2_130, mw_1_3, mw_2_131, rfl, by decide +kernel, by decide +kernel, by decide +kernel⟩
theorem iX2_sumOfGood : VInfo RX2 yX2_sumOfGood cX2_sumOfGood 5 (some .int) 2 := ⟨mw_3_33, mw_3_34, mw_1_3, mw_3_35, rfl, by decide +kernel, by decide +kernel, by decide +kernel⟩
theorem iX2_takeFromAny : VInfo RX2 yX2_takeFromAny cX2_takeFromAny 4 none 2 := ⟨mw_3_7, mw_3_8, mw_1_3, mw_3_9, rfl, by decide +kernel, by decide +kernel, by decide +kernel⟩
theorem iX2_takeLowestFirst : VInfo RX2 yX2_takeLowestFirst cX2_takeLowestFirst 8 (some .int) 3 := ⟨mw_3_12, mw_0_8, mw_1_3, mw_3_13, rfl, by decide +kernel, by decide +kernel, by decide +kernel⟩
theorem iX3_append : VInfo RX3 yX3_append cX3_append 2 (some .int) 1 := ⟨mw_3_170, mw_3_171, mw_1_8, mw_3_172, rfl, by decide +kernel, by decide +kernel, by decide +kernel⟩
theorem iX3_tryOn : VInfo RX3 yX3_tryOn cX3_tryOn 6 none 2 := ⟨mw_3_96, mw_3_97, mw_1_8, mw_3_98, rfl, by decide +kernel, by decide +kernel, by decide +kernel⟩
theorem iX3_noteFault : VInfo RX3 yX3_noteFault cX3_noteFault 4 none 3 := ⟨mw_3_117, mw_0_12, mw_1_8, mw_3_118, rfl, by decide +kernel, by decide +kernel, by decide +kernel⟩
theorem iX3_readOrder : VInfo RX3 yX3_readOrder cX3_readOrder 3 (some .boolean) 0 := ⟨mw_3_102, mw_0_9, mw_1_8, mw_3_103, rfl, by decide +kernel, by decide +kernel, by decide +kernel⟩
theorem iX3_numbersOf : SInfo RX3 yX3_numbersOf cX3_numbersOf 1 (some .int) 1 := ⟨mw_3_105, mw_1_8, mw_3_106, rfl, by decide +kernel, by decide +kernel, by decide +kernel⟩
theorem iX3_readSign : VInfo RX3 yX3_readSign cX3_readSign 2 (some .boolean) 1 := ⟨mw_3_109, mw_0_10, mw_1_8, mw_3_110, rfl, by decide +kernel, by decide +kernel, by decide +kernel⟩
theorem iX3_readNumber : VInfo RX3 yX3_readNumber cX3_readNumber 4 (some .boolean) 1 := ⟨mw_3_113, mw_0_11, mw_1_8, mw_3_114, rfl, by decide +kernel, by decide +kernel, by decide +kernel⟩
theorem iX3_doOrder : VInfo RX3 yX3_doOrder cX3_doOrder 2 (some .int) 1 := ⟨mw_3_121, mw_0_13, mw_1_8, mw_3_122, rfl, by decide +kernel, by decide +kernel, by decide +kernel⟩
theorem iX4_become : VInfo RX4 yX4_become cX4_become 2 none 1 := ⟨mw_2_45, mw_2_46, mw_1_6, mw_2_47, rfl, by decide +kernel, by decide +kernel, by decide +kernel⟩
theorem iX4_place : VInfo RX4 yX4_place cX4_place 3 (some .int) 2 := ⟨mw_2_173, mw_2_174, mw_1_6, mw_2_175, rfl, by decide +kernel, by decide +kernel, by decide +kernel⟩
theorem iX4_add : VInfo RX4 yX4_add cX4_add 6 none 4 := ⟨mw_2_169, mw_2_170, mw_1_6, mw_2_171, rfl, by decide +kernel, by decide +kernel, by decide +kernel⟩
theorem iX5_become : VInfo RX5 yX5_become cX5_become 2 none 1 := ⟨mw_2_35, mw_2_36, mw_1_4, mw_2_37, rfl, by decide +kernel, by decide +kernel, by decide +kernel⟩
theorem iX5_left : VInfo RX5 yX5_left cX5_left 1 (some .int) 0 := ⟨mw_2_54, mw_2_55, mw_1_4, mw_2_56, rfl, by decide +kernel, by decide +kernel, by decide +kernel⟩
theorem iX5_putOn : VInfo RX5 yX5_putOn cX5_putOn 3 (some .int) 2 := ⟨mw_2_62, mw_2_63, mw_1_4, mw_2_64, rfl, by decide +kernel, by decide +kernel, by decide +kernel⟩
theorem iX5_end : VInfo RX5 yX5_end cX5_end 3 none 2 := ⟨mw_2_116, mw_2_117, mw_1_4, mw_2_118, rfl, by decide +kernel, by decide +kernel, by decide +kernel⟩
theorem iX6_become : VInfo RX6 yX6_become cX6_become 2 none 1 := ⟨mw_2_23, mw_2_24, mw_1_2, mw_2_25, rfl, by decide +kernel, by decide +kernel, by decide +kernel⟩
theorem iX6_hasLocker : VInfo RX6 yX6_hasLocker cX6_hasLocker 2 (some .boolean) 1 := ⟨mw_2_98, mw_2_99, mw_1_2, mw_2_100, rfl, by decide +kernel, by decide +kernel, by decide +kernel⟩
theorem iX6_hasGood : VInfo RX6 yX6_hasGood cX6_hasGood 2 (some .boolean) 1 := ⟨mw_2_102, mw_2_103, mw_1_2, mw_2_104, rfl, by decide +kernel, by decide +kernel, by decide +kernel⟩
theorem iX6_isDuty : VInfo RX6 yX6_isDuty cX6_isDuty 2 (some .boolean) 1 := ⟨mw_2_81, mw_2_82, mw_1_2, mw_2_83, rfl, by decide +kernel, by decide +kernel, by decide +kernel⟩
theorem iX6_canMove : VInfo RX6 yX6_canMove cX6_canMove 4 (some .boolean) 3 := ⟨mw_2_94, mw_2_95, mw_1_2, mw_2_96, rfl, by decide +kernel, by decide +kernel, by decide +kernel⟩
theorem iX6_addLocker : VInfo RX6 yX6_addLocker cX6_addLocker 2 (some .int) 0 := ⟨mw_2_50, mw_2_51, mw_1_2, mw_2_52, rfl, by decide +kernel, by decide +kernel, by decide +kernel⟩
theorem iX6_addGood : VInfo RX6 yX6_addGood cX6_addGood 2 (some .int) 1 := ⟨mw_2_77, mw_2_78, mw_1_2, mw_2_79, rfl, by decide +kernel, by decide +kernel, by decide +kernel⟩
theorem iX6_changeDuty : VInfo RX6 yX6_changeDuty cX6_changeDuty 4 (some .int) 2 := ⟨mw_3_161, mw_3_162, mw_1_2, mw_3_163, rfl, by decide +kernel, by decide +kernel, by decide +kernel⟩
theorem iX6_loadUnits : VInfo RX6 yX6_loadUnits cX6_loadUnits 7 (some .int) 3 := ⟨mw_2_90, mw_2_91, mw_1_2, mw_2_92, rfl, by decide +kernel, by decide +kernel, by decide +kernel⟩
theorem iX6_useUnits : VInfo RX6 yX6_useUnits cX6_useUnits 5 (some .int) 3 := ⟨mw_2_152, mw_2_153, mw_1_2, mw_2_154, rfl, by decide +kernel, by decide +kernel, by decide +kernel⟩
theorem iX6_returnUnits : VInfo RX6 yX6_returnUnits cX6_returnUnits 5 (some .int) 3 := ⟨mw_2_181, mw_2_182, mw_1_2, mw_2_183, rfl, by decide +kernel, by decide +kernel, by decide +kernel⟩
theorem iX6_breakUnits : VInfo RX6 yX6_breakUnits cX6_breakUnits 6 (some .int) 4 := ⟨mw_2_189, mw_2_190, mw_1_2, mw_2_191, rfl, by decide +kernel, by decide +kernel, by decide +kernel⟩
theorem iX6_tearSeal : VInfo RX6 yX6_tearSeal cX6_tearSeal 2 (some .int) 1 := ⟨mw_2_197, mw_2_198, mw_1_2, mw_2_199, rfl, by decide +kernel, by decide +kernel, by decide +kernel⟩
theorem iX6_countLocker : VInfo RX6 yX6_countLocker cX6_countLocker 7 (some .int) 1 := ⟨mw_2_205, mw_2_206, mw_1_2, mw_2_207, rfl, by decide +kernel, by decide +kernel, by decide +kernel⟩
theorem iX6_crossTo : VInfo RX6 yX6_crossTo cX6_crossTo 3 (some .int) 1 := ⟨mw_2_217, mw_2_218, mw_1_2, mw_2_219, rfl, by decide +kernel, by decide +kernel, by decide +kernel⟩
theorem iX6_passDays : VInfo RX6 yX6_passDays cX6_passDays 2 (some .int) 1 := ⟨mw_2_237, mw_2_238, mw_1_2, mw_2_239, rfl, by decide +kernel, by decide +kernel, by decide +kernel⟩
theorem iX6_changeSetting : VInfo RX6 yX6_changeSetting cX6_changeSetting 6 (some .int) 2 := ⟨mw_3_20, mw_3_21, mw_1_2, mw_3_22, rfl, by decide +kernel, by decide +kernel, by decide +kernel⟩
theorem iX6_toPayForAll : VInfo RX6 yX6_toPayForAll cX6_toPayForAll 4 (some .long) 0 := ⟨mw_3_82, mw_3_83, mw_1_2, mw_3_84, rfl, by decide +kernel, by decide +kernel, by decide +kernel⟩
theorem iX6_release : VInfo RX6 yX6_release cX6_release 6 (some .long) 3 := ⟨mw_2_157, mw_0_3, mw_1_2, mw_2_158, rfl, by decide +kernel, by decide +kernel, by decide +kernel⟩
theorem iX6_taxesOf : VInfo RX6 yX6_taxesOf cX6_taxesOf 5 (some .long) 1 := ⟨mw_2_210, mw_0_4, mw_1_2, mw_2_211, rfl, by decide +kernel, by decide +kernel, by decide +kernel⟩
theorem iX6_runOutBonds : VInfo RX6 yX6_runOutBonds cX6_runOutBonds 9 (some .long) 0 := ⟨mw_3_2, mw_0_7, mw_1_2, mw_3_3, rfl, by decide +kernel, by decide +kernel, by decide +kernel⟩
theorem iX6_putSeal : VInfo RX6 yX6_putSeal cX6_putSeal 2 none 1 := ⟨mw_2_59, mw_0_1, mw_1_2, mw_2_60, rfl, by decide +kernel, by decide +kernel, by decide +kernel⟩
theorem iX6_sealByOfficer : VInfo RX6 yX6_sealByOfficer cX6_sealByOfficer 2 none 1 := ⟨mw_2_113, mw_0_2, mw_1_2, mw_2_114, rfl, by decide +kernel, by decide +kernel, by decide +kernel⟩
theorem iX6_sealOpenLockers : VInfo RX6 yX6_sealOpenLockers cX6_sealOpenLockers 3 (some .int) 0 := ⟨mw_2_226, mw_0_5, mw_1_2, mw_2_227, rfl, by decide +kernel, by decide +kernel, by decide +kernel⟩
theorem iX6_openLockers : VInfo RX6 yX6_openLockers cX6_openLockers 3 (some .int) 0 := ⟨mw_2_230, mw_0_6, mw_1_2, mw_2_231, rfl, by decide +kernel, by decide +kernel, by decide +kernel⟩
theorem iX7_locker : VInfo RX7 yX7_locker cX7_locker 1 (some .int) 0 := ⟨mw_2_11, mw_2_12, mw_1_1, mw_2_13, rfl, by decide +kernel, by decide +kernel, by decide +kernel⟩
theorem iX7_good : VInfo RX7 yX7_good cX7_good 2 (some .int) 1 := ⟨mw_2_73, mw_2_74, mw_1_1, mw_2_75, rfl, by decide +kernel, by decide +kernel, by decide +kernel⟩
theorem iX7_duty : VInfo RX7 yX7_duty cX7_duty 3 (some .int) 2 := ⟨mw_3_157, mw_3_158, mw_1_1, mw_3_159, rfl, by decide +kernel, by decide +kernel, by decide +kernel⟩
theorem iX7_load : VInfo RX7 yX7_load cX7_load 4 (some .int) 3 := ⟨mw_2_86, mw_2_87, mw_1_1, mw_2_88, rfl, by decide +kernel, by decide +kernel, by decide +kernel⟩
theorem iX7_lockerOf : VInfo RX7 yX7_lockerOf cX7_lockerOf 4 (some .int) 2 := ⟨mw_2_124, mw_2_125, mw_1_1, mw_2_126, rfl, by decide +kernel, by decide +kernel, by decide +kernel⟩
theorem iX7_missing : VInfo RX7 yX7_missing cX7_missing 3 (some .int) 2 := ⟨mw_3_148, mw_3_149, mw_1_1, mw_3_150, rfl, by decide +kernel, by decide +kernel, by decide +kernel⟩
theorem iX7_seal : VInfo RX7 yX7_seal cX7_seal 4 (some .int) 2 := ⟨mw_2_136, mw_2_137, mw_1_1, mw_2_138, rfl, by decide +kernel, by decide +kernel, by decide +kernel⟩
theorem iX7_bond : VInfo RX7 yX7_bond cX7_bond 4 (some .int) 2 := ⟨mw_2_140, mw_2_141, mw_1_1, mw_2_142, rfl, by decide +kernel, by decide +kernel, by decide +kernel⟩
theorem iX7_nextBond : VInfo RX7 yX7_nextBond cX7_nextBond 3 (some .int) 1 := ⟨mw_3_152, mw_3_153, mw_1_1, mw_3_154, rfl, by decide +kernel, by decide +kernel, by decide +kernel⟩
theorem iX7_use : VInfo RX7 yX7_use cX7_use 4 (some .int) 3 := ⟨mw_2_148, mw_2_149, mw_1_1, mw_2_150, rfl, by decide +kernel, by decide +kernel, by decide +kernel⟩
theorem iX7_bring : VInfo RX7 yX7_bring cX7_bring 4 (some .int) 3 := ⟨mw_2_177, mw_2_178, mw_1_1, mw_2_179, rfl, by decide +kernel, by decide +kernel, by decide +kernel⟩
theorem iX7_smash : VInfo RX7 yX7_smash cX7_smash 5 (some .int) 4 := ⟨mw_2_185, mw_2_186, mw_1_1, mw_2_187, rfl, by decide +kernel, by decide +kernel, by decide +kernel⟩
theorem iX7_tear : VInfo RX7 yX7_tear cX7_tear 2 (some .int) 1 := ⟨mw_2_193, mw_2_194, mw_1_1, mw_2_195, rfl, by decide +kernel, by decide +kernel, by decide +kernel⟩
theorem iX7_inspect : VInfo RX7 yX7_inspect cX7_inspect 2 (some .int) 1 := ⟨mw_2_201, mw_2_202, mw_1_1, mw_2_203, rfl, by decide +kernel, by decide +kernel, by decide +kernel⟩
theorem iX7_cross : VInfo RX7 yX7_cross cX7_cross 2 (some .int) 1 := ⟨mw_2_213, mw_2_214, mw_1_1, mw_2_215, rfl, by decide +kernel, by decide +kernel, by decide +kernel⟩
theorem iX7_pass : VInfo RX7 yX7_pass cX7_pass 2 (some .int) 1 := ⟨mw_2_233, mw_2_234, mw_1_1, mw_2_235, rfl, by decide +kernel, by decide +kernel, by decide +kernel⟩
theorem iX7_set : VInfo RX7 yX7_set cX7_set 3 (some .int) 2 := ⟨mw_3_16, mw_3_17, mw_1_1, mw_3_18, rfl, by decide +kernel, by decide +kernel, by decide +kernel⟩
theorem iX7_account : VInfo RX7 yX7_account cX7_account 4 (some .int) 2 := ⟨mw_3_25, mw_3_26, mw_1_1, mw_3_27, rfl, by decide +kernel, by decide +kernel, by decide +kernel⟩
theorem iX7_cents : VInfo RX7 yX7_cents cX7_cents 2 (some .int) 1 := ⟨mw_3_38, mw_3_39, mw_1_1, mw_3_40, rfl, by decide +kernel, by decide +kernel, by decide +kernel⟩
theorem iX7_count : VInfo RX7 yX7_count cX7_count 2 (some .int) 1 := ⟨mw_3_51, mw_3_52, mw_1_1, mw_3_53, rfl, by decide +kernel, by decide +kernel, by decide +kernel⟩
theorem iX7_undo : VInfo RX7 yX7_undo cX7_undo 1 (some .int) 0 := ⟨mw_3_60, mw_3_61, mw_1_1, mw_3_62, rfl, by decide +kernel, by decide +kernel, by decide +kernel⟩
theorem iX7_worth : VInfo RX7 yX7_worth cX7_worth 3 (some .int) 2 := ⟨mw_3_68, mw_3_69, mw_1_1, mw_3_70, rfl, by decide +kernel, by decide +kernel, by decide +kernel⟩
theorem iX7_toPay : VInfo RX7 yX7_toPay cX7_toPay 1 (some .int) 0 := ⟨mw_3_78, mw_3_79, mw_1_1, mw_3_80, rfl, by decide +kernel, by decide +kernel, by decide +kernel⟩
theorem iX7_runsOut : VInfo RX7 yX7_runsOut cX7_runsOut 2 (some .int) 0 := ⟨mw_3_87, mw_3_88, mw_1_1, mw_3_89, rfl, by decide +kernel, by decide +kernel, by decide +kernel⟩
theorem iX7_type : VInfo RX7 yX7_type cX7_type 2 (some .int) 1 := ⟨mw_3_166, mw_3_167, mw_1_1, mw_3_168, rfl, by decide +kernel, by decide +kernel, by decide +kernel⟩
theorem iX7_fault : VInfo RX7 yX7_fault cX7_fault 2 (some .int) 1 := ⟨mw_3_92, mw_3_93, mw_1_1, mw_3_94, rfl, by decide +kernel, by decide +kernel, by decide +kernel⟩
theorem iX7_centsOrLimit : SInfo RX7 yX7_centsOrLimit cX7_centsOrLimit 2 (some .int) 1 := ⟨mw_3_47, mw_1_1, mw_3_48, rfl, by decide +kernel, by decide +kernel, by decide +kernel⟩
theorem iL_cell : SInfo RL yL_cell cL_cell 2 (some .int) 2 := ⟨mw_3_131, mw_1_0, mw_3_132, rfl, by decide +kernel, by decide +kernel, by decide +kernel⟩
theorem iL_low : SInfo RL yL_low cL_low 2 (some .int) 2 := ⟨mw_3_135, mw_1_0, mw_3_136, rfl, by decide +kernel, by decide +kernel, by decide +kernel⟩
theorem iL_print : SInfo RL yL_print cL_print 5 (some .long) 1 := ⟨mw_3_142, mw_1_0, mw_3_143, rfl, by decide +kernel, by decide +kernel, by decide +kernel⟩
theorem iL_refused : SInfo RL yL_refused cL_refused 7 (some .boolean) 1 := ⟨mw_3_139, mw_1_0, mw_3_140, rfl, by decide +kernel, by decide +kernel, by decide +kernel⟩
theorem iL_addsUp : SInfo RL yL_addsUp cL_addsUp 15 (some .boolean) 1 := ⟨mw_3_175, mw_1_0, mw_3_176, rfl, by decide +kernel, by decide +kernel, by decide +kernel⟩
theorem iL_isAhead : SInfo RL yL_isAhead cL_isAhead 9 (some .boolean) 1 := ⟨mw_3_179, mw_1_0, mw_3_180, rfl, by decide +kernel, by decide +kernel, by decide +kernel⟩
