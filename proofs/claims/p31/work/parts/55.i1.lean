theorem two_set {K : KT} {w1 w2 : va_W} {k : Nat} {x : Nat × va_E} {H : Heap} (hP : xP K ((w1 ++ w2).set k x) H) (hk : k < w1.length) : xP K (w1.set k x ++ w2) H := by
  rw [set_app1 hk] at hP
  exact hP
theorem cns_low2 {ws : va_W} {o n : Nat} (h : cns o ws) (hn : ws.length = n) {k : Nat} {q : Nat × va_E} (hk : ws[k]? = some q) : q.1 < o + n := by rw [← hn]; exact cns_low h hk
theorem ini_keep {K : KT} {ws ws2 : va_W} {H H1 : Heap} {o n b : Nat} (hP : xP K (ws ++ ws2) H) (hC : cns o ws) (hn : ws.length = n) (hb : o + n ≤ b) (hk : ∀ q : Nat, q < H.size → ¬ b ≤ q → H1[q]? = H[q]?) : xP K ws H1 := va_P.kept (xP_l hP) fun k q hq => hk q.1 (va_at.lt (xP_l hP k q hq)) (by have h9 := cns_low2 hC hn hq; omega)
theorem ship_len (K : KT) (o : Nat) (N : Int → Int) : (shipW K o N).length = 21 := rfl
theorem len_app {w1 w2 : va_W} {n m k : Nat} (h1 : w1.length = n) (h2 : w2.length = m) (hk : n + m = k) : (w1 ++ w2).length = k := by rw [List.length_append, h1, h2, hk]
theorem cns_app2 {w1 w2 : va_W} {o n o2 : Nat} (h1 : cns o w1) (hn : w1.length = n) (ho : o + n = o2) (h2 : cns o2 w2) : cns o (w1 ++ w2) := cns_app w1 o h1 (by rw [hn, ho]; exact h2)
def zF : Int → Int := fun _ => 0
def n0F : Int → Int := fun k => if k = 0 then 2 else if k = 2 then 5000 else if k = 3 then 30 else 0
theorem n0F_z {k : Int} (h : k = 1 ∨ 4 ≤ k) : n0F k = 0 := by
  unfold n0F
  rw [if_neg (by omega), if_neg (by omega), if_neg (by omega)]
theorem vI_z {N : Int → Int} {o : Int} (n : Nat) (h : ∀ k, o ≤ k → k < o + (n : Int) → N k = 0) : ∀ j, j < n → (fun _ => (0 : Int32) : Nat → Int32) j = vI N o j := fun j hj => (congrArg iI (h _ (by omega) (by omega))).symm
theorem vL_z {N : Int → Int} {o : Int} (n : Nat) (h : ∀ k, o ≤ k → k < o + (n : Int) → N k = 0) : ∀ j, j < n → (fun _ => (0 : Int64) : Nat → Int64) j = vL N o j := fun j hj => (congrArg lI (h _ (by omega) (by omega))).symm
theorem hfsX0 : ∀ j, j < 7 → defaultValue (tyX0 j) = vp_V [.int 0, .long 0, .null, .null, .null, .null, .null] j
  | 0, _ => rfl
  | 1, _ => rfl
  | 2, _ => rfl
  | 3, _ => rfl
  | 4, _ => rfl
  | 5, _ => rfl
  | 6, _ => rfl
  | n + 7, h => by omega
theorem iiX0 : IInfo yX0_init cX0_init 1 := ⟨mw_1_84, mw_1_5, mw_1_85, rfl, by decide +kernel, by decide +kernel, by decide +kernel⟩
theorem hfsX1 : ∀ j, j < 3 → defaultValue (tyX1 j) = vp_V [.int 0, .int 0, .null] j
  | 0, _ => rfl
  | 1, _ => rfl
  | 2, _ => rfl
  | n + 3, h => by omega
theorem iiX1 : IInfo yX1_init cX1_init 2 := ⟨mw_1_181, mw_1_7, mw_1_182, rfl, by decide +kernel, by decide +kernel, by decide +kernel⟩
theorem hfsX2 : ∀ j, j < 5 → defaultValue (tyX2 j) = vp_V [.int 0, .null, .null, .null, .null] j
  | 0, _ => rfl
  | 1, _ => rfl
  | 2, _ => rfl
  | 3, _ => rfl
  | 4, _ => rfl
  | n + 5, h => by omega
theorem iiX2 : IInfo yX2_init cX2_init 1 := ⟨mw_1_28, mw_1_3, mw_1_29, rfl, by decide +kernel, by decide +kernel, by decide +kernel⟩
theorem hfsX3 : ∀ j, j < 9 → defaultValue (tyX3 j) = vp_V [.int 0, .int 0, .int 0, .int 0, .int 0, .int 0, .int 0, .null, .null] j
  | 0, _ => rfl
  | 1, _ => rfl
  | 2, _ => rfl
  | 3, _ => rfl
  | 4, _ => rfl
  | 5, _ => rfl
  | 6, _ => rfl
  | 7, _ => rfl
  | 8, _ => rfl
  | n + 9, h => by omega
theorem iiX3 : IInfo yX3_init cX3_init 1 := ⟨mw_1_201, mw_1_8, mw_1_202, rfl, by decide +kernel, by decide +kernel, by decide +kernel⟩
theorem hfsX4 : ∀ j, j < 3 → defaultValue (tyX4 j) = vp_V [.long 0, .null, .null] j
  | 0, _ => rfl
  | 1, _ => rfl
  | 2, _ => rfl
  | n + 3, h => by omega
theorem iiX4 : IInfo yX4_init cX4_init 1 := ⟨mw_1_124, mw_1_6, mw_1_125, rfl, by decide +kernel, by decide +kernel, by decide +kernel⟩
theorem hfsX5 : ∀ j, j < 4 → defaultValue (tyX5 j) = vp_V [.int 0, .null, .null, .null] j
  | 0, _ => rfl
  | 1, _ => rfl
  | 2, _ => rfl
  | 3, _ => rfl
  | n + 4, h => by omega
theorem iiX5 : IInfo yX5_init cX5_init 1 := ⟨mw_1_61, mw_1_4, mw_1_62, rfl, by decide +kernel, by decide +kernel, by decide +kernel⟩
theorem hfsX6 : ∀ j, j < 9 → defaultValue (tyX6 j) = vp_V [.int 0, .int 0, .int 0, .null, .null, .null, .null, .null, .null] j
  | 0, _ => rfl
  | 1, _ => rfl
  | 2, _ => rfl
  | 3, _ => rfl
  | 4, _ => rfl
  | 5, _ => rfl
  | 6, _ => rfl
  | 7, _ => rfl
  | 8, _ => rfl
  | n + 9, h => by omega
theorem iiX6 : IInfo yX6_init cX6_init 1 := ⟨mw_1_22, mw_1_2, mw_1_23, rfl, by decide +kernel, by decide +kernel, by decide +kernel⟩
theorem hfsX7 : ∀ j, j < 4 → defaultValue (tyX7 j) = vp_V [.null, .null, .null, .null] j
  | 0, _ => rfl
  | 1, _ => rfl
  | 2, _ => rfl
  | 3, _ => rfl
  | n + 4, h => by omega
theorem iiX7 : IInfo yX7_init cX7_init 1 := ⟨mw_1_14, mw_1_1, mw_1_15, rfl, by decide +kernel, by decide +kernel, by decide +kernel⟩
def lockW (K : KT) (b : Nat) : va_W := [(b, .inr (2, [.int (iI 0), .ref (b + 1), .ref (b + 2), .ref (b + 3), .ref (b + 4)])), (b + 1, .inl (K.2.1, 5, .inl (fun _ => 0))), (b + 2, .inl (K.2.1, 5, .inl (fun _ => 0))), (b + 3, .inl (K.2.1, 40, .inl (fun _ => 0))), (b + 4, .inl (K.2.1, 40, .inl (fun _ => 0)))]
theorem c_lockW (K : KT) (b : Nat) : cns b (lockW K b) := ⟨rfl, rfl, rfl, rfl, rfl, trivial⟩
theorem l_lockW (K : KT) (b : Nat) : (lockW K b).length = 5 := rfl
def sealW (K : KT) (b : Nat) : va_W := [(b, .inr (5, [.int (iI 0), .ref (b + 1), .ref (b + 2), .ref (b + 3)])), (b + 1, .inl (K.2.1, 201, .inl (fun _ => 0))), (b + 2, .inl (K.2.1, 201, .inl (fun _ => 0))), (b + 3, .inl (K.2.1, 201, .inl (fun _ => 0)))]
theorem c_sealW (K : KT) (b : Nat) : cns b (sealW K b) := ⟨rfl, rfl, rfl, rfl, trivial⟩
theorem l_sealW (K : KT) (b : Nat) : (sealW K b).length = 4 := rfl
def bondW (K : KT) (b : Nat) : va_W := [(b, .inr (0, [.int (iI 0), .long (lI 0), .ref (b + 1), .ref (b + 2), .ref (b + 3), .ref (b + 4), .ref (b + 5)])), (b + 1, .inl (K.2.1, 60, .inl (fun _ => 0))), (b + 2, .inl (K.2.1, 60, .inl (fun _ => 0))), (b + 3, .inl (K.2.1, 60, .inl (fun _ => 0))), (b + 4, .inl (K.2.1, 60, .inl (fun _ => 0))), (b + 5, .inl (K.2.1, 60, .inl (fun _ => 0)))]
theorem c_bondW (K : KT) (b : Nat) : cns b (bondW K b) := ⟨rfl, rfl, rfl, rfl, rfl, rfl, trivial⟩
theorem l_bondW (K : KT) (b : Nat) : (bondW K b).length = 6 := rfl
def relW (K : KT) (b : Nat) : va_W := [(b, .inr (4, [.long (lI 0), .ref (b + 1), .ref (b + 2)])), (b + 1, .inl (K.2.1, 32, .inl (fun _ => 0))), (b + 2, .inl (K.2.2.1, 4, .inr (.inl (fun _ => 0))))]
theorem c_relW (K : KT) (b : Nat) : cns b (relW K b) := ⟨rfl, rfl, rfl, trivial⟩
theorem l_relW (K : KT) (b : Nat) : (relW K b).length = 3 := rfl
theorem c_logW0 (K : KT) (b : Nat) : cns b (logW K b zF zF zF) := ⟨rfl, rfl, rfl, trivial⟩
theorem l_logW0 (K : KT) (b : Nat) : (logW K b zF zF zF).length = 3 := rfl
theorem ring_cns (K : KT) (r : Nat) (R : Nat → Int → Int) : cns r (ringW K r R) := cns_app2 (ship_cns K (r + 21 * 0) (R 0)) (ship_len _ _ _) (by omega : r + 21 * 0 + 21 = r + 21 * 1) (cns_app2 (ship_cns K _ _) (ship_len _ _ _) (by omega : r + 21 * 1 + 21 = r + 21 * 2) (cns_app2 (ship_cns K _ _) (ship_len _ _ _) (by omega : r + 21 * 2 + 21 = r + 21 * 3) (cns_app2 (ship_cns K _ _) (ship_len _ _ _) (by omega : r + 21 * 3 + 21 = r + 21 * 4) (ship_cns K _ _))))
theorem ring_len (K : KT) (r : Nat) (R : Nat → Int → Int) : (ringW K r R).length = 105 := len_app (ship_len _ _ _) (len_app (ship_len _ _ _) (len_app (ship_len _ _ _) (len_app (ship_len _ _ _) (ship_len _ _ _) (show 21 + 21 = 42 from rfl)) (show 21 + 42 = 63 from rfl)) (show 21 + 63 = 84 from rfl)) rfl
theorem c_hrW (K : KT) (b : Nat) : cns b (histW K b zF ++ ringW K (b + 2) (fun _ => n0F)) := cns_app2 ⟨rfl, rfl, trivial⟩ (show (histW K b zF).length = 2 from rfl) rfl (ring_cns K _ _)
theorem l_hrW (K : KT) (b : Nat) : (histW K b zF ++ ringW K (b + 2) (fun _ => n0F)).length = 107 := len_app (show (histW K b zF).length = 2 from rfl) (ring_len _ _ _) rfl
set_option maxHeartbeats 8000000 in
set_option maxRecDepth 100000 in
theorem c_X2_init (l : Launch) (K : KT) (b : Nat) : CtN l yX2_init cX2_init 1 1 20 4 90 K b [(b, .inr (2, [.int 0, .null, .null, .null, .null]))] (lockW K b) := by
  refine CtN_of (by decide) rfl (Nat.le_of_ble_eq_true rfl) ?_
  intro p e s m args below meth c T hin hr hk hz hP hK hAO ls hl
  have T : CF p m c cX2_init 1 s args RX2 := T
  have hl : lv_has ls 1 [(0, .ref b)] := hl
  obtain ⟨H, hHe⟩ : ∃ H : Heap, H = s.heap := ⟨_, rfl⟩
  have hS : va_S (fun q => b ≤ q) s.heap H [] := by rw [hHe]; exact va_S.rf
  rw [← hHe] at hP hz ⊢
  clear hHe
  refine lv_aload_n T.1 T.2.1 dX2_init_0 rfl (lv_at hl 0 rfl) ?_
  refine xn_obj T mw_1_30 hl.1 dX2_init_1 ⟨Nat.le_of_ble_eq_true rfl, Nat.le_of_ble_eq_true rfl⟩ ?_
  refine lv_aload_n T.1 T.2.1 dX2_init_4 rfl (lv_at hl 0 rfl) ?_
  refine xv_iconst T dX2_init_5 ?_
  refine xn_put T inX2 tyX2 tyX2_ok nmX2 hK hP (cns_D (show cns b ([(b, .inr (2, [.int 0, .null, .null, .null, .null]))]) from ⟨rfl, trivial⟩)) hS hz 0 rfl rfl 0 (by decide) mw_1_31 (fun _ h9 => h9) rfl (ty := .int) (by decide +kernel) rfl rfl (Nat.le_of_ble_eq_true rfl) dX2_init_6 (fun H locs hz hP hS => ?_)
  have hP : xP K ([(b, .inr (2, [.int (iI 0), .null, .null, .null, .null]))]) H := hP
  refine lv_aload_n T.1 T.2.1 dX2_init_9 rfl (lv_at hl 0 rfl) ?_
  refine xv_iconst T dX2_init_10 ?_
  refine xn_newi T hK hP hS hz (n := 5) rfl (Nat.le_of_ble_eq_true rfl) ⟨Nat.le_of_ble_eq_true rfl, Nat.le_of_ble_eq_true rfl⟩ dX2_init_11 (fun H hz hP hS => ?_)
  have hP : xP K ([(b, .inr (2, [.int (iI 0), .null, .null, .null, .null])), (b + 1, .inl (K.2.1, 5, .inl (fun _ => 0)))]) H := hP
  have hz : H.size = b + 2 := hz
  refine xn_putF T inX2 tyX2 tyX2_ok nmX2 hK hP (cns_D (show cns b ([(b, .inr (2, [.int (iI 0), .null, .null, .null, .null])), (b + 1, .inl (K.2.1, 5, .inl (fun _ => 0)))]) from ⟨rfl, rfl, trivial⟩)) hS hz 0 rfl rfl 1 (by decide) mw_1_34 (fun _ h9 => h9) rfl hin rfl (ty := .array .int) (by decide +kernel) rfl rfl (Nat.le_of_ble_eq_true rfl) dX2_init_13 (fun H locs hz hP hS => ?_)
  have hP : xP K ([(b, .inr (2, [.int (iI 0), .ref (b + 1), .null, .null, .null])), (b + 1, .inl (K.2.1, 5, .inl (fun _ => 0)))]) H := hP
  refine lv_aload_n T.1 T.2.1 dX2_init_16 rfl (lv_at hl 0 rfl) ?_
  refine xv_iconst T dX2_init_17 ?_
  refine xn_newi T hK hP hS hz (n := 5) rfl (Nat.le_of_ble_eq_true rfl) ⟨Nat.le_of_ble_eq_true rfl, Nat.le_of_ble_eq_true rfl⟩ dX2_init_18 (fun H hz hP hS => ?_)
  have hP : xP K ([(b, .inr (2, [.int (iI 0), .ref (b + 1), .null, .null, .null])), (b + 1, .inl (K.2.1, 5, .inl (fun _ => 0))), (b + 2, .inl (K.2.1, 5, .inl (fun _ => 0)))]) H := hP
  have hz : H.size = b + 3 := hz
  refine xn_putF T inX2 tyX2 tyX2_ok nmX2 hK hP (cns_D (show cns b ([(b, .inr (2, [.int (iI 0), .ref (b + 1), .null, .null, .null])), (b + 1, .inl (K.2.1, 5, .inl (fun _ => 0))), (b + 2, .inl (K.2.1, 5, .inl (fun _ => 0)))]) from ⟨rfl, rfl, rfl, trivial⟩)) hS hz 0 rfl rfl 2 (by decide) mw_1_37 (fun _ h9 => h9) rfl hin rfl (ty := .array .int) (by decide +kernel) rfl rfl (Nat.le_of_ble_eq_true rfl) dX2_init_20 (fun H locs hz hP hS => ?_)
  have hP : xP K ([(b, .inr (2, [.int (iI 0), .ref (b + 1), .ref (b + 2), .null, .null])), (b + 1, .inl (K.2.1, 5, .inl (fun _ => 0))), (b + 2, .inl (K.2.1, 5, .inl (fun _ => 0)))]) H := hP
  refine lv_aload_n T.1 T.2.1 dX2_init_23 rfl (lv_at hl 0 rfl) ?_
  refine xv_bipush T dX2_init_24 (by decide) ?_
  refine xn_newi T hK hP hS hz (n := 40) rfl (Nat.le_of_ble_eq_true rfl) ⟨Nat.le_of_ble_eq_true rfl, Nat.le_of_ble_eq_true rfl⟩ dX2_init_26 (fun H hz hP hS => ?_)
  have hP : xP K ([(b, .inr (2, [.int (iI 0), .ref (b + 1), .ref (b + 2), .null, .null])), (b + 1, .inl (K.2.1, 5, .inl (fun _ => 0))), (b + 2, .inl (K.2.1, 5, .inl (fun _ => 0))), (b + 3, .inl (K.2.1, 40, .inl (fun _ => 0)))]) H := hP
  have hz : H.size = b + 4 := hz
  refine xn_putF T inX2 tyX2 tyX2_ok nmX2 hK hP (cns_D (show cns b ([(b, .inr (2, [.int (iI 0), .ref (b + 1), .ref (b + 2), .null, .null])), (b + 1, .inl (K.2.1, 5, .inl (fun _ => 0))), (b + 2, .inl (K.2.1, 5, .inl (fun _ => 0))), (b + 3, .inl (K.2.1, 40, .inl (fun _ => 0)))]) from ⟨rfl, rfl, rfl, rfl, trivial⟩)) hS hz 0 rfl rfl 3 (by decide) mw_1_40 (fun _ h9 => h9) rfl hin rfl (ty := .array .int) (by decide +kernel) rfl rfl (Nat.le_of_ble_eq_true rfl) dX2_init_28 (fun H locs hz hP hS => ?_)
  have hP : xP K ([(b, .inr (2, [.int (iI 0), .ref (b + 1), .ref (b + 2), .ref (b + 3), .null])), (b + 1, .inl (K.2.1, 5, .inl (fun _ => 0))), (b + 2, .inl (K.2.1, 5, .inl (fun _ => 0))), (b + 3, .inl (K.2.1, 40, .inl (fun _ => 0)))]) H := hP
  refine lv_aload_n T.1 T.2.1 dX2_init_31 rfl (lv_at hl 0 rfl) ?_
  refine xv_bipush T dX2_init_32 (by decide) ?_
  refine xn_newi T hK hP hS hz (n := 40) rfl (Nat.le_of_ble_eq_true rfl) ⟨Nat.le_of_ble_eq_true rfl, Nat.le_of_ble_eq_true rfl⟩ dX2_init_34 (fun H hz hP hS => ?_)
  have hP : xP K ([(b, .inr (2, [.int (iI 0), .ref (b + 1), .ref (b + 2), .ref (b + 3), .null])), (b + 1, .inl (K.2.1, 5, .inl (fun _ => 0))), (b + 2, .inl (K.2.1, 5, .inl (fun _ => 0))), (b + 3, .inl (K.2.1, 40, .inl (fun _ => 0))), (b + 4, .inl (K.2.1, 40, .inl (fun _ => 0)))]) H := hP
  have hz : H.size = b + 5 := hz
  refine xn_putF T inX2 tyX2 tyX2_ok nmX2 hK hP (cns_D (show cns b ([(b, .inr (2, [.int (iI 0), .ref (b + 1), .ref (b + 2), .ref (b + 3), .null])), (b + 1, .inl (K.2.1, 5, .inl (fun _ => 0))), (b + 2, .inl (K.2.1, 5, .inl (fun _ => 0))), (b + 3, .inl (K.2.1, 40, .inl (fun _ => 0))), (b + 4, .inl (K.2.1, 40, .inl (fun _ => 0)))]) from ⟨rfl, rfl, rfl, rfl, rfl, trivial⟩)) hS hz 0 rfl rfl 4 (by decide) mw_1_43 (fun _ h9 => h9) rfl hin rfl (ty := .array .int) (by decide +kernel) rfl rfl (Nat.le_of_ble_eq_true rfl) dX2_init_36 (fun H locs hz hP hS => ?_)
  have hP : xP K ([(b, .inr (2, [.int (iI 0), .ref (b + 1), .ref (b + 2), .ref (b + 3), .ref (b + 4)])), (b + 1, .inl (K.2.1, 5, .inl (fun _ => 0))), (b + 2, .inl (K.2.1, 5, .inl (fun _ => 0))), (b + 3, .inl (K.2.1, 40, .inl (fun _ => 0))), (b + 4, .inl (K.2.1, 40, .inl (fun _ => 0)))]) H := hP
  exact rN T hr hk hK hz (hP) hS dX2_init_39
set_option maxHeartbeats 8000000 in
set_option maxRecDepth 100000 in
theorem c_X5_init (l : Launch) (K : KT) (b : Nat) : CtN l yX5_init cX5_init 1 1 20 3 603 K b [(b, .inr (5, [.int 0, .null, .null, .null]))] (sealW K b) := by
  refine CtN_of (by decide) rfl (Nat.le_of_ble_eq_true rfl) ?_
  intro p e s m args below meth c T hin hr hk hz hP hK hAO ls hl
  have T : CF p m c cX5_init 1 s args RX5 := T
  have hl : lv_has ls 1 [(0, .ref b)] := hl
  obtain ⟨H, hHe⟩ : ∃ H : Heap, H = s.heap := ⟨_, rfl⟩
  have hS : va_S (fun q => b ≤ q) s.heap H [] := by rw [hHe]; exact va_S.rf
  rw [← hHe] at hP hz ⊢
  clear hHe
  refine lv_aload_n T.1 T.2.1 dX5_init_0 rfl (lv_at hl 0 rfl) ?_
  refine xn_obj T mw_1_63 hl.1 dX5_init_1 ⟨Nat.le_of_ble_eq_true rfl, Nat.le_of_ble_eq_true rfl⟩ ?_
  refine lv_aload_n T.1 T.2.1 dX5_init_4 rfl (lv_at hl 0 rfl) ?_
  refine xv_iconst T dX5_init_5 ?_
  refine xn_put T inX5 tyX5 tyX5_ok nmX5 hK hP (cns_D (show cns b ([(b, .inr (5, [.int 0, .null, .null, .null]))]) from ⟨rfl, trivial⟩)) hS hz 0 rfl rfl 0 (by decide) mw_1_64 (fun _ h9 => h9) rfl (ty := .int) (by decide +kernel) rfl rfl (Nat.le_of_ble_eq_true rfl) dX5_init_6 (fun H locs hz hP hS => ?_)
  have hP : xP K ([(b, .inr (5, [.int (iI 0), .null, .null, .null]))]) H := hP
  refine lv_aload_n T.1 T.2.1 dX5_init_9 rfl (lv_at hl 0 rfl) ?_
  refine xv_sipush T dX5_init_10 (by decide) ?_
  refine xn_newi T hK hP hS hz (n := 201) rfl (Nat.le_of_ble_eq_true rfl) ⟨Nat.le_of_ble_eq_true rfl, Nat.le_of_ble_eq_true rfl⟩ dX5_init_13 (fun H hz hP hS => ?_)
  have hP : xP K ([(b, .inr (5, [.int (iI 0), .null, .null, .null])), (b + 1, .inl (K.2.1, 201, .inl (fun _ => 0)))]) H := hP
  have hz : H.size = b + 2 := hz
  refine xn_putF T inX5 tyX5 tyX5_ok nmX5 hK hP (cns_D (show cns b ([(b, .inr (5, [.int (iI 0), .null, .null, .null])), (b + 1, .inl (K.2.1, 201, .inl (fun _ => 0)))]) from ⟨rfl, rfl, trivial⟩)) hS hz 0 rfl rfl 1 (by decide) mw_1_66 (fun _ h9 => h9) rfl hin rfl (ty := .array .int) (by decide +kernel) rfl rfl (Nat.le_of_ble_eq_true rfl) dX5_init_15 (fun H locs hz hP hS => ?_)
  have hP : xP K ([(b, .inr (5, [.int (iI 0), .ref (b + 1), .null, .null])), (b + 1, .inl (K.2.1, 201, .inl (fun _ => 0)))]) H := hP
  refine lv_aload_n T.1 T.2.1 dX5_init_18 rfl (lv_at hl 0 rfl) ?_
  refine xv_sipush T dX5_init_19 (by decide) ?_
  refine xn_newi T hK hP hS hz (n := 201) rfl (Nat.le_of_ble_eq_true rfl) ⟨Nat.le_of_ble_eq_true rfl, Nat.le_of_ble_eq_true rfl⟩ dX5_init_22 (fun H hz hP hS => ?_)
  have hP : xP K ([(b, .inr (5, [.int (iI 0), .ref (b + 1), .null, .null])), (b + 1, .inl (K.2.1, 201, .inl (fun _ => 0))), (b + 2, .inl (K.2.1, 201, .inl (fun _ => 0)))]) H := hP
  have hz : H.size = b + 3 := hz
  refine xn_putF T inX5 tyX5 tyX5_ok nmX5 hK hP (cns_D (show cns b ([(b, .inr (5, [.int (iI 0), .ref (b + 1), .null, .null])), (b + 1, .inl (K.2.1, 201, .inl (fun _ => 0))), (b + 2, .inl (K.2.1, 201, .inl (fun _ => 0)))]) from ⟨rfl, rfl, rfl, trivial⟩)) hS hz 0 rfl rfl 2 (by decide) mw_1_68 (fun _ h9 => h9) rfl hin rfl (ty := .array .int) (by decide +kernel) rfl rfl (Nat.le_of_ble_eq_true rfl) dX5_init_24 (fun H locs hz hP hS => ?_)
  have hP : xP K ([(b, .inr (5, [.int (iI 0), .ref (b + 1), .ref (b + 2), .null])), (b + 1, .inl (K.2.1, 201, .inl (fun _ => 0))), (b + 2, .inl (K.2.1, 201, .inl (fun _ => 0)))]) H := hP
  refine lv_aload_n T.1 T.2.1 dX5_init_27 rfl (lv_at hl 0 rfl) ?_
  refine xv_sipush T dX5_init_28 (by decide) ?_
  refine xn_newi T hK hP hS hz (n := 201) rfl (Nat.le_of_ble_eq_true rfl) ⟨Nat.le_of_ble_eq_true rfl, Nat.le_of_ble_eq_true rfl⟩ dX5_init_31 (fun H hz hP hS => ?_)
  have hP : xP K ([(b, .inr (5, [.int (iI 0), .ref (b + 1), .ref (b + 2), .null])), (b + 1, .inl (K.2.1, 201, .inl (fun _ => 0))), (b + 2, .inl (K.2.1, 201, .inl (fun _ => 0))), (b + 3, .inl (K.2.1, 201, .inl (fun _ => 0)))]) H := hP
  have hz : H.size = b + 4 := hz
  refine xn_putF T inX5 tyX5 tyX5_ok nmX5 hK hP (cns_D (show cns b ([(b, .inr (5, [.int (iI 0), .ref (b + 1), .ref (b + 2), .null])), (b + 1, .inl (K.2.1, 201, .inl (fun _ => 0))), (b + 2, .inl (K.2.1, 201, .inl (fun _ => 0))), (b + 3, .inl (K.2.1, 201, .inl (fun _ => 0)))]) from ⟨rfl, rfl, rfl, rfl, trivial⟩)) hS hz 0 rfl rfl 3 (by decide) mw_1_70 (fun _ h9 => h9) rfl hin rfl (ty := .array .int) (by decide +kernel) rfl rfl (Nat.le_of_ble_eq_true rfl) dX5_init_33 (fun H locs hz hP hS => ?_)
  have hP : xP K ([(b, .inr (5, [.int (iI 0), .ref (b + 1), .ref (b + 2), .ref (b + 3)])), (b + 1, .inl (K.2.1, 201, .inl (fun _ => 0))), (b + 2, .inl (K.2.1, 201, .inl (fun _ => 0))), (b + 3, .inl (K.2.1, 201, .inl (fun _ => 0)))]) H := hP
  exact rN T hr hk hK hz (hP) hS dX5_init_36
set_option maxHeartbeats 8000000 in
set_option maxRecDepth 100000 in
theorem c_X0_init (l : Launch) (K : KT) (b : Nat) : CtN l yX0_init cX0_init 1 1 20 5 300 K b [(b, .inr (0, [.int 0, .long 0, .null, .null, .null, .null, .null]))] (bondW K b) := by
  refine CtN_of (by decide) rfl (Nat.le_of_ble_eq_true rfl) ?_
  intro p e s m args below meth c T hin hr hk hz hP hK hAO ls hl
  have T : CF p m c cX0_init 1 s args RX0 := T
  have hl : lv_has ls 1 [(0, .ref b)] := hl
  obtain ⟨H, hHe⟩ : ∃ H : Heap, H = s.heap := ⟨_, rfl⟩
  have hS : va_S (fun q => b ≤ q) s.heap H [] := by rw [hHe]; exact va_S.rf
  rw [← hHe] at hP hz ⊢
  clear hHe
  refine lv_aload_n T.1 T.2.1 dX0_init_0 rfl (lv_at hl 0 rfl) ?_
  refine xn_obj T mw_1_86 hl.1 dX0_init_1 ⟨Nat.le_of_ble_eq_true rfl, Nat.le_of_ble_eq_true rfl⟩ ?_
  refine lv_aload_n T.1 T.2.1 dX0_init_4 rfl (lv_at hl 0 rfl) ?_
  refine xv_iconst T dX0_init_5 ?_
  refine xn_put T inX0 tyX0 tyX0_ok nmX0 hK hP (cns_D (show cns b ([(b, .inr (0, [.int 0, .long 0, .null, .null, .null, .null, .null]))]) from ⟨rfl, trivial⟩)) hS hz 0 rfl rfl 0 (by decide) mw_1_87 (fun _ h9 => h9) rfl (ty := .int) (by decide +kernel) rfl rfl (Nat.le_of_ble_eq_true rfl) dX0_init_6 (fun H locs hz hP hS => ?_)
  have hP : xP K ([(b, .inr (0, [.int (iI 0), .long 0, .null, .null, .null, .null, .null]))]) H := hP
  refine lv_aload_n T.1 T.2.1 dX0_init_9 rfl (lv_at hl 0 rfl) ?_
  refine xv_lconst T (z := 0) dX0_init_10 rfl ?_
  refine xn_put T inX0 tyX0 tyX0_ok nmX0 hK hP (cns_D (show cns b ([(b, .inr (0, [.int (iI 0), .long 0, .null, .null, .null, .null, .null]))]) from ⟨rfl, trivial⟩)) hS hz 0 rfl rfl 1 (by decide) mw_1_90 (fun _ h9 => h9) rfl (ty := .long) (by decide +kernel) rfl rfl (Nat.le_of_ble_eq_true rfl) dX0_init_11 (fun H locs hz hP hS => ?_)
  have hP : xP K ([(b, .inr (0, [.int (iI 0), .long (lI 0), .null, .null, .null, .null, .null]))]) H := hP
  refine lv_aload_n T.1 T.2.1 dX0_init_14 rfl (lv_at hl 0 rfl) ?_
  refine xv_bipush T dX0_init_15 (by decide) ?_
  refine xn_newi T hK hP hS hz (n := 60) rfl (Nat.le_of_ble_eq_true rfl) ⟨Nat.le_of_ble_eq_true rfl, Nat.le_of_ble_eq_true rfl⟩ dX0_init_17 (fun H hz hP hS => ?_)
  have hP : xP K ([(b, .inr (0, [.int (iI 0), .long (lI 0), .null, .null, .null, .null, .null])), (b + 1, .inl (K.2.1, 60, .inl (fun _ => 0)))]) H := hP
  have hz : H.size = b + 2 := hz
  refine xn_putF T inX0 tyX0 tyX0_ok nmX0 hK hP (cns_D (show cns b ([(b, .inr (0, [.int (iI 0), .long (lI 0), .null, .null, .null, .null, .null])), (b + 1, .inl (K.2.1, 60, .inl (fun _ => 0)))]) from ⟨rfl, rfl, trivial⟩)) hS hz 0 rfl rfl 2 (by decide) mw_1_93 (fun _ h9 => h9) rfl hin rfl (ty := .array .int) (by decide +kernel) rfl rfl (Nat.le_of_ble_eq_true rfl) dX0_init_19 (fun H locs hz hP hS => ?_)
  have hP : xP K ([(b, .inr (0, [.int (iI 0), .long (lI 0), .ref (b + 1), .null, .null, .null, .null])), (b + 1, .inl (K.2.1, 60, .inl (fun _ => 0)))]) H := hP
  refine lv_aload_n T.1 T.2.1 dX0_init_22 rfl (lv_at hl 0 rfl) ?_
  refine xv_bipush T dX0_init_23 (by decide) ?_
  refine xn_newi T hK hP hS hz (n := 60) rfl (Nat.le_of_ble_eq_true rfl) ⟨Nat.le_of_ble_eq_true rfl, Nat.le_of_ble_eq_true rfl⟩ dX0_init_25 (fun H hz hP hS => ?_)
  have hP : xP K ([(b, .inr (0, [.int (iI 0), .long (lI 0), .ref (b + 1), .null, .null, .null, .null])), (b + 1, .inl (K.2.1, 60, .inl (fun _ => 0))), (b + 2, .inl (K.2.1, 60, .inl (fun _ => 0)))]) H := hP
  have hz : H.size = b + 3 := hz
  refine xn_putF T inX0 tyX0 tyX0_ok nmX0 hK hP (cns_D (show cns b ([(b, .inr (0, [.int (iI 0), .long (lI 0), .ref (b + 1), .null, .null, .null, .null])), (b + 1, .inl (K.2.1, 60, .inl (fun _ => 0))), (b + 2, .inl (K.2.1, 60, .inl (fun _ => 0)))]) from ⟨rfl, rfl, rfl, trivial⟩)) hS hz 0 rfl rfl 3 (by decide) mw_1_96 (fun _ h9 => h9) rfl hin rfl (ty := .array .int) (by decide +kernel) rfl rfl (Nat.le_of_ble_eq_true rfl) dX0_init_27 (fun H locs hz hP hS => ?_)
  have hP : xP K ([(b, .inr (0, [.int (iI 0), .long (lI 0), .ref (b + 1), .ref (b + 2), .null, .null, .null])), (b + 1, .inl (K.2.1, 60, .inl (fun _ => 0))), (b + 2, .inl (K.2.1, 60, .inl (fun _ => 0)))]) H := hP
  refine lv_aload_n T.1 T.2.1 dX0_init_30 rfl (lv_at hl 0 rfl) ?_
  refine xv_bipush T dX0_init_31 (by decide) ?_
  refine xn_newi T hK hP hS hz (n := 60) rfl (Nat.le_of_ble_eq_true rfl) ⟨Nat.le_of_ble_eq_true rfl, Nat.le_of_ble_eq_true rfl⟩ dX0_init_33 (fun H hz hP hS => ?_)
  have hP : xP K ([(b, .inr (0, [.int (iI 0), .long (lI 0), .ref (b + 1), .ref (b + 2), .null, .null, .null])), (b + 1, .inl (K.2.1, 60, .inl (fun _ => 0))), (b + 2, .inl (K.2.1, 60, .inl (fun _ => 0))), (b + 3, .inl (K.2.1, 60, .inl (fun _ => 0)))]) H := hP
  have hz : H.size = b + 4 := hz
  refine xn_putF T inX0 tyX0 tyX0_ok nmX0 hK hP (cns_D (show cns b ([(b, .inr (0, [.int (iI 0), .long (lI 0), .ref (b + 1), .ref (b + 2), .null, .null, .null])), (b + 1, .inl (K.2.1, 60, .inl (fun _ => 0))), (b + 2, .inl (K.2.1, 60, .inl (fun _ => 0))), (b + 3, .inl (K.2.1, 60, .inl (fun _ => 0)))]) from ⟨rfl, rfl, rfl, rfl, trivial⟩)) hS hz 0 rfl rfl 4 (by decide) mw_1_98 (fun _ h9 => h9) rfl hin rfl (ty := .array .int) (by decide +kernel) rfl rfl (Nat.le_of_ble_eq_true rfl) dX0_init_35 (fun H locs hz hP hS => ?_)
  have hP : xP K ([(b, .inr (0, [.int (iI 0), .long (lI 0), .ref (b + 1), .ref (b + 2), .ref (b + 3), .null, .null])), (b + 1, .inl (K.2.1, 60, .inl (fun _ => 0))), (b + 2, .inl (K.2.1, 60, .inl (fun _ => 0))), (b + 3, .inl (K.2.1, 60, .inl (fun _ => 0)))]) H := hP
  refine lv_aload_n T.1 T.2.1 dX0_init_38 rfl (lv_at hl 0 rfl) ?_
  refine xv_bipush T dX0_init_39 (by decide) ?_
  refine xn_newi T hK hP hS hz (n := 60) rfl (Nat.le_of_ble_eq_true rfl) ⟨Nat.le_of_ble_eq_true rfl, Nat.le_of_ble_eq_true rfl⟩ dX0_init_41 (fun H hz hP hS => ?_)
  have hP : xP K ([(b, .inr (0, [.int (iI 0), .long (lI 0), .ref (b + 1), .ref (b + 2), .ref (b + 3), .null, .null])), (b + 1, .inl (K.2.1, 60, .inl (fun _ => 0))), (b + 2, .inl (K.2.1, 60, .inl (fun _ => 0))), (b + 3, .inl (K.2.1, 60, .inl (fun _ => 0))), (b + 4, .inl (K.2.1, 60, .inl (fun _ => 0)))]) H := hP
  have hz : H.size = b + 5 := hz
  refine xn_putF T inX0 tyX0 tyX0_ok nmX0 hK hP (cns_D (show cns b ([(b, .inr (0, [.int (iI 0), .long (lI 0), .ref (b + 1), .ref (b + 2), .ref (b + 3), .null, .null])), (b + 1, .inl (K.2.1, 60, .inl (fun _ => 0))), (b + 2, .inl (K.2.1, 60, .inl (fun _ => 0))), (b + 3, .inl (K.2.1, 60, .inl (fun _ => 0))), (b + 4, .inl (K.2.1, 60, .inl (fun _ => 0)))]) from ⟨rfl, rfl, rfl, rfl, rfl, trivial⟩)) hS hz 0 rfl rfl 5 (by decide) mw_1_101 (fun _ h9 => h9) rfl hin rfl (ty := .array .int) (by decide +kernel) rfl rfl (Nat.le_of_ble_eq_true rfl) dX0_init_43 (fun H locs hz hP hS => ?_)
  have hP : xP K ([(b, .inr (0, [.int (iI 0), .long (lI 0), .ref (b + 1), .ref (b + 2), .ref (b + 3), .ref (b + 4), .null])), (b + 1, .inl (K.2.1, 60, .inl (fun _ => 0))), (b + 2, .inl (K.2.1, 60, .inl (fun _ => 0))), (b + 3, .inl (K.2.1, 60, .inl (fun _ => 0))), (b + 4, .inl (K.2.1, 60, .inl (fun _ => 0)))]) H := hP
  refine lv_aload_n T.1 T.2.1 dX0_init_46 rfl (lv_at hl 0 rfl) ?_
  refine xv_bipush T dX0_init_47 (by decide) ?_
  refine xn_newi T hK hP hS hz (n := 60) rfl (Nat.le_of_ble_eq_true rfl) ⟨Nat.le_of_ble_eq_true rfl, Nat.le_of_ble_eq_true rfl⟩ dX0_init_49 (fun H hz hP hS => ?_)
  have hP : xP K ([(b, .inr (0, [.int (iI 0), .long (lI 0), .ref (b + 1), .ref (b + 2), .ref (b + 3), .ref (b + 4), .null])), (b + 1, .inl (K.2.1, 60, .inl (fun _ => 0))), (b + 2, .inl (K.2.1, 60, .inl (fun _ => 0))), (b + 3, .inl (K.2.1, 60, .inl (fun _ => 0))), (b + 4, .inl (K.2.1, 60, .inl (fun _ => 0))), (b + 5, .inl (K.2.1, 60, .inl (fun _ => 0)))]) H := hP
  have hz : H.size = b + 6 := hz
  refine xn_putF T inX0 tyX0 tyX0_ok nmX0 hK hP (cns_D (show cns b ([(b, .inr (0, [.int (iI 0), .long (lI 0), .ref (b + 1), .ref (b + 2), .ref (b + 3), .ref (b + 4), .null])), (b + 1, .inl (K.2.1, 60, .inl (fun _ => 0))), (b + 2, .inl (K.2.1, 60, .inl (fun _ => 0))), (b + 3, .inl (K.2.1, 60, .inl (fun _ => 0))), (b + 4, .inl (K.2.1, 60, .inl (fun _ => 0))), (b + 5, .inl (K.2.1, 60, .inl (fun _ => 0)))]) from ⟨rfl, rfl, rfl, rfl, rfl, rfl, trivial⟩)) hS hz 0 rfl rfl 6 (by decide) mw_1_103 (fun _ h9 => h9) rfl hin rfl (ty := .array .int) (by decide +kernel) rfl rfl (Nat.le_of_ble_eq_true rfl) dX0_init_51 (fun H locs hz hP hS => ?_)
  have hP : xP K ([(b, .inr (0, [.int (iI 0), .long (lI 0), .ref (b + 1), .ref (b + 2), .ref (b + 3), .ref (b + 4), .ref (b + 5)])), (b + 1, .inl (K.2.1, 60, .inl (fun _ => 0))), (b + 2, .inl (K.2.1, 60, .inl (fun _ => 0))), (b + 3, .inl (K.2.1, 60, .inl (fun _ => 0))), (b + 4, .inl (K.2.1, 60, .inl (fun _ => 0))), (b + 5, .inl (K.2.1, 60, .inl (fun _ => 0)))]) H := hP
  exact rN T hr hk hK hz (hP) hS dX0_init_54
set_option maxHeartbeats 8000000 in
set_option maxRecDepth 100000 in
theorem c_X4_init (l : Launch) (K : KT) (b : Nat) : CtN l yX4_init cX4_init 1 1 20 2 36 K b [(b, .inr (4, [.long 0, .null, .null]))] (relW K b) := by
  refine CtN_of (by decide) rfl (Nat.le_of_ble_eq_true rfl) ?_
  intro p e s m args below meth c T hin hr hk hz hP hK hAO ls hl
  have T : CF p m c cX4_init 1 s args RX4 := T
  have hl : lv_has ls 1 [(0, .ref b)] := hl
  obtain ⟨H, hHe⟩ : ∃ H : Heap, H = s.heap := ⟨_, rfl⟩
  have hS : va_S (fun q => b ≤ q) s.heap H [] := by rw [hHe]; exact va_S.rf
  rw [← hHe] at hP hz ⊢
  clear hHe
  refine lv_aload_n T.1 T.2.1 dX4_init_0 rfl (lv_at hl 0 rfl) ?_
  refine xn_obj T mw_1_126 hl.1 dX4_init_1 ⟨Nat.le_of_ble_eq_true rfl, Nat.le_of_ble_eq_true rfl⟩ ?_
  refine lv_aload_n T.1 T.2.1 dX4_init_4 rfl (lv_at hl 0 rfl) ?_
  refine xv_lconst T (z := 0) dX4_init_5 rfl ?_
  refine xn_put T inX4 tyX4 tyX4_ok nmX4 hK hP (cns_D (show cns b ([(b, .inr (4, [.long 0, .null, .null]))]) from ⟨rfl, trivial⟩)) hS hz 0 rfl rfl 0 (by decide) mw_1_127 (fun _ h9 => h9) rfl (ty := .long) (by decide +kernel) rfl rfl (Nat.le_of_ble_eq_true rfl) dX4_init_6 (fun H locs hz hP hS => ?_)
  have hP : xP K ([(b, .inr (4, [.long (lI 0), .null, .null]))]) H := hP
  refine lv_aload_n T.1 T.2.1 dX4_init_9 rfl (lv_at hl 0 rfl) ?_
  refine xv_bipush T dX4_init_10 (by decide) ?_
  refine xn_newi T hK hP hS hz (n := 32) rfl (Nat.le_of_ble_eq_true rfl) ⟨Nat.le_of_ble_eq_true rfl, Nat.le_of_ble_eq_true rfl⟩ dX4_init_12 (fun H hz hP hS => ?_)
  have hP : xP K ([(b, .inr (4, [.long (lI 0), .null, .null])), (b + 1, .inl (K.2.1, 32, .inl (fun _ => 0)))]) H := hP
  have hz : H.size = b + 2 := hz
  refine xn_putF T inX4 tyX4 tyX4_ok nmX4 hK hP (cns_D (show cns b ([(b, .inr (4, [.long (lI 0), .null, .null])), (b + 1, .inl (K.2.1, 32, .inl (fun _ => 0)))]) from ⟨rfl, rfl, trivial⟩)) hS hz 0 rfl rfl 1 (by decide) mw_1_130 (fun _ h9 => h9) rfl hin rfl (ty := .array .int) (by decide +kernel) rfl rfl (Nat.le_of_ble_eq_true rfl) dX4_init_14 (fun H locs hz hP hS => ?_)
  have hP : xP K ([(b, .inr (4, [.long (lI 0), .ref (b + 1), .null])), (b + 1, .inl (K.2.1, 32, .inl (fun _ => 0)))]) H := hP
  refine lv_aload_n T.1 T.2.1 dX4_init_17 rfl (lv_at hl 0 rfl) ?_
  refine xv_iconst T dX4_init_18 ?_
  refine xn_newl T hK hP hS hz (n := 4) rfl (Nat.le_of_ble_eq_true rfl) ⟨Nat.le_of_ble_eq_true rfl, Nat.le_of_ble_eq_true rfl⟩ dX4_init_19 (fun H hz hP hS => ?_)
  have hP : xP K ([(b, .inr (4, [.long (lI 0), .ref (b + 1), .null])), (b + 1, .inl (K.2.1, 32, .inl (fun _ => 0))), (b + 2, .inl (K.2.2.1, 4, .inr (.inl (fun _ => 0))))]) H := hP
  have hz : H.size = b + 3 := hz
  refine xn_putF T inX4 tyX4 tyX4_ok nmX4 hK hP (cns_D (show cns b ([(b, .inr (4, [.long (lI 0), .ref (b + 1), .null])), (b + 1, .inl (K.2.1, 32, .inl (fun _ => 0))), (b + 2, .inl (K.2.2.1, 4, .inr (.inl (fun _ => 0))))]) from ⟨rfl, rfl, rfl, trivial⟩)) hS hz 0 rfl rfl 2 (by decide) mw_1_132 (fun _ h9 => h9) rfl hin rfl (ty := .array .long) (by decide +kernel) rfl rfl (Nat.le_of_ble_eq_true rfl) dX4_init_21 (fun H locs hz hP hS => ?_)
  have hP : xP K ([(b, .inr (4, [.long (lI 0), .ref (b + 1), .ref (b + 2)])), (b + 1, .inl (K.2.1, 32, .inl (fun _ => 0))), (b + 2, .inl (K.2.2.1, 4, .inr (.inl (fun _ => 0))))]) H := hP
  exact rN T hr hk hK hz (hP) hS dX4_init_24
