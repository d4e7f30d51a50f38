set_option maxHeartbeats 8000000 in
set_option maxRecDepth 100000 in
theorem c_X6_init (l : Launch) (K : KT) (b : Nat) : CtN l yX6_init cX6_init 1 2 40 20 1058 K b [(b, .inr (6, [.int 0, .int 0, .int 0, .null, .null, .null, .null, .null, .null]))] (shipW K b n0F) := by
  refine CtN_of (by decide) rfl (Nat.le_of_ble_eq_true rfl) ?_
  intro p e s m args below meth c T hin hr hk hz hP hK hAO ls hl
  have T : CF p m c cX6_init 1 s args RX6 := T
  have hl : lv_has ls 1 [(0, .ref b)] := hl
  obtain ⟨H, hHe⟩ : ∃ H : Heap, H = s.heap := ⟨_, rfl⟩
  have hS : va_S (fun q => b ≤ q) s.heap H [] := by rw [hHe]; exact va_S.rf
  rw [← hHe] at hP hz ⊢
  clear hHe
  refine lv_aload_n T.1 T.2.1 dX6_init_0 rfl (lv_at hl 0 rfl) ?_
  refine xn_obj T mw_1_25 hl.1 dX6_init_1 ⟨Nat.le_of_ble_eq_true rfl, Nat.le_of_ble_eq_true rfl⟩ ?_
  refine lv_aload_n T.1 T.2.1 dX6_init_4 rfl (lv_at hl 0 rfl) ?_
  refine xv_iconst T dX6_init_5 ?_
  refine xn_put T inX6 tyX6 tyX6_ok nmX6 hK hP (cns_D (show cns b ([(b, .inr (6, [.int 0, .int 0, .int 0, .null, .null, .null, .null, .null, .null]))]) from ⟨rfl, trivial⟩)) hS hz 0 rfl rfl 0 (by decide) mw_1_144 (fun _ h9 => h9) rfl (ty := .int) (by decide +kernel) rfl rfl (Nat.le_of_ble_eq_true rfl) dX6_init_6 (fun H locs hz hP hS => ?_)
  have hP : xP K ([(b, .inr (6, [.int (iI 2), .int 0, .int 0, .null, .null, .null, .null, .null, .null]))]) H := hP
  refine lv_aload_n T.1 T.2.1 dX6_init_9 rfl (lv_at hl 0 rfl) ?_
  refine xv_iconst T dX6_init_10 ?_
  refine xn_put T inX6 tyX6 tyX6_ok nmX6 hK hP (cns_D (show cns b ([(b, .inr (6, [.int (iI 2), .int 0, .int 0, .null, .null, .null, .null, .null, .null]))]) from ⟨rfl, trivial⟩)) hS hz 0 rfl rfl 1 (by decide) mw_1_146 (fun _ h9 => h9) rfl (ty := .int) (by decide +kernel) rfl rfl (Nat.le_of_ble_eq_true rfl) dX6_init_11 (fun H locs hz hP hS => ?_)
  have hP : xP K ([(b, .inr (6, [.int (iI 2), .int (iI 0), .int 0, .null, .null, .null, .null, .null, .null]))]) H := hP
  refine lv_aload_n T.1 T.2.1 dX6_init_14 rfl (lv_at hl 0 rfl) ?_
  refine xv_iconst T dX6_init_15 ?_
  refine xn_put T inX6 tyX6 tyX6_ok nmX6 hK hP (cns_D (show cns b ([(b, .inr (6, [.int (iI 2), .int (iI 0), .int 0, .null, .null, .null, .null, .null, .null]))]) from ⟨rfl, trivial⟩)) hS hz 0 rfl rfl 2 (by decide) mw_1_148 (fun _ h9 => h9) rfl (ty := .int) (by decide +kernel) rfl rfl (Nat.le_of_ble_eq_true rfl) dX6_init_16 (fun H locs hz hP hS => ?_)
  have hP : xP K ([(b, .inr (6, [.int (iI 2), .int (iI 0), .int (iI 0), .null, .null, .null, .null, .null, .null]))]) H := hP
  refine lv_aload_n T.1 T.2.1 dX6_init_19 rfl (lv_at hl 0 rfl) ?_
  refine xv_bipush T dX6_init_20 (by omega) ?_
  refine xn_newi T hK hP hS hz (n := 8) rfl (by omega) ⟨(by show _ ≤ 20; omega), (by show _ ≤ 1058; omega)⟩ dX6_init_22 (fun H hz hP hS => ?_)
  have hP : xP K ([(b, .inr (6, [.int (iI 2), .int (iI 0), .int (iI 0), .null, .null, .null, .null, .null, .null])), (b + 1, .inl (K.2.1, 8, .inl (fun _ => 0)))]) H := hP
  have hz : H.size = b + 2 := hz
  refine xn_putF T inX6 tyX6 tyX6_ok nmX6 hK hP (cns_D (show cns b ([(b, .inr (6, [.int (iI 2), .int (iI 0), .int (iI 0), .null, .null, .null, .null, .null, .null])), (b + 1, .inl (K.2.1, 8, .inl (fun _ => 0)))]) from ⟨rfl, rfl, trivial⟩)) hS hz 0 rfl rfl 3 (by decide) mw_1_150 (fun _ h9 => h9) rfl hin rfl (ty := .array .int) (by decide +kernel) rfl rfl (Nat.le_of_ble_eq_true rfl) dX6_init_24 (fun H locs hz hP hS => ?_)
  have hP : xP K ([(b, .inr (6, [.int (iI 2), .int (iI 0), .int (iI 0), .ref (b + 1), .null, .null, .null, .null, .null])), (b + 1, .inl (K.2.1, 8, .inl (fun _ => 0)))]) H := hP
  refine lv_aload_n T.1 T.2.1 dX6_init_27 rfl (lv_at hl 0 rfl) ?_
  refine xv_iconst T dX6_init_28 ?_
  refine xn_newi T hK hP hS hz (n := 2) rfl (by omega) ⟨(by show _ ≤ 20; omega), (by show _ ≤ 1058; omega)⟩ dX6_init_29 (fun H hz hP hS => ?_)
  have hP : xP K ([(b, .inr (6, [.int (iI 2), .int (iI 0), .int (iI 0), .ref (b + 1), .null, .null, .null, .null, .null])), (b + 1, .inl (K.2.1, 8, .inl (fun _ => 0))), (b + 2, .inl (K.2.1, 2, .inl (fun _ => 0)))]) H := hP
  have hz : H.size = b + 3 := hz
  refine xn_putF T inX6 tyX6 tyX6_ok nmX6 hK hP (cns_D (show cns b ([(b, .inr (6, [.int (iI 2), .int (iI 0), .int (iI 0), .ref (b + 1), .null, .null, .null, .null, .null])), (b + 1, .inl (K.2.1, 8, .inl (fun _ => 0))), (b + 2, .inl (K.2.1, 2, .inl (fun _ => 0)))]) from ⟨rfl, rfl, rfl, trivial⟩)) hS hz 0 rfl rfl 4 (by decide) mw_1_151 (fun _ h9 => h9) rfl hin rfl (ty := .array .int) (by decide +kernel) rfl rfl (Nat.le_of_ble_eq_true rfl) dX6_init_31 (fun H locs hz hP hS => ?_)
  have hP : xP K ([(b, .inr (6, [.int (iI 2), .int (iI 0), .int (iI 0), .ref (b + 1), .ref (b + 2), .null, .null, .null, .null])), (b + 1, .inl (K.2.1, 8, .inl (fun _ => 0))), (b + 2, .inl (K.2.1, 2, .inl (fun _ => 0)))]) H := hP
  refine lv_aload_n T.1 T.2.1 dX6_init_34 rfl (lv_at hl 0 rfl) ?_
  refine g6_settings T hK hP 0 rfl rfl mw_1_151 dX6_init_35 ?_
  refine xv_iconst T dX6_init_38 ?_
  refine xv_sipush T dX6_init_39 (by omega) ?_
  refine xn_iast T hK hP (cns_D (show cns b ([(b, .inr (6, [.int (iI 2), .int (iI 0), .int (iI 0), .ref (b + 1), .ref (b + 2), .null, .null, .null, .null])), (b + 1, .inl (K.2.1, 8, .inl (fun _ => 0))), (b + 2, .inl (K.2.1, 2, .inl (fun _ => 0)))]) from ⟨rfl, rfl, rfl, trivial⟩)) hS hz 2 rfl (by omega) (by decide) dX6_init_42 (fun H locs hz hP hS => ?_)
  have hP : xP K ([(b, .inr (6, [.int (iI 2), .int (iI 0), .int (iI 0), .ref (b + 1), .ref (b + 2), .null, .null, .null, .null])), (b + 1, .inl (K.2.1, 8, .inl (fun _ => 0))), (b + 2, .inl (K.2.1, 2, .inl (upd (fun _ => 0) (0 : Int).toNat (iI 5000))))]) H := hP
  refine lv_aload_n T.1 T.2.1 dX6_init_43 rfl (lv_at hl 0 rfl) ?_
  refine g6_settings T hK hP 0 rfl rfl mw_1_151 dX6_init_44 ?_
  refine xv_iconst T dX6_init_47 ?_
  refine xv_bipush T dX6_init_48 (by omega) ?_
  refine xn_iast T hK hP (cns_D (show cns b ([(b, .inr (6, [.int (iI 2), .int (iI 0), .int (iI 0), .ref (b + 1), .ref (b + 2), .null, .null, .null, .null])), (b + 1, .inl (K.2.1, 8, .inl (fun _ => 0))), (b + 2, .inl (K.2.1, 2, .inl (upd (fun _ => 0) (0 : Int).toNat (iI 5000))))]) from ⟨rfl, rfl, rfl, trivial⟩)) hS hz 2 rfl (by omega) (by decide) dX6_init_50 (fun H locs hz hP hS => ?_)
  have hP : xP K ([(b, .inr (6, [.int (iI 2), .int (iI 0), .int (iI 0), .ref (b + 1), .ref (b + 2), .null, .null, .null, .null])), (b + 1, .inl (K.2.1, 8, .inl (fun _ => 0))), (b + 2, .inl (K.2.1, 2, .inl (upd (upd (fun _ => 0) (0 : Int).toNat (iI 5000)) (1 : Int).toNat (iI 30))))]) H := hP
  refine lv_aload_n T.1 T.2.1 dX6_init_51 rfl (lv_at hl 0 rfl) ?_
  refine xn_new (ci := 2) T hK hP hS hz inX2 tyX2 tyX2_ok mw_1_26 mw_1_27 mw_1_3 rfl (fs := [.int 0, .null, .null, .null, .null]) hfsX2 ⟨(by show _ ≤ 20; omega), (by show _ ≤ 1058; omega)⟩ dX6_init_52 (fun H hz hP hS => ?_)
  have hz : H.size = b + 4 := hz
  refine lv_dup T.1 T.2.1 dX6_init_55 rfl ?_
  refine cN T hAO hK hS (c_X2_init l K (b + 3)) iiX2 mw_1_28 ⟨Nat.le_of_ble_eq_true rfl, Nat.le_of_ble_eq_true rfl⟩ hz (xP_r hP) (fun q h => by omega) hl.1 (Nat.le_of_ble_eq_true rfl) ⟨(by show _ ≤ 20; omega), (by show _ ≤ 1058; omega)⟩ dX6_init_56 (fun H1 locs hz1 hP1 hkp hS => ?_)
  have hC := (show cns b ([(b, .inr (6, [.int (iI 2), .int (iI 0), .int (iI 0), .ref (b + 1), .ref (b + 2), .null, .null, .null, .null])), (b + 1, .inl (K.2.1, 8, .inl (fun _ => 0))), (b + 2, .inl (K.2.1, 2, .inl (upd (upd (fun _ => 0) (0 : Int).toNat (iI 5000)) (1 : Int).toNat (iI 30))))]) from ⟨rfl, rfl, rfl, trivial⟩)
  have hP0 : xP K ([(b, .inr (6, [.int (iI 2), .int (iI 0), .int (iI 0), .ref (b + 1), .ref (b + 2), .null, .null, .null, .null])), (b + 1, .inl (K.2.1, 8, .inl (fun _ => 0))), (b + 2, .inl (K.2.1, 2, .inl (upd (upd (fun _ => 0) (0 : Int).toNat (iI 5000)) (1 : Int).toNat (iI 30))))]) H1 := ini_keep hP hC (show ([(b, .inr (6, [.int (iI 2), .int (iI 0), .int (iI 0), .ref (b + 1), .ref (b + 2), .null, .null, .null, .null])), (b + 1, .inl (K.2.1, 8, .inl (fun _ => 0))), (b + 2, .inl (K.2.1, 2, .inl (upd (upd (fun _ => 0) (0 : Int).toNat (iI 5000)) (1 : Int).toNat (iI 30))))] : va_W).length = 3 from rfl) (by omega) hkp
  have hP : xP K ([(b, .inr (6, [.int (iI 2), .int (iI 0), .int (iI 0), .ref (b + 1), .ref (b + 2), .null, .null, .null, .null])), (b + 1, .inl (K.2.1, 8, .inl (fun _ => 0))), (b + 2, .inl (K.2.1, 2, .inl (upd (upd (fun _ => 0) (0 : Int).toNat (iI 5000)) (1 : Int).toNat (iI 30))))] ++ lockW K (b + 3)) H1 := xP_app hP0 hP1
  have hz : H1.size = b + 8 := hz1
  clear hkp hP0 hP1 hz1 hC
  generalize H1 = H at hP hS hz ⊢
  refine xn_putF T inX6 tyX6 tyX6_ok nmX6 hK hP (cns_D (show cns b ([(b, .inr (6, [.int (iI 2), .int (iI 0), .int (iI 0), .ref (b + 1), .ref (b + 2), .null, .null, .null, .null])), (b + 1, .inl (K.2.1, 8, .inl (fun _ => 0))), (b + 2, .inl (K.2.1, 2, .inl (upd (upd (fun _ => 0) (0 : Int).toNat (iI 5000)) (1 : Int).toNat (iI 30))))] ++ lockW K (b + 3)) from cns_app2 ⟨rfl, rfl, rfl, trivial⟩ (show ([(b, .inr (6, [.int (iI 2), .int (iI 0), .int (iI 0), .ref (b + 1), .ref (b + 2), .null, .null, .null, .null])), (b + 1, .inl (K.2.1, 8, .inl (fun _ => 0))), (b + 2, .inl (K.2.1, 2, .inl (upd (upd (fun _ => 0) (0 : Int).toNat (iI 5000)) (1 : Int).toNat (iI 30))))] : va_W).length = 3 from rfl) rfl (c_lockW K (b + 3)))) hS hz 0 rfl rfl 5 (by decide) mw_1_153 (fun _ h9 => h9) rfl hin rfl (ty := .object "SealedStores$Lockers") (by decide +kernel) rfl rfl (Nat.le_of_ble_eq_true rfl) dX6_init_59 (fun H locs hz hP hS => ?_)
  have hP := two_set hP (Nat.le_of_ble_eq_true rfl)
  have hP : xP K ([(b, .inr (6, [.int (iI 2), .int (iI 0), .int (iI 0), .ref (b + 1), .ref (b + 2), .ref (b + 3), .null, .null, .null])), (b + 1, .inl (K.2.1, 8, .inl (fun _ => 0))), (b + 2, .inl (K.2.1, 2, .inl (upd (upd (fun _ => 0) (0 : Int).toNat (iI 5000)) (1 : Int).toNat (iI 30))))] ++ lockW K (b + 3)) H := hP
  refine lv_aload_n T.1 T.2.1 dX6_init_62 rfl (lv_at hl 0 rfl) ?_
  refine xn_new (ci := 5) T hK hP hS hz inX5 tyX5 tyX5_ok mw_1_59 mw_1_60 mw_1_4 rfl (fs := [.int 0, .null, .null, .null]) hfsX5 ⟨(by show _ ≤ 20; omega), (by show _ ≤ 1058; omega)⟩ dX6_init_63 (fun H hz hP hS => ?_)
  have hz : H.size = b + 9 := hz
  refine lv_dup T.1 T.2.1 dX6_init_66 rfl ?_
  refine cN T hAO hK hS (c_X5_init l K (b + 8)) iiX5 mw_1_61 ⟨Nat.le_of_ble_eq_true rfl, Nat.le_of_ble_eq_true rfl⟩ hz (xP_r hP) (fun q h => by omega) hl.1 (Nat.le_of_ble_eq_true rfl) ⟨(by show _ ≤ 20; omega), (by show _ ≤ 1058; omega)⟩ dX6_init_67 (fun H1 locs hz1 hP1 hkp hS => ?_)
  have hC := (show cns b ([(b, .inr (6, [.int (iI 2), .int (iI 0), .int (iI 0), .ref (b + 1), .ref (b + 2), .ref (b + 3), .null, .null, .null])), (b + 1, .inl (K.2.1, 8, .inl (fun _ => 0))), (b + 2, .inl (K.2.1, 2, .inl (upd (upd (fun _ => 0) (0 : Int).toNat (iI 5000)) (1 : Int).toNat (iI 30))))] ++ lockW K (b + 3)) from cns_app2 ⟨rfl, rfl, rfl, trivial⟩ (show ([(b, .inr (6, [.int (iI 2), .int (iI 0), .int (iI 0), .ref (b + 1), .ref (b + 2), .ref (b + 3), .null, .null, .null])), (b + 1, .inl (K.2.1, 8, .inl (fun _ => 0))), (b + 2, .inl (K.2.1, 2, .inl (upd (upd (fun _ => 0) (0 : Int).toNat (iI 5000)) (1 : Int).toNat (iI 30))))] : va_W).length = 3 from rfl) rfl (c_lockW K (b + 3)))
  have hP0 : xP K ([(b, .inr (6, [.int (iI 2), .int (iI 0), .int (iI 0), .ref (b + 1), .ref (b + 2), .ref (b + 3), .null, .null, .null])), (b + 1, .inl (K.2.1, 8, .inl (fun _ => 0))), (b + 2, .inl (K.2.1, 2, .inl (upd (upd (fun _ => 0) (0 : Int).toNat (iI 5000)) (1 : Int).toNat (iI 30))))] ++ lockW K (b + 3)) H1 := ini_keep hP hC (len_app (show ([(b, .inr (6, [.int (iI 2), .int (iI 0), .int (iI 0), .ref (b + 1), .ref (b + 2), .ref (b + 3), .null, .null, .null])), (b + 1, .inl (K.2.1, 8, .inl (fun _ => 0))), (b + 2, .inl (K.2.1, 2, .inl (upd (upd (fun _ => 0) (0 : Int).toNat (iI 5000)) (1 : Int).toNat (iI 30))))] : va_W).length = 3 from rfl) (l_lockW K (b + 3)) (show 3 + 5 = 8 from rfl)) (by omega) hkp
  have hP : xP K ([(b, .inr (6, [.int (iI 2), .int (iI 0), .int (iI 0), .ref (b + 1), .ref (b + 2), .ref (b + 3), .null, .null, .null])), (b + 1, .inl (K.2.1, 8, .inl (fun _ => 0))), (b + 2, .inl (K.2.1, 2, .inl (upd (upd (fun _ => 0) (0 : Int).toNat (iI 5000)) (1 : Int).toNat (iI 30))))] ++ (lockW K (b + 3) ++ sealW K (b + 8))) H1 := xP_app (xP_l hP0) (xP_app (xP_r hP0) hP1)
  have hz : H1.size = b + 12 := hz1
  clear hkp hP0 hP1 hz1 hC
  generalize H1 = H at hP hS hz ⊢
  refine xn_putF T inX6 tyX6 tyX6_ok nmX6 hK hP (cns_D (show cns b ([(b, .inr (6, [.int (iI 2), .int (iI 0), .int (iI 0), .ref (b + 1), .ref (b + 2), .ref (b + 3), .null, .null, .null])), (b + 1, .inl (K.2.1, 8, .inl (fun _ => 0))), (b + 2, .inl (K.2.1, 2, .inl (upd (upd (fun _ => 0) (0 : Int).toNat (iI 5000)) (1 : Int).toNat (iI 30))))] ++ (lockW K (b + 3) ++ sealW K (b + 8))) from cns_app2 ⟨rfl, rfl, rfl, trivial⟩ (show ([(b, .inr (6, [.int (iI 2), .int (iI 0), .int (iI 0), .ref (b + 1), .ref (b + 2), .ref (b + 3), .null, .null, .null])), (b + 1, .inl (K.2.1, 8, .inl (fun _ => 0))), (b + 2, .inl (K.2.1, 2, .inl (upd (upd (fun _ => 0) (0 : Int).toNat (iI 5000)) (1 : Int).toNat (iI 30))))] : va_W).length = 3 from rfl) rfl (cns_app2 (c_lockW K (b + 3)) (l_lockW K (b + 3)) (by omega : b + 3 + 5 = b + 8) (c_sealW K (b + 8))))) hS hz 0 rfl rfl 6 (by decide) mw_1_155 (fun _ h9 => h9) rfl hin rfl (ty := .object "SealedStores$Seals") (by decide +kernel) rfl rfl (Nat.le_of_ble_eq_true rfl) dX6_init_70 (fun H locs hz hP hS => ?_)
  have hP := two_set hP (Nat.le_of_ble_eq_true rfl)
  have hP : xP K ([(b, .inr (6, [.int (iI 2), .int (iI 0), .int (iI 0), .ref (b + 1), .ref (b + 2), .ref (b + 3), .ref (b + 8), .null, .null])), (b + 1, .inl (K.2.1, 8, .inl (fun _ => 0))), (b + 2, .inl (K.2.1, 2, .inl (upd (upd (fun _ => 0) (0 : Int).toNat (iI 5000)) (1 : Int).toNat (iI 30))))] ++ (lockW K (b + 3) ++ sealW K (b + 8))) H := hP
  refine lv_aload_n T.1 T.2.1 dX6_init_73 rfl (lv_at hl 0 rfl) ?_
  refine xn_new (ci := 0) T hK hP hS hz inX0 tyX0 tyX0_ok mw_1_83 mw_1_84 mw_1_5 rfl (fs := [.int 0, .long 0, .null, .null, .null, .null, .null]) hfsX0 ⟨(by show _ ≤ 20; omega), (by show _ ≤ 1058; omega)⟩ dX6_init_74 (fun H hz hP hS => ?_)
  have hz : H.size = b + 13 := hz
  refine lv_dup T.1 T.2.1 dX6_init_77 rfl ?_
  refine cN T hAO hK hS (c_X0_init l K (b + 12)) iiX0 mw_1_85 ⟨Nat.le_of_ble_eq_true rfl, Nat.le_of_ble_eq_true rfl⟩ hz (xP_r hP) (fun q h => by omega) hl.1 (Nat.le_of_ble_eq_true rfl) ⟨(by show _ ≤ 20; omega), (by show _ ≤ 1058; omega)⟩ dX6_init_78 (fun H1 locs hz1 hP1 hkp hS => ?_)
  have hC := (show cns b ([(b, .inr (6, [.int (iI 2), .int (iI 0), .int (iI 0), .ref (b + 1), .ref (b + 2), .ref (b + 3), .ref (b + 8), .null, .null])), (b + 1, .inl (K.2.1, 8, .inl (fun _ => 0))), (b + 2, .inl (K.2.1, 2, .inl (upd (upd (fun _ => 0) (0 : Int).toNat (iI 5000)) (1 : Int).toNat (iI 30))))] ++ (lockW K (b + 3) ++ sealW K (b + 8))) from cns_app2 ⟨rfl, rfl, rfl, trivial⟩ (show ([(b, .inr (6, [.int (iI 2), .int (iI 0), .int (iI 0), .ref (b + 1), .ref (b + 2), .ref (b + 3), .ref (b + 8), .null, .null])), (b + 1, .inl (K.2.1, 8, .inl (fun _ => 0))), (b + 2, .inl (K.2.1, 2, .inl (upd (upd (fun _ => 0) (0 : Int).toNat (iI 5000)) (1 : Int).toNat (iI 30))))] : va_W).length = 3 from rfl) rfl (cns_app2 (c_lockW K (b + 3)) (l_lockW K (b + 3)) (by omega : b + 3 + 5 = b + 8) (c_sealW K (b + 8))))
  have hP0 : xP K ([(b, .inr (6, [.int (iI 2), .int (iI 0), .int (iI 0), .ref (b + 1), .ref (b + 2), .ref (b + 3), .ref (b + 8), .null, .null])), (b + 1, .inl (K.2.1, 8, .inl (fun _ => 0))), (b + 2, .inl (K.2.1, 2, .inl (upd (upd (fun _ => 0) (0 : Int).toNat (iI 5000)) (1 : Int).toNat (iI 30))))] ++ (lockW K (b + 3) ++ sealW K (b + 8))) H1 := ini_keep hP hC (len_app (show ([(b, .inr (6, [.int (iI 2), .int (iI 0), .int (iI 0), .ref (b + 1), .ref (b + 2), .ref (b + 3), .ref (b + 8), .null, .null])), (b + 1, .inl (K.2.1, 8, .inl (fun _ => 0))), (b + 2, .inl (K.2.1, 2, .inl (upd (upd (fun _ => 0) (0 : Int).toNat (iI 5000)) (1 : Int).toNat (iI 30))))] : va_W).length = 3 from rfl) (len_app (l_lockW K (b + 3)) (l_sealW K (b + 8)) (show 5 + 4 = 9 from rfl)) (show 3 + 9 = 12 from rfl)) (by omega) hkp
  have hP : xP K ([(b, .inr (6, [.int (iI 2), .int (iI 0), .int (iI 0), .ref (b + 1), .ref (b + 2), .ref (b + 3), .ref (b + 8), .null, .null])), (b + 1, .inl (K.2.1, 8, .inl (fun _ => 0))), (b + 2, .inl (K.2.1, 2, .inl (upd (upd (fun _ => 0) (0 : Int).toNat (iI 5000)) (1 : Int).toNat (iI 30))))] ++ ((lockW K (b + 3) ++ sealW K (b + 8)) ++ bondW K (b + 12))) H1 := xP_app (xP_l hP0) (xP_app (xP_r hP0) hP1)
  have hz : H1.size = b + 18 := hz1
  clear hkp hP0 hP1 hz1 hC
  generalize H1 = H at hP hS hz ⊢
  refine xn_putF T inX6 tyX6 tyX6_ok nmX6 hK hP (cns_D (show cns b ([(b, .inr (6, [.int (iI 2), .int (iI 0), .int (iI 0), .ref (b + 1), .ref (b + 2), .ref (b + 3), .ref (b + 8), .null, .null])), (b + 1, .inl (K.2.1, 8, .inl (fun _ => 0))), (b + 2, .inl (K.2.1, 2, .inl (upd (upd (fun _ => 0) (0 : Int).toNat (iI 5000)) (1 : Int).toNat (iI 30))))] ++ ((lockW K (b + 3) ++ sealW K (b + 8)) ++ bondW K (b + 12))) from cns_app2 ⟨rfl, rfl, rfl, trivial⟩ (show ([(b, .inr (6, [.int (iI 2), .int (iI 0), .int (iI 0), .ref (b + 1), .ref (b + 2), .ref (b + 3), .ref (b + 8), .null, .null])), (b + 1, .inl (K.2.1, 8, .inl (fun _ => 0))), (b + 2, .inl (K.2.1, 2, .inl (upd (upd (fun _ => 0) (0 : Int).toNat (iI 5000)) (1 : Int).toNat (iI 30))))] : va_W).length = 3 from rfl) rfl (cns_app2 (cns_app2 (c_lockW K (b + 3)) (l_lockW K (b + 3)) (by omega : b + 3 + 5 = b + 8) (c_sealW K (b + 8))) (len_app (l_lockW K (b + 3)) (l_sealW K (b + 8)) (show 5 + 4 = 9 from rfl)) (by omega : b + 3 + 9 = b + 12) (c_bondW K (b + 12))))) hS hz 0 rfl rfl 7 (by decide) mw_1_157 (fun _ h9 => h9) rfl hin rfl (ty := .object "SealedStores$Bonds") (by decide +kernel) rfl rfl (Nat.le_of_ble_eq_true rfl) dX6_init_81 (fun H locs hz hP hS => ?_)
  have hP := two_set hP (Nat.le_of_ble_eq_true rfl)
  sorry
