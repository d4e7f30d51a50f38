set_option maxHeartbeats 8000000 in
set_option maxRecDepth 100000 in
theorem c_X7_init (l : Launch) (K : KT) (b : Nat) : CtN l yX7_init cX7_init 1 4 81 152 7570 K b [(b, .inr (7, [.null, .null, .null, .null]))] (xW K b n0F n0F (fun _ => n0F) zF zF zF zF) := by
  refine CtN_of (by decide) rfl (Nat.le_of_ble_eq_true rfl) ?_
  intro p e s m args below meth c T hin hr hk hz hP hK hAO ls hl
  have T : CF p m c cX7_init 1 s args RX7 := T
  have hl : lv_has ls 1 [(0, .ref b)] := hl
  obtain ⟨H, hHe⟩ : ∃ H : Heap, H = s.heap := ⟨_, rfl⟩
  have hS : va_S (fun q => b ≤ q) s.heap H [] := by rw [hHe]; exact va_S.rf
  rw [← hHe] at hP hz ⊢
  clear hHe
  refine lv_aload_n T.1 T.2.1 dX7_init_0 rfl (lv_at hl 0 rfl) ?_
  refine xn_obj T mw_1_16 hl.1 dX7_init_1 ⟨Nat.le_of_ble_eq_true rfl, Nat.le_of_ble_eq_true rfl⟩ ?_
  refine lv_aload_n T.1 T.2.1 dX7_init_4 rfl (lv_at hl 0 rfl) ?_
  refine xn_new (ci := 6) T hK hP hS hz inX6 tyX6 tyX6_ok mw_1_19 mw_1_20 mw_1_2 rfl (fs := [.int 0, .int 0, .int 0, .null, .null, .null, .null, .null, .null]) hfsX6 ⟨Nat.le_of_ble_eq_true rfl, Nat.le_of_ble_eq_true rfl⟩ dX7_init_5 (fun H hz hP hS => ?_)
  have hz : H.size = b + 2 := hz
  refine lv_dup T.1 T.2.1 dX7_init_8 rfl ?_
  refine cN T hAO hK hS (c_X6_init l K (b + 1)) iiX6 mw_1_21 ⟨Nat.le_of_ble_eq_true rfl, Nat.le_of_ble_eq_true rfl⟩ hz (xP_r hP) (fun q h => Nat.le_trans (Nat.le_add_right b 1) h) hl.1 (Nat.le_of_ble_eq_true rfl) ⟨Nat.le_of_ble_eq_true rfl, Nat.le_of_ble_eq_true rfl⟩ dX7_init_9 (fun H1 locs hz1 hP1 hkp hS => ?_)
  have hC := (show cns b ([(b, .inr (7, [.null, .null, .null, .null]))]) from ⟨rfl, trivial⟩)
  have hP0 : xP K ([(b, .inr (7, [.null, .null, .null, .null]))]) H1 := ini_keep hP hC (show ([(b, .inr (7, [.null, .null, .null, .null]))] : va_W).length = 1 from rfl) (Nat.le_refl _) hkp
  have hP : xP K ([(b, .inr (7, [.null, .null, .null, .null]))] ++ shipW K (b + 1) n0F) H1 := xP_app hP0 hP1
  have hz : H1.size = b + 22 := hz1
  clear hkp hP0 hP1 hz1 hC
  generalize H1 = H at hP hS hz ⊢
  refine xn_putF T inX7 tyX7 tyX7_ok nmX7 hK hP (cns_D (show cns b ([(b, .inr (7, [.null, .null, .null, .null]))] ++ shipW K (b + 1) n0F) from cns_app2 ⟨rfl, trivial⟩ (show ([(b, .inr (7, [.null, .null, .null, .null]))] : va_W).length = 1 from rfl) rfl (ship_cns K (b + 1) n0F))) hS hz 0 rfl rfl 0 (by decide) mw_1_237 (fun _ h9 => h9) rfl hin rfl (ty := .object "SealedStores$Ship") (by decide +kernel) rfl rfl (Nat.le_of_ble_eq_true rfl) dX7_init_12 (fun H locs hz hP hS => ?_)
  have hP := two_set hP (Nat.le_of_ble_eq_true rfl)
  have hP : xP K ([(b, .inr (7, [.ref (b + 1), .null, .null, .null]))] ++ shipW K (b + 1) n0F) H := hP
  refine lv_aload_n T.1 T.2.1 dX7_init_15 rfl (lv_at hl 0 rfl) ?_
  refine xn_new (ci := 6) T hK hP hS hz inX6 tyX6 tyX6_ok mw_1_19 mw_1_20 mw_1_2 rfl (fs := [.int 0, .int 0, .int 0, .null, .null, .null, .null, .null, .null]) hfsX6 ⟨Nat.le_of_ble_eq_true rfl, Nat.le_of_ble_eq_true rfl⟩ dX7_init_16 (fun H hz hP hS => ?_)
  have hz : H.size = b + 23 := hz
  refine lv_dup T.1 T.2.1 dX7_init_19 rfl ?_
  refine cN T hAO hK hS (c_X6_init l K (b + 22)) iiX6 mw_1_21 ⟨Nat.le_of_ble_eq_true rfl, Nat.le_of_ble_eq_true rfl⟩ hz (xP_r hP) (fun q h => Nat.le_trans (Nat.le_add_right b 22) h) hl.1 (Nat.le_of_ble_eq_true rfl) ⟨Nat.le_of_ble_eq_true rfl, Nat.le_of_ble_eq_true rfl⟩ dX7_init_20 (fun H1 locs hz1 hP1 hkp hS => ?_)
  have hC := (show cns b ([(b, .inr (7, [.ref (b + 1), .null, .null, .null]))] ++ shipW K (b + 1) n0F) from cns_app2 ⟨rfl, trivial⟩ (show ([(b, .inr (7, [.ref (b + 1), .null, .null, .null]))] : va_W).length = 1 from rfl) rfl (ship_cns K (b + 1) n0F))
  have hP0 : xP K ([(b, .inr (7, [.ref (b + 1), .null, .null, .null]))] ++ shipW K (b + 1) n0F) H1 := ini_keep hP hC (len_app (show ([(b, .inr (7, [.ref (b + 1), .null, .null, .null]))] : va_W).length = 1 from rfl) (ship_len K (b + 1) n0F) (show 1 + 21 = 22 from rfl)) (Nat.le_refl _) hkp
  have hP : xP K ([(b, .inr (7, [.ref (b + 1), .null, .null, .null]))] ++ (shipW K (b + 1) n0F ++ shipW K (b + 22) n0F)) H1 := xP_app (xP_l hP0) (xP_app (xP_r hP0) hP1)
  have hz : H1.size = b + 43 := hz1
  clear hkp hP0 hP1 hz1 hC
  generalize H1 = H at hP hS hz ⊢
  refine xn_putF T inX7 tyX7 tyX7_ok nmX7 hK hP (cns_D (show cns b ([(b, .inr (7, [.ref (b + 1), .null, .null, .null]))] ++ (shipW K (b + 1) n0F ++ shipW K (b + 22) n0F)) from cns_app2 ⟨rfl, trivial⟩ (show ([(b, .inr (7, [.ref (b + 1), .null, .null, .null]))] : va_W).length = 1 from rfl) rfl (cns_app2 (ship_cns K (b + 1) n0F) (ship_len K (b + 1) n0F) rfl (ship_cns K (b + 22) n0F)))) hS hz 0 rfl rfl 1 (by decide) mw_1_238 (fun _ h9 => h9) rfl hin rfl (ty := .object "SealedStores$Ship") (by decide +kernel) rfl rfl (Nat.le_of_ble_eq_true rfl) dX7_init_23 (fun H locs hz hP hS => ?_)
  have hP := two_set hP (Nat.le_of_ble_eq_true rfl)
  have hP : xP K ([(b, .inr (7, [.ref (b + 1), .ref (b + 22), .null, .null]))] ++ (shipW K (b + 1) n0F ++ shipW K (b + 22) n0F)) H := hP
  refine lv_aload_n T.1 T.2.1 dX7_init_26 rfl (lv_at hl 0 rfl) ?_
  refine xn_new (ci := 1) T hK hP hS hz inX1 tyX1 tyX1_ok mw_1_178 mw_1_179 mw_1_7 rfl (fs := [.int 0, .int 0, .null]) hfsX1 ⟨Nat.le_of_ble_eq_true rfl, Nat.le_of_ble_eq_true rfl⟩ dX7_init_27 (fun H hz hP hS => ?_)
  have hz : H.size = b + 44 := hz
  refine lv_dup T.1 T.2.1 dX7_init_30 rfl ?_
  refine cN T hAO hK hS (c_X1_init l K (b + 43)) iiX1 mw_1_180 ⟨Nat.le_of_ble_eq_true rfl, Nat.le_of_ble_eq_true rfl⟩ hz (xP_r hP) (fun q h => Nat.le_trans (Nat.le_add_right b 43) h) hl.1 (Nat.le_of_ble_eq_true rfl) ⟨Nat.le_of_ble_eq_true rfl, Nat.le_of_ble_eq_true rfl⟩ dX7_init_31 (fun H1 locs hz1 hP1 hkp hS => ?_)
  have hC := (show cns b ([(b, .inr (7, [.ref (b + 1), .ref (b + 22), .null, .null]))] ++ (shipW K (b + 1) n0F ++ shipW K (b + 22) n0F)) from cns_app2 ⟨rfl, trivial⟩ (show ([(b, .inr (7, [.ref (b + 1), .ref (b + 22), .null, .null]))] : va_W).length = 1 from rfl) rfl (cns_app2 (ship_cns K (b + 1) n0F) (ship_len K (b + 1) n0F) rfl (ship_cns K (b + 22) n0F)))
  have hP0 : xP K ([(b, .inr (7, [.ref (b + 1), .ref (b + 22), .null, .null]))] ++ (shipW K (b + 1) n0F ++ shipW K (b + 22) n0F)) H1 := ini_keep hP hC (len_app (show ([(b, .inr (7, [.ref (b + 1), .ref (b + 22), .null, .null]))] : va_W).length = 1 from rfl) (len_app (ship_len K (b + 1) n0F) (ship_len K (b + 22) n0F) (show 21 + 21 = 42 from rfl)) (show 1 + 42 = 43 from rfl)) (Nat.le_refl _) hkp
  have hP : xP K ([(b, .inr (7, [.ref (b + 1), .ref (b + 22), .null, .null]))] ++ ((shipW K (b + 1) n0F ++ shipW K (b + 22) n0F) ++ (histW K (b + 43) zF ++ ringW K (b + 43 + 2) (fun _ => n0F)))) H1 := xP_app (xP_l hP0) (xP_app (xP_r hP0) hP1)
  have hz : H1.size = b + 150 := hz1
  clear hkp hP0 hP1 hz1 hC
  generalize H1 = H at hP hS hz ⊢
  refine xn_putF T inX7 tyX7 tyX7_ok nmX7 hK hP (cns_D (show cns b ([(b, .inr (7, [.ref (b + 1), .ref (b + 22), .null, .null]))] ++ ((shipW K (b + 1) n0F ++ shipW K (b + 22) n0F) ++ (histW K (b + 43) zF ++ ringW K (b + 43 + 2) (fun _ => n0F)))) from cns_app2 ⟨rfl, trivial⟩ (show ([(b, .inr (7, [.ref (b + 1), .ref (b + 22), .null, .null]))] : va_W).length = 1 from rfl) rfl (cns_app2 (cns_app2 (ship_cns K (b + 1) n0F) (ship_len K (b + 1) n0F) rfl (ship_cns K (b + 22) n0F)) (len_app (ship_len K (b + 1) n0F) (ship_len K (b + 22) n0F) (show 21 + 21 = 42 from rfl)) rfl (c_hrW K (b + 43))))) hS hz 0 rfl rfl 2 (by decide) mw_1_239 (fun _ h9 => h9) rfl hin rfl (ty := .object "SealedStores$History") (by decide +kernel) rfl rfl (Nat.le_of_ble_eq_true rfl) dX7_init_34 (fun H locs hz hP hS => ?_)
  have hP := two_set hP (Nat.le_of_ble_eq_true rfl)
  have hP : xP K ([(b, .inr (7, [.ref (b + 1), .ref (b + 22), .ref (b + 43), .null]))] ++ ((shipW K (b + 1) n0F ++ shipW K (b + 22) n0F) ++ (histW K (b + 43) zF ++ ringW K (b + 43 + 2) (fun _ => n0F)))) H := hP
  refine lv_aload_n T.1 T.2.1 dX7_init_37 rfl (lv_at hl 0 rfl) ?_
  refine xn_new (ci := 3) T hK hP hS hz inX3 tyX3 tyX3_ok mw_1_198 mw_1_199 mw_1_8 rfl (fs := [.int 0, .int 0, .int 0, .int 0, .int 0, .int 0, .int 0, .null, .null]) hfsX3 ⟨Nat.le_of_ble_eq_true rfl, Nat.le_of_ble_eq_true rfl⟩ dX7_init_38 (fun H hz hP hS => ?_)
  have hz : H.size = b + 151 := hz
  refine lv_dup T.1 T.2.1 dX7_init_41 rfl ?_
  refine cN T hAO hK hS (c_X3_init l K (b + 150)) iiX3 mw_1_200 ⟨Nat.le_of_ble_eq_true rfl, Nat.le_of_ble_eq_true rfl⟩ hz (xP_r hP) (fun q h => Nat.le_trans (Nat.le_add_right b 150) h) hl.1 (Nat.le_of_ble_eq_true rfl) ⟨Nat.le_of_ble_eq_true rfl, Nat.le_of_ble_eq_true rfl⟩ dX7_init_42 (fun H1 locs hz1 hP1 hkp hS => ?_)
  have hC := (show cns b ([(b, .inr (7, [.ref (b + 1), .ref (b + 22), .ref (b + 43), .null]))] ++ ((shipW K (b + 1) n0F ++ shipW K (b + 22) n0F) ++ (histW K (b + 43) zF ++ ringW K (b + 43 + 2) (fun _ => n0F)))) from cns_app2 ⟨rfl, trivial⟩ (show ([(b, .inr (7, [.ref (b + 1), .ref (b + 22), .ref (b + 43), .null]))] : va_W).length = 1 from rfl) rfl (cns_app2 (cns_app2 (ship_cns K (b + 1) n0F) (ship_len K (b + 1) n0F) rfl (ship_cns K (b + 22) n0F)) (len_app (ship_len K (b + 1) n0F) (ship_len K (b + 22) n0F) (show 21 + 21 = 42 from rfl)) rfl (c_hrW K (b + 43))))
  have hP0 : xP K ([(b, .inr (7, [.ref (b + 1), .ref (b + 22), .ref (b + 43), .null]))] ++ ((shipW K (b + 1) n0F ++ shipW K (b + 22) n0F) ++ (histW K (b + 43) zF ++ ringW K (b + 43 + 2) (fun _ => n0F)))) H1 := ini_keep hP hC (len_app (show ([(b, .inr (7, [.ref (b + 1), .ref (b + 22), .ref (b + 43), .null]))] : va_W).length = 1 from rfl) (len_app (len_app (ship_len K (b + 1) n0F) (ship_len K (b + 22) n0F) (show 21 + 21 = 42 from rfl)) (l_hrW K (b + 43)) (show 42 + 107 = 149 from rfl)) (show 1 + 149 = 150 from rfl)) (Nat.le_refl _) hkp
  have hP : xP K ([(b, .inr (7, [.ref (b + 1), .ref (b + 22), .ref (b + 43), .null]))] ++ (((shipW K (b + 1) n0F ++ shipW K (b + 22) n0F) ++ (histW K (b + 43) zF ++ ringW K (b + 43 + 2) (fun _ => n0F))) ++ logW K (b + 150) zF zF zF)) H1 := xP_app (xP_l hP0) (xP_app (xP_r hP0) hP1)
  have hz : H1.size = b + 153 := hz1
  clear hkp hP0 hP1 hz1 hC
  generalize H1 = H at hP hS hz ⊢
  refine xn_putF T inX7 tyX7 tyX7_ok nmX7 hK hP (cns_D (show cns b ([(b, .inr (7, [.ref (b + 1), .ref (b + 22), .ref (b + 43), .null]))] ++ (((shipW K (b + 1) n0F ++ shipW K (b + 22) n0F) ++ (histW K (b + 43) zF ++ ringW K (b + 43 + 2) (fun _ => n0F))) ++ logW K (b + 150) zF zF zF)) from cns_app2 ⟨rfl, trivial⟩ (show ([(b, .inr (7, [.ref (b + 1), .ref (b + 22), .ref (b + 43), .null]))] : va_W).length = 1 from rfl) rfl (cns_app2 (cns_app2 (cns_app2 (ship_cns K (b + 1) n0F) (ship_len K (b + 1) n0F) rfl (ship_cns K (b + 22) n0F)) (len_app (ship_len K (b + 1) n0F) (ship_len K (b + 22) n0F) (show 21 + 21 = 42 from rfl)) rfl (c_hrW K (b + 43))) (len_app (len_app (ship_len K (b + 1) n0F) (ship_len K (b + 22) n0F) (show 21 + 21 = 42 from rfl)) (l_hrW K (b + 43)) (show 42 + 107 = 149 from rfl)) rfl (c_logW0 K (b + 150))))) hS hz 0 rfl rfl 3 (by decide) mw_2_0 (fun _ h9 => h9) rfl hin rfl (ty := .object "SealedStores$OrderLog") (by decide +kernel) rfl rfl (Nat.le_of_ble_eq_true rfl) dX7_init_45 (fun H locs hz hP hS => ?_)
  have hP := two_set hP (Nat.le_of_ble_eq_true rfl)
  have hP : xP K ([(b, .inr (7, [.ref (b + 1), .ref (b + 22), .ref (b + 43), .ref (b + 150)]))] ++ (((shipW K (b + 1) n0F ++ shipW K (b + 22) n0F) ++ (histW K (b + 43) zF ++ ringW K (b + 43 + 2) (fun _ => n0F))) ++ logW K (b + 150) zF zF zF)) H := hP
  exact rN T hr hk hK hz (xW_mk (xP_l hP) (xP_l (xP_r (xP_l (xP_r hP)))) (xP_r (xP_r hP)) (xP_l (xP_l (xP_l (xP_r hP)))) (xP_r (xP_l (xP_l (xP_r hP)))) (xP_r (xP_r (xP_l (xP_r hP))))) hS dX7_init_48
theorem n0_now (j : Nat) : upd (upd (upd (fun _ => 0) (0 : Int).toNat (iI 2)) (2 : Int).toNat (iI 5000)) (3 : Int).toNat (iI 30) j = vI n0F 0 j := by
  show (if j = (3 : Int).toNat then iI 30 else if j = (2 : Int).toNat then iI 5000 else if j = (0 : Int).toNat then iI 2 else (0 : Int32)) = iI (n0F (0 + (j : Int)))
  by_cases h0 : j = 0
  · subst h0; rfl
  by_cases h2 : j = 2
  · subst h2; rfl
  by_cases h3 : j = 3
  · subst h3; rfl
  rw [if_neg (by omega), if_neg (by omega), if_neg (by omega), n0F_z (by omega)]
  rfl