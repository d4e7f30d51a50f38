theorem hist_f {K : KT} {b : Nat} {f : Nat → Option Nat} {H : Heap} (h : xP K [(b, .inr (1, [.int (iI 0), .int (iI 0), .ref (b + 1)])), (b + 1, .inl (K.2.2.2.2, 5, .inr (.inr (.inr (.inr f)))))] H) (hf : ∀ j, j < 5 → f j = some (b + 2 + 21 * j)) : xP K (histW K b zF) H := by
  intro k q hq
  rcases k with _ | _ | k
  · exact h 0 q hq
  · have h1 : H[b + 1]? = some (vp_cell K.2.2.2.2 (5, .inr (.inr (.inr (.inr f))))) := h 1 _ rfl
    have e : vp_cell K.2.2.2.2 (5, .inr (.inr (.inr (.inr f)))) = vp_cell K.2.2.2.2 (5, .inr (.inr (.inr (.inr fun j => some (b + 2 + 21 * j))))) := arrV_congr K.2.2.2.2 5 fun j hj => congrArg va_rf (hf j hj)
    rw [e] at h1
    have hq' : some (b + 1, Sum.inl (K.2.2.2.2, 5, .inr (.inr (.inr (.inr fun j => some (b + 2 + 21 * j)))))) = some q := hq
    cases hq'
    exact h1
  · cases hq
set_option maxHeartbeats 8000000 in
set_option maxRecDepth 100000 in
theorem c_X1_init (l : Launch) (K : KT) (b : Nat) : CtN l yX1_init cX1_init 2 3 60 106 5340 K b [(b, .inr (1, [.int 0, .int 0, .null]))] (histW K b zF ++ ringW K (b + 2) (fun _ => n0F)) := by
  refine CtN_of (by decide) rfl (Nat.le_of_ble_eq_true rfl) ?_
  intro p e s m args below meth c T hin hr hk hz hP hK hAO ls hl
  have T : CF p m c cX1_init 2 s args RX1 := T
  have hl : lv_has ls 2 [(0, .ref b)] := hl
  obtain ⟨H, hHe⟩ : ∃ H : Heap, H = s.heap := ⟨_, rfl⟩
  have hS : va_S (fun q => b ≤ q) s.heap H [] := by rw [hHe]; exact va_S.rf
  rw [← hHe] at hP hz ⊢
  clear hHe
  refine lv_aload_n T.1 T.2.1 dX1_init_0 rfl (lv_at hl 0 rfl) ?_
  refine xn_obj T mw_1_183 hl.1 dX1_init_1 ⟨Nat.le_of_ble_eq_true rfl, Nat.le_of_ble_eq_true rfl⟩ ?_
  refine lv_aload_n T.1 T.2.1 dX1_init_4 rfl (lv_at hl 0 rfl) ?_
  refine xv_iconst T dX1_init_5 ?_
  refine xn_put T inX1 tyX1 tyX1_ok nmX1 hK hP (cns_D (show cns b ([(b, .inr (1, [.int 0, .int 0, .null]))]) from ⟨rfl, trivial⟩)) hS hz 0 rfl rfl 0 (by decide) mw_1_187 (fun _ h9 => h9) rfl (ty := .int) (by decide +kernel) rfl rfl (Nat.le_of_ble_eq_true rfl) dX1_init_6 (fun H locs hz hP hS => ?_)
  have hP : xP K ([(b, .inr (1, [.int (iI 0), .int 0, .null]))]) H := hP
  refine lv_aload_n T.1 T.2.1 dX1_init_9 rfl (lv_at hl 0 rfl) ?_
  refine xv_iconst T dX1_init_10 ?_
  refine xn_put T inX1 tyX1 tyX1_ok nmX1 hK hP (cns_D (show cns b ([(b, .inr (1, [.int (iI 0), .int 0, .null]))]) from ⟨rfl, trivial⟩)) hS hz 0 rfl rfl 1 (by decide) mw_1_189 (fun _ h9 => h9) rfl (ty := .int) (by decide +kernel) rfl rfl (Nat.le_of_ble_eq_true rfl) dX1_init_11 (fun H locs hz hP hS => ?_)
  have hP : xP K ([(b, .inr (1, [.int (iI 0), .int (iI 0), .null]))]) H := hP
  refine lv_aload_n T.1 T.2.1 dX1_init_14 rfl (lv_at hl 0 rfl) ?_
  refine xv_iconst T dX1_init_15 ?_
  refine xn_newq T hAO hK hP hS hz mw_1_184 (n := 5) rfl (Nat.le_of_ble_eq_true rfl) ⟨Nat.le_of_ble_eq_true rfl, Nat.le_of_ble_eq_true rfl⟩ dX1_init_16 (fun H hz hP hS => ?_)
  have hP : xP K ([(b, .inr (1, [.int (iI 0), .int (iI 0), .null])), (b + 1, .inl (K.2.2.2.2, 5, .inr (.inr (.inr (.inr (fun _ => none))))))]) H := hP
  have hz : H.size = b + 2 := hz
  refine xn_putF T inX1 tyX1 tyX1_ok nmX1 hK hP (cns_D (show cns b ([(b, .inr (1, [.int (iI 0), .int (iI 0), .null])), (b + 1, .inl (K.2.2.2.2, 5, .inr (.inr (.inr (.inr (fun _ => none))))))]) from ⟨rfl, rfl, trivial⟩)) hS hz 0 rfl rfl 2 (by decide) mw_1_190 (fun _ h9 => h9) rfl hin rfl (ty := .array (.object "SealedStores$Ship")) (by decide +kernel) rfl rfl (Nat.le_of_ble_eq_true rfl) dX1_init_19 (fun H locs hz hP hS => ?_)
  have hP : xP K ([(b, .inr (1, [.int (iI 0), .int (iI 0), .ref (b + 1)])), (b + 1, .inl (K.2.2.2.2, 5, .inr (.inr (.inr (.inr (fun _ => none))))))]) H := hP
  refine xv_iconst T dX1_init_22 ?_
  refine lv_istore_n (lv' := [(1, .int (iI 0)), (0, .ref b)]) T.1 T.2.1 dX1_init_23 rfl hl (by decide) rfl (fun ls hl => ?_)
  refine lv_iload_n T.1 T.2.1 dX1_init_24 rfl (lv_at hl 0 rfl) ?_
  refine xv_iconst T dX1_init_25 ?_
  refine xv_icmp_gt T (by decide) (tgt := 48) dX1_init_26 (by decide) (fun c1 => absurd c1 (by decide)) (fun _ => ?_)
  refine lv_aload_n T.1 T.2.1 dX1_init_29 rfl (lv_at hl 1 rfl) ?_
  refine g1_states T hK hP 0 rfl rfl mw_1_190 dX1_init_30 ?_
  refine lv_iload_n T.1 T.2.1 dX1_init_33 rfl (lv_at hl 0 rfl) ?_
  refine xn_new (ci := 6) T hK hP hS hz inX6 tyX6 tyX6_ok mw_1_184 mw_1_20 mw_1_2 rfl (fs := [.int 0, .int 0, .int 0, .null, .null, .null, .null, .null, .null]) hfsX6 ⟨Nat.le_of_ble_eq_true rfl, Nat.le_of_ble_eq_true rfl⟩ dX1_init_34 (fun H hz hP hS => ?_)
  have hz : H.size = b + 3 := hz
  refine lv_dup T.1 T.2.1 dX1_init_37 rfl ?_
  refine cN T hAO hK hS (c_X6_init l K (b + 2)) iiX6 mw_1_186 ⟨Nat.le_of_ble_eq_true rfl, Nat.le_of_ble_eq_true rfl⟩ hz (xP_r hP) (fun q h => Nat.le_trans (Nat.le_add_right b 2) h) hl.1 (Nat.le_of_ble_eq_true rfl) ⟨Nat.le_of_ble_eq_true rfl, Nat.le_of_ble_eq_true rfl⟩ dX1_init_38 (fun H1 locs hz1 hP1 hkp hS => ?_)
  have hC := (show cns b ([(b, .inr (1, [.int (iI 0), .int (iI 0), .ref (b + 1)])), (b + 1, .inl (K.2.2.2.2, 5, .inr (.inr (.inr (.inr (fun _ => none))))))]) from ⟨rfl, rfl, trivial⟩)
  have hP0 : xP K ([(b, .inr (1, [.int (iI 0), .int (iI 0), .ref (b + 1)])), (b + 1, .inl (K.2.2.2.2, 5, .inr (.inr (.inr (.inr (fun _ => none))))))]) H1 := ini_keep hP hC (show ([(b, .inr (1, [.int (iI 0), .int (iI 0), .ref (b + 1)])), (b + 1, .inl (K.2.2.2.2, 5, .inr (.inr (.inr (.inr (fun _ => none))))))] : va_W).length = 2 from rfl) (Nat.le_refl _) hkp
  have hP : xP K ([(b, .inr (1, [.int (iI 0), .int (iI 0), .ref (b + 1)])), (b + 1, .inl (K.2.2.2.2, 5, .inr (.inr (.inr (.inr (fun _ => none))))))] ++ shipW K (b + 2) n0F) H1 := xP_app hP0 hP1
  have hz : H1.size = b + 23 := hz1
  clear hkp hP0 hP1 hz1 hC
  generalize H1 = H at hP hS hz ⊢
  refine xn_aast T hK hP (cns_D (show cns b ([(b, .inr (1, [.int (iI 0), .int (iI 0), .ref (b + 1)])), (b + 1, .inl (K.2.2.2.2, 5, .inr (.inr (.inr (.inr (fun _ => none))))))] ++ shipW K (b + 2) n0F) from cns_app2 ⟨rfl, rfl, trivial⟩ (show ([(b, .inr (1, [.int (iI 0), .int (iI 0), .ref (b + 1)])), (b + 1, .inl (K.2.2.2.2, 5, .inr (.inr (.inr (.inr (fun _ => none))))))] : va_W).length = 2 from rfl) rfl (ship_cns K (b + 2) n0F))) hS hz 1 2 rfl rfl (by decide) (by decide) dX1_init_41 (fun H locs hz hP hS => ?_)
  have hP := two_set hP (Nat.le_of_ble_eq_true rfl)
  have hP : xP K ([(b, .inr (1, [.int (iI 0), .int (iI 0), .ref (b + 1)])), (b + 1, .inl (K.2.2.2.2, 5, .inr (.inr (.inr (.inr (va_up (fun _ => none) (0 : Int).toNat (some (b + 2))))))))] ++ shipW K (b + 2) n0F) H := hP
  refine xv_iinc T (y := 1) (lv' := [(1, .int (iI 1)), (0, .ref b)]) dX1_init_42 hl (q := 0) rfl (by decide) (by decide) rfl (fun ls hl => ?_)
  refine lv_goto T.1 T.2.1 (tgt := 24) dX1_init_45 (by decide) ?_
  refine lv_iload_n T.1 T.2.1 dX1_init_24 rfl (lv_at hl 0 rfl) ?_
  refine xv_iconst T dX1_init_25 ?_
  refine xv_icmp_gt T (by decide) (tgt := 48) dX1_init_26 (by decide) (fun c1 => absurd c1 (by decide)) (fun _ => ?_)
  refine lv_aload_n T.1 T.2.1 dX1_init_29 rfl (lv_at hl 1 rfl) ?_
  refine g1_states T hK hP 0 rfl rfl mw_1_190 dX1_init_30 ?_
  refine lv_iload_n T.1 T.2.1 dX1_init_33 rfl (lv_at hl 0 rfl) ?_
  refine xn_new (ci := 6) T hK hP hS hz inX6 tyX6 tyX6_ok mw_1_184 mw_1_20 mw_1_2 rfl (fs := [.int 0, .int 0, .int 0, .null, .null, .null, .null, .null, .null]) hfsX6 ⟨Nat.le_of_ble_eq_true rfl, Nat.le_of_ble_eq_true rfl⟩ dX1_init_34 (fun H hz hP hS => ?_)
  have hz : H.size = b + 24 := hz
  refine lv_dup T.1 T.2.1 dX1_init_37 rfl ?_
  refine cN T hAO hK hS (c_X6_init l K (b + 23)) iiX6 mw_1_186 ⟨Nat.le_of_ble_eq_true rfl, Nat.le_of_ble_eq_true rfl⟩ hz (xP_r hP) (fun q h => Nat.le_trans (Nat.le_add_right b 23) h) hl.1 (Nat.le_of_ble_eq_true rfl) ⟨Nat.le_of_ble_eq_true rfl, Nat.le_of_ble_eq_true rfl⟩ dX1_init_38 (fun H1 locs hz1 hP1 hkp hS => ?_)
  have hC := (show cns b ([(b, .inr (1, [.int (iI 0), .int (iI 0), .ref (b + 1)])), (b + 1, .inl (K.2.2.2.2, 5, .inr (.inr (.inr (.inr (va_up (fun _ => none) (0 : Int).toNat (some (b + 2))))))))] ++ shipW K (b + 2) n0F) from cns_app2 ⟨rfl, rfl, trivial⟩ (show ([(b, .inr (1, [.int (iI 0), .int (iI 0), .ref (b + 1)])), (b + 1, .inl (K.2.2.2.2, 5, .inr (.inr (.inr (.inr (va_up (fun _ => none) (0 : Int).toNat (some (b + 2))))))))] : va_W).length = 2 from rfl) rfl (ship_cns K (b + 2) n0F))
  have hP0 : xP K ([(b, .inr (1, [.int (iI 0), .int (iI 0), .ref (b + 1)])), (b + 1, .inl (K.2.2.2.2, 5, .inr (.inr (.inr (.inr (va_up (fun _ => none) (0 : Int).toNat (some (b + 2))))))))] ++ shipW K (b + 2) n0F) H1 := ini_keep hP hC (len_app (show ([(b, .inr (1, [.int (iI 0), .int (iI 0), .ref (b + 1)])), (b + 1, .inl (K.2.2.2.2, 5, .inr (.inr (.inr (.inr (va_up (fun _ => none) (0 : Int).toNat (some (b + 2))))))))] : va_W).length = 2 from rfl) (ship_len K (b + 2) n0F) (show 2 + 21 = 23 from rfl)) (Nat.le_refl _) hkp
  have hP : xP K ([(b, .inr (1, [.int (iI 0), .int (iI 0), .ref (b + 1)])), (b + 1, .inl (K.2.2.2.2, 5, .inr (.inr (.inr (.inr (va_up (fun _ => none) (0 : Int).toNat (some (b + 2))))))))] ++ (shipW K (b + 2) n0F ++ shipW K (b + 23) n0F)) H1 := xP_app (xP_l hP0) (xP_app (xP_r hP0) hP1)
  have hz : H1.size = b + 44 := hz1
  clear hkp hP0 hP1 hz1 hC
  generalize H1 = H at hP hS hz ⊢
  refine xn_aast T hK hP (cns_D (show cns b ([(b, .inr (1, [.int (iI 0), .int (iI 0), .ref (b + 1)])), (b + 1, .inl (K.2.2.2.2, 5, .inr (.inr (.inr (.inr (va_up (fun _ => none) (0 : Int).toNat (some (b + 2))))))))] ++ (shipW K (b + 2) n0F ++ shipW K (b + 23) n0F)) from cns_app2 ⟨rfl, rfl, trivial⟩ (show ([(b, .inr (1, [.int (iI 0), .int (iI 0), .ref (b + 1)])), (b + 1, .inl (K.2.2.2.2, 5, .inr (.inr (.inr (.inr (va_up (fun _ => none) (0 : Int).toNat (some (b + 2))))))))] : va_W).length = 2 from rfl) rfl (cns_app2 (ship_cns K (b + 2) n0F) (ship_len K (b + 2) n0F) rfl (ship_cns K (b + 23) n0F)))) hS hz 1 23 rfl rfl (by decide) (by decide) dX1_init_41 (fun H locs hz hP hS => ?_)
  have hP := two_set hP (Nat.le_of_ble_eq_true rfl)
  have hP : xP K ([(b, .inr (1, [.int (iI 0), .int (iI 0), .ref (b + 1)])), (b + 1, .inl (K.2.2.2.2, 5, .inr (.inr (.inr (.inr (va_up (va_up (fun _ => none) (0 : Int).toNat (some (b + 2))) (1 : Int).toNat (some (b + 23))))))))] ++ (shipW K (b + 2) n0F ++ shipW K (b + 23) n0F)) H := hP
  refine xv_iinc T (y := 2) (lv' := [(1, .int (iI 2)), (0, .ref b)]) dX1_init_42 hl (q := 0) rfl (by decide) (by decide) rfl (fun ls hl => ?_)
  refine lv_goto T.1 T.2.1 (tgt := 24) dX1_init_45 (by decide) ?_
  refine lv_iload_n T.1 T.2.1 dX1_init_24 rfl (lv_at hl 0 rfl) ?_
  refine xv_iconst T dX1_init_25 ?_
  refine xv_icmp_gt T (by decide) (tgt := 48) dX1_init_26 (by decide) (fun c1 => absurd c1 (by decide)) (fun _ => ?_)
  refine lv_aload_n T.1 T.2.1 dX1_init_29 rfl (lv_at hl 1 rfl) ?_
  refine g1_states T hK hP 0 rfl rfl mw_1_190 dX1_init_30 ?_
  refine lv_iload_n T.1 T.2.1 dX1_init_33 rfl (lv_at hl 0 rfl) ?_
  refine xn_new (ci := 6) T hK hP hS hz inX6 tyX6 tyX6_ok mw_1_184 mw_1_20 mw_1_2 rfl (fs := [.int 0, .int 0, .int 0, .null, .null, .null, .null, .null, .null]) hfsX6 ⟨Nat.le_of_ble_eq_true rfl, Nat.le_of_ble_eq_true rfl⟩ dX1_init_34 (fun H hz hP hS => ?_)
  have hz : H.size = b + 45 := hz
  refine lv_dup T.1 T.2.1 dX1_init_37 rfl ?_
  refine cN T hAO hK hS (c_X6_init l K (b + 44)) iiX6 mw_1_186 ⟨Nat.le_of_ble_eq_true rfl, Nat.le_of_ble_eq_true rfl⟩ hz (xP_r hP) (fun q h => Nat.le_trans (Nat.le_add_right b 44) h) hl.1 (Nat.le_of_ble_eq_true rfl) ⟨Nat.le_of_ble_eq_true rfl, Nat.le_of_ble_eq_true rfl⟩ dX1_init_38 (fun H1 locs hz1 hP1 hkp hS => ?_)
  have hC := (show cns b ([(b, .inr (1, [.int (iI 0), .int (iI 0), .ref (b + 1)])), (b + 1, .inl (K.2.2.2.2, 5, .inr (.inr (.inr (.inr (va_up (va_up (fun _ => none) (0 : Int).toNat (some (b + 2))) (1 : Int).toNat (some (b + 23))))))))] ++ (shipW K (b + 2) n0F ++ shipW K (b + 23) n0F)) from cns_app2 ⟨rfl, rfl, trivial⟩ (show ([(b, .inr (1, [.int (iI 0), .int (iI 0), .ref (b + 1)])), (b + 1, .inl (K.2.2.2.2, 5, .inr (.inr (.inr (.inr (va_up (va_up (fun _ => none) (0 : Int).toNat (some (b + 2))) (1 : Int).toNat (some (b + 23))))))))] : va_W).length = 2 from rfl) rfl (cns_app2 (ship_cns K (b + 2) n0F) (ship_len K (b + 2) n0F) rfl (ship_cns K (b + 23) n0F)))
  have hP0 : xP K ([(b, .inr (1, [.int (iI 0), .int (iI 0), .ref (b + 1)])), (b + 1, .inl (K.2.2.2.2, 5, .inr (.inr (.inr (.inr (va_up (va_up (fun _ => none) (0 : Int).toNat (some (b + 2))) (1 : Int).toNat (some (b + 23))))))))] ++ (shipW K (b + 2) n0F ++ shipW K (b + 23) n0F)) H1 := ini_keep hP hC (len_app (show ([(b, .inr (1, [.int (iI 0), .int (iI 0), .ref (b + 1)])), (b + 1, .inl (K.2.2.2.2, 5, .inr (.inr (.inr (.inr (va_up (va_up (fun _ => none) (0 : Int).toNat (some (b + 2))) (1 : Int).toNat (some (b + 23))))))))] : va_W).length = 2 from rfl) (len_app (ship_len K (b + 2) n0F) (ship_len K (b + 23) n0F) (show 21 + 21 = 42 from rfl)) (show 2 + 42 = 44 from rfl)) (Nat.le_refl _) hkp
  have hP : xP K ([(b, .inr (1, [.int (iI 0), .int (iI 0), .ref (b + 1)])), (b + 1, .inl (K.2.2.2.2, 5, .inr (.inr (.inr (.inr (va_up (va_up (fun _ => none) (0 : Int).toNat (some (b + 2))) (1 : Int).toNat (some (b + 23))))))))] ++ ((shipW K (b + 2) n0F ++ shipW K (b + 23) n0F) ++ shipW K (b + 44) n0F)) H1 := xP_app (xP_l hP0) (xP_app (xP_r hP0) hP1)
  have hz : H1.size = b + 65 := hz1
  clear hkp hP0 hP1 hz1 hC
  generalize H1 = H at hP hS hz ⊢
  refine xn_aast T hK hP (cns_D (show cns b ([(b, .inr (1, [.int (iI 0), .int (iI 0), .ref (b + 1)])), (b + 1, .inl (K.2.2.2.2, 5, .inr (.inr (.inr (.inr (va_up (va_up (fun _ => none) (0 : Int).toNat (some (b + 2))) (1 : Int).toNat (some (b + 23))))))))] ++ ((shipW K (b + 2) n0F ++ shipW K (b + 23) n0F) ++ shipW K (b + 44) n0F)) from cns_app2 ⟨rfl, rfl, trivial⟩ (show ([(b, .inr (1, [.int (iI 0), .int (iI 0), .ref (b + 1)])), (b + 1, .inl (K.2.2.2.2, 5, .inr (.inr (.inr (.inr (va_up (va_up (fun _ => none) (0 : Int).toNat (some (b + 2))) (1 : Int).toNat (some (b + 23))))))))] : va_W).length = 2 from rfl) rfl (cns_app2 (cns_app2 (ship_cns K (b + 2) n0F) (ship_len K (b + 2) n0F) rfl (ship_cns K (b + 23) n0F)) (len_app (ship_len K (b + 2) n0F) (ship_len K (b + 23) n0F) (show 21 + 21 = 42 from rfl)) rfl (ship_cns K (b + 44) n0F)))) hS hz 1 44 rfl rfl (by decide) (by decide) dX1_init_41 (fun H locs hz hP hS => ?_)
  have hP := two_set hP (Nat.le_of_ble_eq_true rfl)
  have hP : xP K ([(b, .inr (1, [.int (iI 0), .int (iI 0), .ref (b + 1)])), (b + 1, .inl (K.2.2.2.2, 5, .inr (.inr (.inr (.inr (va_up (va_up (va_up (fun _ => none) (0 : Int).toNat (some (b + 2))) (1 : Int).toNat (some (b + 23))) (2 : Int).toNat (some (b + 44))))))))] ++ ((shipW K (b + 2) n0F ++ shipW K (b + 23) n0F) ++ shipW K (b + 44) n0F)) H := hP
  refine xv_iinc T (y := 3) (lv' := [(1, .int (iI 3)), (0, .ref b)]) dX1_init_42 hl (q := 0) rfl (by decide) (by decide) rfl (fun ls hl => ?_)
  refine lv_goto T.1 T.2.1 (tgt := 24) dX1_init_45 (by decide) ?_
  refine lv_iload_n T.1 T.2.1 dX1_init_24 rfl (lv_at hl 0 rfl) ?_
  refine xv_iconst T dX1_init_25 ?_
  refine xv_icmp_gt T (by decide) (tgt := 48) dX1_init_26 (by decide) (fun c1 => absurd c1 (by decide)) (fun _ => ?_)
  refine lv_aload_n T.1 T.2.1 dX1_init_29 rfl (lv_at hl 1 rfl) ?_
  refine g1_states T hK hP 0 rfl rfl mw_1_190 dX1_init_30 ?_
  refine lv_iload_n T.1 T.2.1 dX1_init_33 rfl (lv_at hl 0 rfl) ?_
  refine xn_new (ci := 6) T hK hP hS hz inX6 tyX6 tyX6_ok mw_1_184 mw_1_20 mw_1_2 rfl (fs := [.int 0, .int 0, .int 0, .null, .null, .null, .null, .null, .null]) hfsX6 ⟨Nat.le_of_ble_eq_true rfl, Nat.le_of_ble_eq_true rfl⟩ dX1_init_34 (fun H hz hP hS => ?_)
  have hz : H.size = b + 66 := hz
  refine lv_dup T.1 T.2.1 dX1_init_37 rfl ?_
  refine cN T hAO hK hS (c_X6_init l K (b + 65)) iiX6 mw_1_186 ⟨Nat.le_of_ble_eq_true rfl, Nat.le_of_ble_eq_true rfl⟩ hz (xP_r hP) (fun q h => Nat.le_trans (Nat.le_add_right b 65) h) hl.1 (Nat.le_of_ble_eq_true rfl) ⟨Nat.le_of_ble_eq_true rfl, Nat.le_of_ble_eq_true rfl⟩ dX1_init_38 (fun H1 locs hz1 hP1 hkp hS => ?_)
  have hC := (show cns b ([(b, .inr (1, [.int (iI 0), .int (iI 0), .ref (b + 1)])), (b + 1, .inl (K.2.2.2.2, 5, .inr (.inr (.inr (.inr (va_up (va_up (va_up (fun _ => none) (0 : Int).toNat (some (b + 2))) (1 : Int).toNat (some (b + 23))) (2 : Int).toNat (some (b + 44))))))))] ++ ((shipW K (b + 2) n0F ++ shipW K (b + 23) n0F) ++ shipW K (b + 44) n0F)) from cns_app2 ⟨rfl, rfl, trivial⟩ (show ([(b, .inr (1, [.int (iI 0), .int (iI 0), .ref (b + 1)])), (b + 1, .inl (K.2.2.2.2, 5, .inr (.inr (.inr (.inr (va_up (va_up (va_up (fun _ => none) (0 : Int).toNat (some (b + 2))) (1 : Int).toNat (some (b + 23))) (2 : Int).toNat (some (b + 44))))))))] : va_W).length = 2 from rfl) rfl (cns_app2 (cns_app2 (ship_cns K (b + 2) n0F) (ship_len K (b + 2) n0F) rfl (ship_cns K (b + 23) n0F)) (len_app (ship_len K (b + 2) n0F) (ship_len K (b + 23) n0F) (show 21 + 21 = 42 from rfl)) rfl (ship_cns K (b + 44) n0F)))
  have hP0 : xP K ([(b, .inr (1, [.int (iI 0), .int (iI 0), .ref (b + 1)])), (b + 1, .inl (K.2.2.2.2, 5, .inr (.inr (.inr (.inr (va_up (va_up (va_up (fun _ => none) (0 : Int).toNat (some (b + 2))) (1 : Int).toNat (some (b + 23))) (2 : Int).toNat (some (b + 44))))))))] ++ ((shipW K (b + 2) n0F ++ shipW K (b + 23) n0F) ++ shipW K (b + 44) n0F)) H1 := ini_keep hP hC (len_app (show ([(b, .inr (1, [.int (iI 0), .int (iI 0), .ref (b + 1)])), (b + 1, .inl (K.2.2.2.2, 5, .inr (.inr (.inr (.inr (va_up (va_up (va_up (fun _ => none) (0 : Int).toNat (some (b + 2))) (1 : Int).toNat (some (b + 23))) (2 : Int).toNat (some (b + 44))))))))] : va_W).length = 2 from rfl) (len_app (len_app (ship_len K (b + 2) n0F) (ship_len K (b + 23) n0F) (show 21 + 21 = 42 from rfl)) (ship_len K (b + 44) n0F) (show 42 + 21 = 63 from rfl)) (show 2 + 63 = 65 from rfl)) (Nat.le_refl _) hkp
  have hP : xP K ([(b, .inr (1, [.int (iI 0), .int (iI 0), .ref (b + 1)])), (b + 1, .inl (K.2.2.2.2, 5, .inr (.inr (.inr (.inr (va_up (va_up (va_up (fun _ => none) (0 : Int).toNat (some (b + 2))) (1 : Int).toNat (some (b + 23))) (2 : Int).toNat (some (b + 44))))))))] ++ (((shipW K (b + 2) n0F ++ shipW K (b + 23) n0F) ++ shipW K (b + 44) n0F) ++ shipW K (b + 65) n0F)) H1 := xP_app (xP_l hP0) (xP_app (xP_r hP0) hP1)
  have hz : H1.size = b + 86 := hz1
  clear hkp hP0 hP1 hz1 hC
  generalize H1 = H at hP hS hz ⊢
  refine xn_aast T hK hP (cns_D (show cns b ([(b, .inr (1, [.int (iI 0), .int (iI 0), .ref (b + 1)])), (b + 1, .inl (K.2.2.2.2, 5, .inr (.inr (.inr (.inr (va_up (va_up (va_up (fun _ => none) (0 : Int).toNat (some (b + 2))) (1 : Int).toNat (some (b + 23))) (2 : Int).toNat (some (b + 44))))))))] ++ (((shipW K (b + 2) n0F ++ shipW K (b + 23) n0F) ++ shipW K (b + 44) n0F) ++ shipW K (b + 65) n0F)) from cns_app2 ⟨rfl, rfl, trivial⟩ (show ([(b, .inr (1, [.int (iI 0), .int (iI 0), .ref (b + 1)])), (b + 1, .inl (K.2.2.2.2, 5, .inr (.inr (.inr (.inr (va_up (va_up (va_up (fun _ => none) (0 : Int).toNat (some (b + 2))) (1 : Int).toNat (some (b + 23))) (2 : Int).toNat (some (b + 44))))))))] : va_W).length = 2 from rfl) rfl (cns_app2 (cns_app2 (cns_app2 (ship_cns K (b + 2) n0F) (ship_len K (b + 2) n0F) rfl (ship_cns K (b + 23) n0F)) (len_app (ship_len K (b + 2) n0F) (ship_len K (b + 23) n0F) (show 21 + 21 = 42 from rfl)) rfl (ship_cns K (b + 44) n0F)) (len_app (len_app (ship_len K (b + 2) n0F) (ship_len K (b + 23) n0F) (show 21 + 21 = 42 from rfl)) (ship_len K (b + 44) n0F) (show 42 + 21 = 63 from rfl)) rfl (ship_cns K (b + 65) n0F)))) hS hz 1 65 rfl rfl (by decide) (by decide) dX1_init_41 (fun H locs hz hP hS => ?_)
  have hP := two_set hP (Nat.le_of_ble_eq_true rfl)
  have hP : xP K ([(b, .inr (1, [.int (iI 0), .int (iI 0), .ref (b + 1)])), (b + 1, .inl (K.2.2.2.2, 5, .inr (.inr (.inr (.inr (va_up (va_up (va_up (va_up (fun _ => none) (0 : Int).toNat (some (b + 2))) (1 : Int).toNat (some (b + 23))) (2 : Int).toNat (some (b + 44))) (3 : Int).toNat (some (b + 65))))))))] ++ (((shipW K (b + 2) n0F ++ shipW K (b + 23) n0F) ++ shipW K (b + 44) n0F) ++ shipW K (b + 65) n0F)) H := hP
  refine xv_iinc T (y := 4) (lv' := [(1, .int (iI 4)), (0, .ref b)]) dX1_init_42 hl (q := 0) rfl (by decide) (by decide) rfl (fun ls hl => ?_)
  refine lv_goto T.1 T.2.1 (tgt := 24) dX1_init_45 (by decide) ?_
  refine lv_iload_n T.1 T.2.1 dX1_init_24 rfl (lv_at hl 0 rfl) ?_
  refine xv_iconst T dX1_init_25 ?_
  refine xv_icmp_gt T (by decide) (tgt := 48) dX1_init_26 (by decide) (fun c1 => absurd c1 (by decide)) (fun _ => ?_)
  refine lv_aload_n T.1 T.2.1 dX1_init_29 rfl (lv_at hl 1 rfl) ?_
  refine g1_states T hK hP 0 rfl rfl mw_1_190 dX1_init_30 ?_
  refine lv_iload_n T.1 T.2.1 dX1_init_33 rfl (lv_at hl 0 rfl) ?_
  refine xn_new (ci := 6) T hK hP hS hz inX6 tyX6 tyX6_ok mw_1_184 mw_1_20 mw_1_2 rfl (fs := [.int 0, .int 0, .int 0, .null, .null, .null, .null, .null, .null]) hfsX6 ⟨Nat.le_of_ble_eq_true rfl, Nat.le_of_ble_eq_true rfl⟩ dX1_init_34 (fun H hz hP hS => ?_)
  have hz : H.size = b + 87 := hz
  refine lv_dup T.1 T.2.1 dX1_init_37 rfl ?_
  refine cN T hAO hK hS (c_X6_init l K (b + 86)) iiX6 mw_1_186 ⟨Nat.le_of_ble_eq_true rfl, Nat.le_of_ble_eq_true rfl⟩ hz (xP_r hP) (fun q h => Nat.le_trans (Nat.le_add_right b 86) h) hl.1 (Nat.le_of_ble_eq_true rfl) ⟨Nat.le_of_ble_eq_true rfl, Nat.le_of_ble_eq_true rfl⟩ dX1_init_38 (fun H1 locs hz1 hP1 hkp hS => ?_)
  have hC := (show cns b ([(b, .inr (1, [.int (iI 0), .int (iI 0), .ref (b + 1)])), (b + 1, .inl (K.2.2.2.2, 5, .inr (.inr (.inr (.inr (va_up (va_up (va_up (va_up (fun _ => none) (0 : Int).toNat (some (b + 2))) (1 : Int).toNat (some (b + 23))) (2 : Int).toNat (some (b + 44))) (3 : Int).toNat (some (b + 65))))))))] ++ (((shipW K (b + 2) n0F ++ shipW K (b + 23) n0F) ++ shipW K (b + 44) n0F) ++ shipW K (b + 65) n0F)) from cns_app2 ⟨rfl, rfl, trivial⟩ (show ([(b, .inr (1, [.int (iI 0), .int (iI 0), .ref (b + 1)])), (b + 1, .inl (K.2.2.2.2, 5, .inr (.inr (.inr (.inr (va_up (va_up (va_up (va_up (fun _ => none) (0 : Int).toNat (some (b + 2))) (1 : Int).toNat (some (b + 23))) (2 : Int).toNat (some (b + 44))) (3 : Int).toNat (some (b + 65))))))))] : va_W).length = 2 from rfl) rfl (cns_app2 (cns_app2 (cns_app2 (ship_cns K (b + 2) n0F) (ship_len K (b + 2) n0F) rfl (ship_cns K (b + 23) n0F)) (len_app (ship_len K (b + 2) n0F) (ship_len K (b + 23) n0F) (show 21 + 21 = 42 from rfl)) rfl (ship_cns K (b + 44) n0F)) (len_app (len_app (ship_len K (b + 2) n0F) (ship_len K (b + 23) n0F) (show 21 + 21 = 42 from rfl)) (ship_len K (b + 44) n0F) (show 42 + 21 = 63 from rfl)) rfl (ship_cns K (b + 65) n0F)))
  have hP0 : xP K ([(b, .inr (1, [.int (iI 0), .int (iI 0), .ref (b + 1)])), (b + 1, .inl (K.2.2.2.2, 5, .inr (.inr (.inr (.inr (va_up (va_up (va_up (va_up (fun _ => none) (0 : Int).toNat (some (b + 2))) (1 : Int).toNat (some (b + 23))) (2 : Int).toNat (some (b + 44))) (3 : Int).toNat (some (b + 65))))))))] ++ (((shipW K (b + 2) n0F ++ shipW K (b + 23) n0F) ++ shipW K (b + 44) n0F) ++ shipW K (b + 65) n0F)) H1 := ini_keep hP hC (len_app (show ([(b, .inr (1, [.int (iI 0), .int (iI 0), .ref (b + 1)])), (b + 1, .inl (K.2.2.2.2, 5, .inr (.inr (.inr (.inr (va_up (va_up (va_up (va_up (fun _ => none) (0 : Int).toNat (some (b + 2))) (1 : Int).toNat (some (b + 23))) (2 : Int).toNat (some (b + 44))) (3 : Int).toNat (some (b + 65))))))))] : va_W).length = 2 from rfl) (len_app (len_app (len_app (ship_len K (b + 2) n0F) (ship_len K (b + 23) n0F) (show 21 + 21 = 42 from rfl)) (ship_len K (b + 44) n0F) (show 42 + 21 = 63 from rfl)) (ship_len K (b + 65) n0F) (show 63 + 21 = 84 from rfl)) (show 2 + 84 = 86 from rfl)) (Nat.le_refl _) hkp
  have hP : xP K ([(b, .inr (1, [.int (iI 0), .int (iI 0), .ref (b + 1)])), (b + 1, .inl (K.2.2.2.2, 5, .inr (.inr (.inr (.inr (va_up (va_up (va_up (va_up (fun _ => none) (0 : Int).toNat (some (b + 2))) (1 : Int).toNat (some (b + 23))) (2 : Int).toNat (some (b + 44))) (3 : Int).toNat (some (b + 65))))))))] ++ ((((shipW K (b + 2) n0F ++ shipW K (b + 23) n0F) ++ shipW K (b + 44) n0F) ++ shipW K (b + 65) n0F) ++ shipW K (b + 86) n0F)) H1 := xP_app (xP_l hP0) (xP_app (xP_r hP0) hP1)
  have hz : H1.size = b + 107 := hz1
  clear hkp hP0 hP1 hz1 hC
  generalize H1 = H at hP hS hz ⊢
  refine xn_aast T hK hP (cns_D (show cns b ([(b, .inr (1, [.int (iI 0), .int (iI 0), .ref (b + 1)])), (b + 1, .inl (K.2.2.2.2, 5, .inr (.inr (.inr (.inr (va_up (va_up (va_up (va_up (fun _ => none) (0 : Int).toNat (some (b + 2))) (1 : Int).toNat (some (b + 23))) (2 : Int).toNat (some (b + 44))) (3 : Int).toNat (some (b + 65))))))))] ++ ((((shipW K (b + 2) n0F ++ shipW K (b + 23) n0F) ++ shipW K (b + 44) n0F) ++ shipW K (b + 65) n0F) ++ shipW K (b + 86) n0F)) from cns_app2 ⟨rfl, rfl, trivial⟩ (show ([(b, .inr (1, [.int (iI 0), .int (iI 0), .ref (b + 1)])), (b + 1, .inl (K.2.2.2.2, 5, .inr (.inr (.inr (.inr (va_up (va_up (va_up (va_up (fun _ => none) (0 : Int).toNat (some (b + 2))) (1 : Int).toNat (some (b + 23))) (2 : Int).toNat (some (b + 44))) (3 : Int).toNat (some (b + 65))))))))] : va_W).length = 2 from rfl) rfl (cns_app2 (cns_app2 (cns_app2 (cns_app2 (ship_cns K (b + 2) n0F) (ship_len K (b + 2) n0F) rfl (ship_cns K (b + 23) n0F)) (len_app (ship_len K (b + 2) n0F) (ship_len K (b + 23) n0F) (show 21 + 21 = 42 from rfl)) rfl (ship_cns K (b + 44) n0F)) (len_app (len_app (ship_len K (b + 2) n0F) (ship_len K (b + 23) n0F) (show 21 + 21 = 42 from rfl)) (ship_len K (b + 44) n0F) (show 42 + 21 = 63 from rfl)) rfl (ship_cns K (b + 65) n0F)) (len_app (len_app (len_app (ship_len K (b + 2) n0F) (ship_len K (b + 23) n0F) (show 21 + 21 = 42 from rfl)) (ship_len K (b + 44) n0F) (show 42 + 21 = 63 from rfl)) (ship_len K (b + 65) n0F) (show 63 + 21 = 84 from rfl)) rfl (ship_cns K (b + 86) n0F)))) hS hz 1 86 rfl rfl (by decide) (by decide) dX1_init_41 (fun H locs hz hP hS => ?_)
  have hP := two_set hP (Nat.le_of_ble_eq_true rfl)
  have hP : xP K ([(b, .inr (1, [.int (iI 0), .int (iI 0), .ref (b + 1)])), (b + 1, .inl (K.2.2.2.2, 5, .inr (.inr (.inr (.inr (va_up (va_up (va_up (va_up (va_up (fun _ => none) (0 : Int).toNat (some (b + 2))) (1 : Int).toNat (some (b + 23))) (2 : Int).toNat (some (b + 44))) (3 : Int).toNat (some (b + 65))) (4 : Int).toNat (some (b + 86))))))))] ++ ((((shipW K (b + 2) n0F ++ shipW K (b + 23) n0F) ++ shipW K (b + 44) n0F) ++ shipW K (b + 65) n0F) ++ shipW K (b + 86) n0F)) H := hP
  refine xv_iinc T (y := 5) (lv' := [(1, .int (iI 5)), (0, .ref b)]) dX1_init_42 hl (q := 0) rfl (by decide) (by decide) rfl (fun ls hl => ?_)
  refine lv_goto T.1 T.2.1 (tgt := 24) dX1_init_45 (by decide) ?_
  refine lv_iload_n T.1 T.2.1 dX1_init_24 rfl (lv_at hl 0 rfl) ?_
  refine xv_iconst T dX1_init_25 ?_
  refine xv_icmp_gt T (by decide) (tgt := 48) dX1_init_26 (by decide) (fun _ => ?_) (fun c1 => absurd c1 (by decide))
  exact rN T hr hk hK hz (xP_app (hist_f (xP_l hP) (fun j hj => by rcases (show j = 0 ∨ j = 1 ∨ j = 2 ∨ j = 3 ∨ j = 4 by omega) with rfl | rfl | rfl | rfl | rfl <;> rfl)) (xP_app (xP_l (xP_l (xP_l (xP_l (xP_r hP))))) (xP_app (xP_r (xP_l (xP_l (xP_l (xP_r hP))))) (xP_app (xP_r (xP_l (xP_l (xP_r hP)))) (xP_app (xP_r (xP_l (xP_r hP))) (xP_r (xP_r hP))))))) hS dX1_init_48
set_option maxHeartbeats 8000000 in
set_option maxRecDepth 100000 in
theorem c_X3_init (l : Launch) (K : KT) (b : Nat) : CtN l yX3_init cX3_init 1 1 20 2 84 K b [(b, .inr (3, [.int 0, .int 0, .int 0, .int 0, .int 0, .int 0, .int 0, .null, .null]))] (logW K b zF zF zF) := by
  refine CtN_of (by decide) rfl (Nat.le_of_ble_eq_true rfl) ?_
  intro p e s m args below meth c T hin hr hk hz hP hK hAO ls hl
  have T : CF p m c cX3_init 1 s args RX3 := T
  have hl : lv_has ls 1 [(0, .ref b)] := hl
  obtain ⟨H, hHe⟩ : ∃ H : Heap, H = s.heap := ⟨_, rfl⟩
  have hS : va_S (fun q => b ≤ q) s.heap H [] := by rw [hHe]; exact va_S.rf
  rw [← hHe] at hP hz ⊢
  clear hHe
  refine lv_aload_n T.1 T.2.1 dX3_init_0 rfl (lv_at hl 0 rfl) ?_
  refine xn_obj T mw_1_203 hl.1 dX3_init_1 ⟨Nat.le_of_ble_eq_true rfl, Nat.le_of_ble_eq_true rfl⟩ ?_
  refine lv_aload_n T.1 T.2.1 dX3_init_4 rfl (lv_at hl 0 rfl) ?_
  refine xv_iconst T dX3_init_5 ?_
  refine xn_put T inX3 tyX3 tyX3_ok nmX3 hK hP (cns_D (show cns b ([(b, .inr (3, [.int 0, .int 0, .int 0, .int 0, .int 0, .int 0, .int 0, .null, .null]))]) from ⟨rfl, trivial⟩)) hS hz 0 rfl rfl 0 (by decide) mw_1_204 (fun _ h9 => h9) rfl (ty := .int) (by decide +kernel) rfl rfl (Nat.le_of_ble_eq_true rfl) dX3_init_6 (fun H locs hz hP hS => ?_)
  have hP : xP K ([(b, .inr (3, [.int (iI 0), .int 0, .int 0, .int 0, .int 0, .int 0, .int 0, .null, .null]))]) H := hP
  refine lv_aload_n T.1 T.2.1 dX3_init_9 rfl (lv_at hl 0 rfl) ?_
  refine xv_iconst T dX3_init_10 ?_
  refine xn_newi T hK hP hS hz (n := 4) rfl (Nat.le_of_ble_eq_true rfl) ⟨Nat.le_of_ble_eq_true rfl, Nat.le_of_ble_eq_true rfl⟩ dX3_init_11 (fun H hz hP hS => ?_)
  have hP : xP K ([(b, .inr (3, [.int (iI 0), .int 0, .int 0, .int 0, .int 0, .int 0, .int 0, .null, .null])), (b + 1, .inl (K.2.1, 4, .inl (fun _ => 0)))]) H := hP
  have hz : H.size = b + 2 := hz
  refine xn_putF T inX3 tyX3 tyX3_ok nmX3 hK hP (cns_D (show cns b ([(b, .inr (3, [.int (iI 0), .int 0, .int 0, .int 0, .int 0, .int 0, .int 0, .null, .null])), (b + 1, .inl (K.2.1, 4, .inl (fun _ => 0)))]) from ⟨rfl, rfl, trivial⟩)) hS hz 0 rfl rfl 7 (by decide) mw_1_215 (fun _ h9 => h9) rfl hin rfl (ty := .array .int) (by decide +kernel) rfl rfl (Nat.le_of_ble_eq_true rfl) dX3_init_13 (fun H locs hz hP hS => ?_)
  have hP : xP K ([(b, .inr (3, [.int (iI 0), .int 0, .int 0, .int 0, .int 0, .int 0, .int 0, .ref (b + 1), .null])), (b + 1, .inl (K.2.1, 4, .inl (fun _ => 0)))]) H := hP
  refine lv_aload_n T.1 T.2.1 dX3_init_16 rfl (lv_at hl 0 rfl) ?_
  refine xv_bipush T dX3_init_17 (by decide) ?_
  refine xn_newc T hK hP hS hz (n := 80) rfl (Nat.le_of_ble_eq_true rfl) ⟨Nat.le_of_ble_eq_true rfl, Nat.le_of_ble_eq_true rfl⟩ dX3_init_19 (fun H hz hP hS => ?_)
  have hP : xP K ([(b, .inr (3, [.int (iI 0), .int 0, .int 0, .int 0, .int 0, .int 0, .int 0, .ref (b + 1), .null])), (b + 1, .inl (K.2.1, 4, .inl (fun _ => 0))), (b + 2, .inl (K.2.2.2.1, 80, .inl (fun _ => 0)))]) H := hP
  have hz : H.size = b + 3 := hz
  refine xn_putF T inX3 tyX3 tyX3_ok nmX3 hK hP (cns_D (show cns b ([(b, .inr (3, [.int (iI 0), .int 0, .int 0, .int 0, .int 0, .int 0, .int 0, .ref (b + 1), .null])), (b + 1, .inl (K.2.1, 4, .inl (fun _ => 0))), (b + 2, .inl (K.2.2.2.1, 80, .inl (fun _ => 0)))]) from ⟨rfl, rfl, rfl, trivial⟩)) hS hz 0 rfl rfl 8 (by decide) mw_1_216 (fun _ h9 => h9) rfl hin rfl (ty := .array .char) (by decide +kernel) rfl rfl (Nat.le_of_ble_eq_true rfl) dX3_init_21 (fun H locs hz hP hS => ?_)
  have hP : xP K ([(b, .inr (3, [.int (iI 0), .int 0, .int 0, .int 0, .int 0, .int 0, .int 0, .ref (b + 1), .ref (b + 2)])), (b + 1, .inl (K.2.1, 4, .inl (fun _ => 0))), (b + 2, .inl (K.2.2.2.1, 80, .inl (fun _ => 0)))]) H := hP
  exact rN T hr hk hK hz (log_mk hP rfl rfl rfl rfl rfl rfl rfl (vI_z 4 fun _ _ _ => rfl) (vI_z 80 fun _ _ _ => rfl)) hS dX3_init_24
