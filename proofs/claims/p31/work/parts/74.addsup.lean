set_option maxHeartbeats 4000000 in
set_option maxRecDepth 100000 in
theorem sg_L_addsUp_564 {p : Program} {l : Launch} {e : Env} {s : State} {m : MethodId} {args : Array Value} {below : List Frame} {meth : Method} {c : Code} {K : KT} {o : Nat} {N : Int → Int} {st : List (Int → Int)} (T : CF p m c cL_addsUp 15 s args RL) (hr : meth.sig.returnType = some .boolean) (hk : meth.locks = false) (hK : xK K s) (hX : InX N) : ∀ (fuel : Nat) (g : Int) (H : Heap) (locs : List Loc) (ls : Array Slot), (0 ≤ g ∧ g ≤ N 5) → N 5 - g < (fuel : Int) → LwY K o N st H → va_S (Blk o 153) s.heap H locs → lv_has ls 15 [(0, .ref o), (3, .int (iI 1)), (9, .int (iI g))] → W p l e (rmF 3 80) s m args below meth c H locs 0 0 (MQ below (qI K (fun z (u : YT) => (poS N st) z u.1 u.2.1 ∧ yOk u) (yW K o) (Blk o 153)) args s 0 0 (Blk o 153)) (F0 m 564 ls []) := by
  have hR := inY_R (inY hX.1)
  obtain ⟨b0, b1, b2, b3, b4, b5, b6, b7, b8, b9⟩ := inY_b (inY hX.1)
  have hc1 := cntF_in (N := N) 1 b4.1
  have hc2 := cntF_in (N := N) 2 b4.1
  have hlv := livF_in (N := N) b6.1
  have hem := em_in hX
  have hM := hX.2.2.1.1
  unfold EM at hM
  intro fuel
  induction fuel with
  | zero =>
    intro g H locs ls hg hm hP hS hl
    exact absurd hm (by omega)
  | succ fuel ih564 =>
    intro g H locs ls hg hm hP hS hl
    refine lv_iload T.1 T.2.1 dL_addsUp_564 (lv_at hl 2 rfl) ?_
    refine lv_aload_n T.1 T.2.1 dL_addsUp_566 rfl (lv_at hl 0 rfl) ?_
    refine xv_iconst T dL_addsUp_567 ?_
    refine ly_count T hK hP hS (fun _ h => h) (by omega) (w := N 5) rfl mw_3_50 ⟨Nat.le_of_ble_eq_true rfl, Nat.le_of_ble_eq_true rfl⟩ hl.1 (Nat.le_of_ble_eq_true rfl) ⟨Nat.zero_le _, Nat.zero_le _⟩ dL_addsUp_568 (fun H locs hP hS => ?_)
    refine xv_icmp_ge T (by omega) (tgt := 891) dL_addsUp_571 (by decide) (fun c1 => ?_) (fun c1 => ?_)
    · skip
      refine lv_iload_n T.1 T.2.1 dL_addsUp_891 rfl (lv_at hl 1 rfl) ?_
      exact ryB T hr hk hK hP hS (by omega) dL_addsUp_892 ⟨rfl, rfl, rfl⟩
    · skip
      refine lv_iload_n T.1 T.2.1 dL_addsUp_574 rfl (lv_at hl 1 rfl) ?_
      refine xv_if_eq T (by omega) (tgt := 891) dL_addsUp_575 (by decide) (fun c2 => absurd c2 (by omega)) (fun _ => ?_)
      have hg8 : 0 ≤ g ∧ g < 8 := by omega
      have hnx := nxt_rest hR (g := g) hg.1
      refine xv_iconst T dL_addsUp_578 ?_
      refine lv_istore (lv' := [(10, .int (iI 0)), (0, .ref o), (3, .int (iI 1)), (9, .int (iI g))]) T.1 T.2.1 dL_addsUp_579 hl (by decide) rfl (fun ls hl => ?_)
      refine xv_iconst T dL_addsUp_581 ?_
      refine lv_istore (lv' := [(11, .int (iI 0)), (10, .int (iI 0)), (0, .ref o), (3, .int (iI 1)), (9, .int (iI g))]) T.1 T.2.1 dL_addsUp_582 hl (by decide) rfl (fun ls hl => ?_)
      refine xv_iconst T dL_addsUp_584 ?_
      refine lv_istore (lv' := [(12, .int (iI 0)), (11, .int (iI 0)), (10, .int (iI 0)), (0, .ref o), (3, .int (iI 1)), (9, .int (iI g))]) T.1 T.2.1 dL_addsUp_585 hl (by decide) rfl (fun ls hl => ?_)
      refine lv_aload_n T.1 T.2.1 dL_addsUp_587 rfl (lv_at hl 3 rfl) ?_
      refine lv_iload T.1 T.2.1 dL_addsUp_588 (lv_at hl 5 rfl) ?_
      refine ly_nextBond T hK hP hS (fun _ h => h) (by omega) (w := nxt N g (-1)) (rnb (by omega)) mw_3_151 ⟨Nat.le_of_ble_eq_true rfl, Nat.le_of_ble_eq_true rfl⟩ hl.1 (Nat.le_of_ble_eq_true rfl) ⟨Nat.zero_le _, Nat.zero_le _⟩ dL_addsUp_590 (fun H locs hP hS => ?_)
      refine lv_istore (lv' := [(13, .int (iI (nxt N g (-1)))), (12, .int (iI 0)), (11, .int (iI 0)), (10, .int (iI 0)), (0, .ref o), (3, .int (iI 1)), (9, .int (iI g))]) T.1 T.2.1 dL_addsUp_593 hl (by decide) rfl (fun ls hl => ?_)
      refine xv_iconst T dL_addsUp_595 ?_
      refine lv_istore (lv' := [(14, .int (iI 0)), (13, .int (iI (nxt N g (-1)))), (12, .int (iI 0)), (11, .int (iI 0)), (10, .int (iI 0)), (0, .ref o), (3, .int (iI 1)), (9, .int (iI g))]) T.1 T.2.1 dL_addsUp_596 hl (by decide) rfl (fun ls hl => ?_)
      have lp598 : ∀ (fuel : Nat) (un : Int) (gn : Int) (l1 : Int) (H : Heap) (locs : List Loc) (ls : Array Slot), (0 ≤ l1 ∧ l1 ≤ N 4) → (un = sumZ (fun k => N (24 + 8 * k + g)) l1.toNat) → (gn = sumZ (fun k => N (64 + 8 * k + g)) l1.toNat) → N 4 - l1 < (fuel : Int) → LwY K o N st H → va_S (Blk o 153) s.heap H locs → lv_has ls 15 [(0, .ref o), (3, .int (iI 1)), (9, .int (iI g)), (10, .int (iI un)), (11, .int (iI gn)), (12, .int (iI 0)), (13, .int (iI (nxt N g (-1)))), (14, .int (iI l1))] → W p l e (rmF 3 80) s m args below meth c H locs 0 0 (MQ below (qI K (fun z (u : YT) => (poS N st) z u.1 u.2.1 ∧ yOk u) (yW K o) (Blk o 153)) args s 0 0 (Blk o 153)) (F0 m 598 ls []) := by
        intro fuel
        induction fuel with
        | zero =>
          intro un gn l1 H locs ls hl1 hun hgn hm hP hS hl
          exact absurd hm (by omega)
        | succ fuel ih598 =>
          intro un gn l1 H locs ls hl1 hun hgn hm hP hS hl
          refine lv_iload T.1 T.2.1 dL_addsUp_598 (lv_at hl 7 rfl) ?_
          refine lv_aload_n T.1 T.2.1 dL_addsUp_600 rfl (lv_at hl 0 rfl) ?_
          refine xv_iconst T dL_addsUp_601 ?_
          refine ly_count T hK hP hS (fun _ h => h) (by omega) (w := N 4) rfl mw_3_50 ⟨Nat.le_of_ble_eq_true rfl, Nat.le_of_ble_eq_true rfl⟩ hl.1 (Nat.le_of_ble_eq_true rfl) ⟨Nat.zero_le _, Nat.zero_le _⟩ dL_addsUp_602 (fun H locs hP hS => ?_)
          refine xv_icmp_ge T (by omega) (tgt := 640) dL_addsUp_605 (by decide) (fun c3 => ?_) (fun c3 => ?_)
          · skip
            refine xv_iconst T dL_addsUp_640 ?_
            refine lv_istore (lv' := [(14, .int (iI 0)), (0, .ref o), (3, .int (iI 1)), (9, .int (iI g)), (10, .int (iI un)), (11, .int (iI gn)), (12, .int (iI 0)), (13, .int (iI (nxt N g (-1))))]) T.1 T.2.1 dL_addsUp_641 hl (by decide) rfl (fun ls hl => ?_)
            have lp643 : ∀ (fuel : Nat) (bn : Int) (b : Int) (H : Heap) (locs : List Loc) (ls : Array Slot), (0 ≤ b ∧ b ≤ N 6) → (bn = sumZ (fun b => if N (152 + b) = g then N (272 + b) else 0) b.toNat) → N 6 - b < (fuel : Int) → LwY K o N st H → va_S (Blk o 153) s.heap H locs → lv_has ls 15 [(0, .ref o), (3, .int (iI 1)), (9, .int (iI g)), (10, .int (iI un)), (11, .int (iI gn)), (12, .int (iI bn)), (13, .int (iI (nxt N g (-1)))), (14, .int (iI b))] → W p l e (rmF 3 80) s m args below meth c H locs 0 0 (MQ below (qI K (fun z (u : YT) => (poS N st) z u.1 u.2.1 ∧ yOk u) (yW K o) (Blk o 153)) args s 0 0 (Blk o 153)) (F0 m 643 ls []) := by
              intro fuel
              induction fuel with
              | zero =>
                intro bn b H locs ls hb hbn hm hP hS hl
                exact absurd hm (by omega)
              | succ fuel ih643 =>
                intro bn b H locs ls hb hbn hm hP hS hl
                refine lv_iload T.1 T.2.1 dL_addsUp_643 (lv_at hl 7 rfl) ?_
                refine lv_aload_n T.1 T.2.1 dL_addsUp_645 rfl (lv_at hl 0 rfl) ?_
                refine xv_iconst T dL_addsUp_646 ?_
                refine ly_count T hK hP hS (fun _ h => h) (by omega) (w := N 6) rfl mw_3_50 ⟨Nat.le_of_ble_eq_true rfl, Nat.le_of_ble_eq_true rfl⟩ hl.1 (Nat.le_of_ble_eq_true rfl) ⟨Nat.zero_le _, Nat.zero_le _⟩ dL_addsUp_647 (fun H locs hP hS => ?_)
                refine xv_icmp_ge T (by omega) (tgt := 749) dL_addsUp_650 (by decide) (fun c4 => ?_) (fun c4 => ?_)
                · skip
                  have hbn2 : bn = restF N g := by rw [hbn, show b = N 6 by omega]; rfl
                  have hun2 : un = hasF N g := by rw [hun, show l1 = N 4 by omega]; exact (sumL hX.1 hg8).2
                  have hgn2 : gn = missF N g := by rw [hgn, show l1 = N 4 by omega]; exact (sumL hX.1 hg8).1
                  have hEC := hX.2.1 g hg8.1 hg8.2
                  have hEA := hX.2.2.1.2.1 g hg8.1 hg8.2
                  have hcc := inY_c (inY hX.1) hg8
                  have hld := loaded_in hX hg8
                  rcases hnx with hnx | hnx
                  · skip
                    refine lv_iload_n T.1 T.2.1 dL_addsUp_749 rfl (lv_at hl 1 rfl) ?_
                    refine xv_if_eq T (by omega) (tgt := 883) dL_addsUp_750 (by decide) (fun c5 => absurd c5 (by omega)) (fun _ => ?_)
                    refine lv_iload T.1 T.2.1 dL_addsUp_753 (lv_at hl 6 rfl) ?_
                    refine xv_bipush T dL_addsUp_755 (by omega) ?_
                    refine xv_icmp_ne T (by omega) (tgt := 764) dL_addsUp_757 (by decide) (fun c6 => absurd c6 (by omega)) (fun _ => ?_)
                    refine xv_iconst T dL_addsUp_760 ?_
                    refine lv_goto T.1 T.2.1 (tgt := 765) dL_addsUp_761 (by decide) ?_
                    refine lv_iload T.1 T.2.1 dL_addsUp_765 (lv_at hl 5 rfl) ?_
                    refine xv_if_ne T (by omega) (tgt := 774) dL_addsUp_767 (by decide) (fun c7 => absurd c7 (by omega)) (fun _ => ?_)
                    refine xv_iconst T dL_addsUp_770 ?_
                    refine lv_goto T.1 T.2.1 (tgt := 775) dL_addsUp_771 (by decide) ?_
                    refine xv_icmp_ne T (by omega) (tgt := 883) dL_addsUp_775 (by decide) (fun c8 => absurd c8 (by omega)) (fun _ => ?_)
                    refine lv_aload_n T.1 T.2.1 dL_addsUp_778 rfl (lv_at hl 0 rfl) ?_
                    refine lv_iload T.1 T.2.1 dL_addsUp_779 (lv_at hl 2 rfl) ?_
                    refine xv_iconst T dL_addsUp_781 ?_
                    refine ly_account T hK hP hS (fun _ h => h) (by omega) (by omega) (w := hasF N g) (rac1 (by omega)) mw_3_24 ⟨Nat.le_of_ble_eq_true rfl, Nat.le_of_ble_eq_true rfl⟩ hl.1 (Nat.le_of_ble_eq_true rfl) ⟨Nat.zero_le _, Nat.zero_le _⟩ dL_addsUp_782 (fun H locs hP hS => ?_)
                    refine lv_iload T.1 T.2.1 dL_addsUp_785 (lv_at hl 3 rfl) ?_
                    refine xv_icmp_ne T (by omega) (tgt := 883) dL_addsUp_787 (by decide) (fun c9 => absurd c9 (by omega)) (fun _ => ?_)
                    refine lv_aload_n T.1 T.2.1 dL_addsUp_790 rfl (lv_at hl 0 rfl) ?_
                    refine lv_iload T.1 T.2.1 dL_addsUp_791 (lv_at hl 2 rfl) ?_
                    refine xv_iconst T dL_addsUp_793 ?_
                    refine ly_account T hK hP hS (fun _ h => h) (by omega) (by omega) (w := missF N g) (rac2 (by omega)) mw_3_24 ⟨Nat.le_of_ble_eq_true rfl, Nat.le_of_ble_eq_true rfl⟩ hl.1 (Nat.le_of_ble_eq_true rfl) ⟨Nat.zero_le _, Nat.zero_le _⟩ dL_addsUp_794 (fun H locs hP hS => ?_)
                    refine lv_iload T.1 T.2.1 dL_addsUp_797 (lv_at hl 4 rfl) ?_
                    refine xv_icmp_ne T (by omega) (tgt := 883) dL_addsUp_799 (by decide) (fun c10 => absurd c10 (by omega)) (fun _ => ?_)
                    refine lv_iload T.1 T.2.1 dL_addsUp_802 (lv_at hl 3 rfl) ?_
                    refine lv_iload T.1 T.2.1 dL_addsUp_804 (lv_at hl 4 rfl) ?_
                    refine xv_iadd T dL_addsUp_806 ?_
                    refine lv_iload T.1 T.2.1 dL_addsUp_807 (lv_at hl 5 rfl) ?_
                    refine xv_icmp_ne T (by omega) (tgt := 883) dL_addsUp_809 (by decide) (fun c11 => absurd c11 (by omega)) (fun _ => ?_)
                    refine lv_aload_n T.1 T.2.1 dL_addsUp_812 rfl (lv_at hl 0 rfl) ?_
                    refine lv_iload T.1 T.2.1 dL_addsUp_813 (lv_at hl 2 rfl) ?_
                    refine xv_iconst T dL_addsUp_815 ?_
                    refine ly_account T hK hP hS (fun _ h => h) (by omega) (by omega) (w := N (112 + g)) (rac0 (by omega)) mw_3_24 ⟨Nat.le_of_ble_eq_true rfl, Nat.le_of_ble_eq_true rfl⟩ hl.1 (Nat.le_of_ble_eq_true rfl) ⟨Nat.zero_le _, Nat.zero_le _⟩ dL_addsUp_816 (fun H locs hP hS => ?_)
                    refine lv_iload T.1 T.2.1 dL_addsUp_819 (lv_at hl 5 rfl) ?_
                    refine lv_aload_n T.1 T.2.1 dL_addsUp_821 rfl (lv_at hl 0 rfl) ?_
                    refine lv_iload T.1 T.2.1 dL_addsUp_822 (lv_at hl 2 rfl) ?_
                    refine xv_iconst T dL_addsUp_824 ?_
                    refine ly_account T hK hP hS (fun _ h => h) (by omega) (by omega) (w := N (120 + 4 * g)) (rac_3 (by omega)) mw_3_24 ⟨Nat.le_of_ble_eq_true rfl, Nat.le_of_ble_eq_true rfl⟩ hl.1 (Nat.le_of_ble_eq_true rfl) ⟨Nat.zero_le _, Nat.zero_le _⟩ dL_addsUp_825 (fun H locs hP hS => ?_)
                    refine xv_iadd T dL_addsUp_828 ?_
                    refine lv_aload_n T.1 T.2.1 dL_addsUp_829 rfl (lv_at hl 0 rfl) ?_
                    refine lv_iload T.1 T.2.1 dL_addsUp_830 (lv_at hl 2 rfl) ?_
                    refine xv_iconst T dL_addsUp_832 ?_
                    refine ly_account T hK hP hS (fun _ h => h) (by omega) (by omega) (w := N (121 + 4 * g)) (rac_4 (by omega)) mw_3_24 ⟨Nat.le_of_ble_eq_true rfl, Nat.le_of_ble_eq_true rfl⟩ hl.1 (Nat.le_of_ble_eq_true rfl) ⟨Nat.zero_le _, Nat.zero_le _⟩ dL_addsUp_833 (fun H locs hP hS => ?_)
                    refine xv_iadd T dL_addsUp_836 ?_
                    refine lv_aload_n T.1 T.2.1 dL_addsUp_837 rfl (lv_at hl 0 rfl) ?_
                    refine lv_iload T.1 T.2.1 dL_addsUp_838 (lv_at hl 2 rfl) ?_
                    refine xv_iconst T dL_addsUp_840 ?_
                    refine ly_account T hK hP hS (fun _ h => h) (by omega) (by omega) (w := N (122 + 4 * g)) (rac_5 (by omega)) mw_3_24 ⟨Nat.le_of_ble_eq_true rfl, Nat.le_of_ble_eq_true rfl⟩ hl.1 (Nat.le_of_ble_eq_true rfl) ⟨Nat.zero_le _, Nat.zero_le _⟩ dL_addsUp_841 (fun H locs hP hS => ?_)
                    refine xv_iadd T dL_addsUp_844 ?_
                    refine lv_aload_n T.1 T.2.1 dL_addsUp_845 rfl (lv_at hl 0 rfl) ?_
                    refine lv_iload T.1 T.2.1 dL_addsUp_846 (lv_at hl 2 rfl) ?_
                    refine xv_bipush T dL_addsUp_848 (by omega) ?_
                    refine ly_account T hK hP hS (fun _ h => h) (by omega) (by omega) (w := N (123 + 4 * g)) (rac_6 (by omega)) mw_3_24 ⟨Nat.le_of_ble_eq_true rfl, Nat.le_of_ble_eq_true rfl⟩ hl.1 (Nat.le_of_ble_eq_true rfl) ⟨Nat.zero_le _, Nat.zero_le _⟩ dL_addsUp_850 (fun H locs hP hS => ?_)
                    refine xv_iadd T dL_addsUp_853 ?_
                    refine xv_icmp_ne T (by omega) (tgt := 883) dL_addsUp_854 (by decide) (fun c12 => absurd c12 (by omega)) (fun _ => ?_)
                    refine lv_iload T.1 T.2.1 dL_addsUp_857 (lv_at hl 5 rfl) ?_
                    refine xv_ldc T mw_3_177 (n := 99999) (by decide +kernel) dL_addsUp_859 ?_
                    refine xv_icmp_ge T (by omega) (tgt := 879) dL_addsUp_861 (by decide) (fun c13 => ?_) (fun c13 => ?_)
                    · skip
                      refine xv_iconst T dL_addsUp_879 ?_
                      refine lv_goto T.1 T.2.1 (tgt := 884) dL_addsUp_880 (by decide) ?_
                      refine lv_istore_n (lv' := [(3, .int (iI 1)), (0, .ref o), (9, .int (iI g)), (10, .int (iI un)), (11, .int (iI gn)), (12, .int (iI bn)), (13, .int (iI (nxt N g (-1)))), (14, .int (iI b))]) T.1 T.2.1 dL_addsUp_884 rfl hl (by decide) rfl (fun ls hl => ?_)
                      refine xv_iinc T (y := g + 1) (lv' := [(9, .int (iI (g + 1))), (3, .int (iI 1)), (0, .ref o), (10, .int (iI un)), (11, .int (iI gn)), (12, .int (iI bn)), (13, .int (iI (nxt N g (-1)))), (14, .int (iI b))]) dL_addsUp_885 hl (q := 2) rfl (by omega) (by decide) rfl (fun ls hl => ?_)
                      refine lv_goto T.1 T.2.1 (tgt := 564) dL_addsUp_888 (by decide) ?_
                      exact ih564 (g + 1) _ _ ls (by omega) (by omega) hP hS (lv_sub hl [2, 1, 0] rfl)
                    · skip
                      refine lv_aload_n T.1 T.2.1 dL_addsUp_864 rfl (lv_at hl 0 rfl) ?_
                      refine lv_iload T.1 T.2.1 dL_addsUp_865 (lv_at hl 2 rfl) ?_
                      refine lv_iload T.1 T.2.1 dL_addsUp_867 (lv_at hl 5 rfl) ?_
                      refine xv_iconst T dL_addsUp_869 ?_
                      refine xv_iadd T dL_addsUp_870 ?_
                      refine ly_worth T hK hP hS (fun _ h => h) (by omega) (by omega) (w := (-4)) (by rw [hbn2]; exact worth_no hX (by omega) (by omega)) mw_3_67 ⟨Nat.le_of_ble_eq_true rfl, Nat.le_of_ble_eq_true rfl⟩ hl.1 (Nat.le_of_ble_eq_true rfl) ⟨Nat.zero_le _, Nat.zero_le _⟩ dL_addsUp_871 (fun H locs hP hS => ?_)
                      refine xv_bipush T dL_addsUp_874 (by omega) ?_
                      refine xv_icmp_ne T (by omega) (tgt := 883) dL_addsUp_876 (by decide) (fun c14 => absurd c14 (by omega)) (fun _ => ?_)
                      refine xv_iconst T dL_addsUp_879 ?_
                      refine lv_goto T.1 T.2.1 (tgt := 884) dL_addsUp_880 (by decide) ?_
                      refine lv_istore_n (lv' := [(3, .int (iI 1)), (0, .ref o), (9, .int (iI g)), (10, .int (iI un)), (11, .int (iI gn)), (12, .int (iI bn)), (13, .int (iI (nxt N g (-1)))), (14, .int (iI b))]) T.1 T.2.1 dL_addsUp_884 rfl hl (by decide) rfl (fun ls hl => ?_)
                      refine xv_iinc T (y := g + 1) (lv' := [(9, .int (iI (g + 1))), (3, .int (iI 1)), (0, .ref o), (10, .int (iI un)), (11, .int (iI gn)), (12, .int (iI bn)), (13, .int (iI (nxt N g (-1)))), (14, .int (iI b))]) dL_addsUp_885 hl (q := 2) rfl (by omega) (by decide) rfl (fun ls hl => ?_)
                      refine lv_goto T.1 T.2.1 (tgt := 564) dL_addsUp_888 (by decide) ?_
                      exact ih564 (g + 1) _ _ ls (by omega) (by omega) hP hS (lv_sub hl [2, 1, 0] rfl)
                  · skip
                    refine lv_iload_n T.1 T.2.1 dL_addsUp_749 rfl (lv_at hl 1 rfl) ?_
                    refine xv_if_eq T (by omega) (tgt := 883) dL_addsUp_750 (by decide) (fun c15 => absurd c15 (by omega)) (fun _ => ?_)
                    refine lv_iload T.1 T.2.1 dL_addsUp_753 (lv_at hl 6 rfl) ?_
                    refine xv_bipush T dL_addsUp_755 (by omega) ?_
                    refine xv_icmp_ne T (by omega) (tgt := 764) dL_addsUp_757 (by decide) (fun _ => ?_) (fun c16 => absurd c16 (by omega))
                    refine xv_iconst T dL_addsUp_764 ?_
                    refine lv_iload T.1 T.2.1 dL_addsUp_765 (lv_at hl 5 rfl) ?_
                    refine xv_if_ne T (by omega) (tgt := 774) dL_addsUp_767 (by decide) (fun _ => ?_) (fun c17 => absurd c17 (by omega))
                    refine xv_iconst T dL_addsUp_774 ?_
                    refine xv_icmp_ne T (by omega) (tgt := 883) dL_addsUp_775 (by decide) (fun c18 => absurd c18 (by omega)) (fun _ => ?_)
                    refine lv_aload_n T.1 T.2.1 dL_addsUp_778 rfl (lv_at hl 0 rfl) ?_
                    refine lv_iload T.1 T.2.1 dL_addsUp_779 (lv_at hl 2 rfl) ?_
                    refine xv_iconst T dL_addsUp_781 ?_
                    refine ly_account T hK hP hS (fun _ h => h) (by omega) (by omega) (w := hasF N g) (rac1 (by omega)) mw_3_24 ⟨Nat.le_of_ble_eq_true rfl, Nat.le_of_ble_eq_true rfl⟩ hl.1 (Nat.le_of_ble_eq_true rfl) ⟨Nat.zero_le _, Nat.zero_le _⟩ dL_addsUp_782 (fun H locs hP hS => ?_)
                    refine lv_iload T.1 T.2.1 dL_addsUp_785 (lv_at hl 3 rfl) ?_
                    refine xv_icmp_ne T (by omega) (tgt := 883) dL_addsUp_787 (by decide) (fun c19 => absurd c19 (by omega)) (fun _ => ?_)
                    refine lv_aload_n T.1 T.2.1 dL_addsUp_790 rfl (lv_at hl 0 rfl) ?_
                    refine lv_iload T.1 T.2.1 dL_addsUp_791 (lv_at hl 2 rfl) ?_
                    refine xv_iconst T dL_addsUp_793 ?_
                    refine ly_account T hK hP hS (fun _ h => h) (by omega) (by omega) (w := missF N g) (rac2 (by omega)) mw_3_24 ⟨Nat.le_of_ble_eq_true rfl, Nat.le_of_ble_eq_true rfl⟩ hl.1 (Nat.le_of_ble_eq_true rfl) ⟨Nat.zero_le _, Nat.zero_le _⟩ dL_addsUp_794 (fun H locs hP hS => ?_)
                    refine lv_iload T.1 T.2.1 dL_addsUp_797 (lv_at hl 4 rfl) ?_
                    refine xv_icmp_ne T (by omega) (tgt := 883) dL_addsUp_799 (by decide) (fun c20 => absurd c20 (by omega)) (fun _ => ?_)
                    refine lv_iload T.1 T.2.1 dL_addsUp_802 (lv_at hl 3 rfl) ?_
                    refine lv_iload T.1 T.2.1 dL_addsUp_804 (lv_at hl 4 rfl) ?_
                    refine xv_iadd T dL_addsUp_806 ?_
                    refine lv_iload T.1 T.2.1 dL_addsUp_807 (lv_at hl 5 rfl) ?_
                    refine xv_icmp_ne T (by omega) (tgt := 883) dL_addsUp_809 (by decide) (fun c21 => absurd c21 (by omega)) (fun _ => ?_)
                    refine lv_aload_n T.1 T.2.1 dL_addsUp_812 rfl (lv_at hl 0 rfl) ?_
                    refine lv_iload T.1 T.2.1 dL_addsUp_813 (lv_at hl 2 rfl) ?_
                    refine xv_iconst T dL_addsUp_815 ?_
                    refine ly_account T hK hP hS (fun _ h => h) (by omega) (by omega) (w := N (112 + g)) (rac0 (by omega)) mw_3_24 ⟨Nat.le_of_ble_eq_true rfl, Nat.le_of_ble_eq_true rfl⟩ hl.1 (Nat.le_of_ble_eq_true rfl) ⟨Nat.zero_le _, Nat.zero_le _⟩ dL_addsUp_816 (fun H locs hP hS => ?_)
                    refine lv_iload T.1 T.2.1 dL_addsUp_819 (lv_at hl 5 rfl) ?_
                    refine lv_aload_n T.1 T.2.1 dL_addsUp_821 rfl (lv_at hl 0 rfl) ?_
                    refine lv_iload T.1 T.2.1 dL_addsUp_822 (lv_at hl 2 rfl) ?_
                    refine xv_iconst T dL_addsUp_824 ?_
                    refine ly_account T hK hP hS (fun _ h => h) (by omega) (by omega) (w := N (120 + 4 * g)) (rac_3 (by omega)) mw_3_24 ⟨Nat.le_of_ble_eq_true rfl, Nat.le_of_ble_eq_true rfl⟩ hl.1 (Nat.le_of_ble_eq_true rfl) ⟨Nat.zero_le _, Nat.zero_le _⟩ dL_addsUp_825 (fun H locs hP hS => ?_)
                    refine xv_iadd T dL_addsUp_828 ?_
                    refine lv_aload_n T.1 T.2.1 dL_addsUp_829 rfl (lv_at hl 0 rfl) ?_
                    refine lv_iload T.1 T.2.1 dL_addsUp_830 (lv_at hl 2 rfl) ?_
                    refine xv_iconst T dL_addsUp_832 ?_
                    refine ly_account T hK hP hS (fun _ h => h) (by omega) (by omega) (w := N (121 + 4 * g)) (rac_4 (by omega)) mw_3_24 ⟨Nat.le_of_ble_eq_true rfl, Nat.le_of_ble_eq_true rfl⟩ hl.1 (Nat.le_of_ble_eq_true rfl) ⟨Nat.zero_le _, Nat.zero_le _⟩ dL_addsUp_833 (fun H locs hP hS => ?_)
                    refine xv_iadd T dL_addsUp_836 ?_
                    refine lv_aload_n T.1 T.2.1 dL_addsUp_837 rfl (lv_at hl 0 rfl) ?_
                    refine lv_iload T.1 T.2.1 dL_addsUp_838 (lv_at hl 2 rfl) ?_
                    refine xv_iconst T dL_addsUp_840 ?_
                    refine ly_account T hK hP hS (fun _ h => h) (by omega) (by omega) (w := N (122 + 4 * g)) (rac_5 (by omega)) mw_3_24 ⟨Nat.le_of_ble_eq_true rfl, Nat.le_of_ble_eq_true rfl⟩ hl.1 (Nat.le_of_ble_eq_true rfl) ⟨Nat.zero_le _, Nat.zero_le _⟩ dL_addsUp_841 (fun H locs hP hS => ?_)
                    refine xv_iadd T dL_addsUp_844 ?_
                    refine lv_aload_n T.1 T.2.1 dL_addsUp_845 rfl (lv_at hl 0 rfl) ?_
                    refine lv_iload T.1 T.2.1 dL_addsUp_846 (lv_at hl 2 rfl) ?_
                    refine xv_bipush T dL_addsUp_848 (by omega) ?_
                    refine ly_account T hK hP hS (fun _ h => h) (by omega) (by omega) (w := N (123 + 4 * g)) (rac_6 (by omega)) mw_3_24 ⟨Nat.le_of_ble_eq_true rfl, Nat.le_of_ble_eq_true rfl⟩ hl.1 (Nat.le_of_ble_eq_true rfl) ⟨Nat.zero_le _, Nat.zero_le _⟩ dL_addsUp_850 (fun H locs hP hS => ?_)
                    refine xv_iadd T dL_addsUp_853 ?_
                    refine xv_icmp_ne T (by omega) (tgt := 883) dL_addsUp_854 (by decide) (fun c22 => absurd c22 (by omega)) (fun _ => ?_)
                    refine lv_iload T.1 T.2.1 dL_addsUp_857 (lv_at hl 5 rfl) ?_
                    refine xv_ldc T mw_3_177 (n := 99999) (by decide +kernel) dL_addsUp_859 ?_
                    refine xv_icmp_ge T (by omega) (tgt := 879) dL_addsUp_861 (by decide) (fun c23 => ?_) (fun c23 => ?_)
                    · skip
                      refine xv_iconst T dL_addsUp_879 ?_
                      refine lv_goto T.1 T.2.1 (tgt := 884) dL_addsUp_880 (by decide) ?_
                      refine lv_istore_n (lv' := [(3, .int (iI 1)), (0, .ref o), (9, .int (iI g)), (10, .int (iI un)), (11, .int (iI gn)), (12, .int (iI bn)), (13, .int (iI (nxt N g (-1)))), (14, .int (iI b))]) T.1 T.2.1 dL_addsUp_884 rfl hl (by decide) rfl (fun ls hl => ?_)
                      refine xv_iinc T (y := g + 1) (lv' := [(9, .int (iI (g + 1))), (3, .int (iI 1)), (0, .ref o), (10, .int (iI un)), (11, .int (iI gn)), (12, .int (iI bn)), (13, .int (iI (nxt N g (-1)))), (14, .int (iI b))]) dL_addsUp_885 hl (q := 2) rfl (by omega) (by decide) rfl (fun ls hl => ?_)
                      refine lv_goto T.1 T.2.1 (tgt := 564) dL_addsUp_888 (by decide) ?_
                      exact ih564 (g + 1) _ _ ls (by omega) (by omega) hP hS (lv_sub hl [2, 1, 0] rfl)
                    · skip
                      refine lv_aload_n T.1 T.2.1 dL_addsUp_864 rfl (lv_at hl 0 rfl) ?_
                      refine lv_iload T.1 T.2.1 dL_addsUp_865 (lv_at hl 2 rfl) ?_
                      refine lv_iload T.1 T.2.1 dL_addsUp_867 (lv_at hl 5 rfl) ?_
                      refine xv_iconst T dL_addsUp_869 ?_
                      refine xv_iadd T dL_addsUp_870 ?_
                      refine ly_worth T hK hP hS (fun _ h => h) (by omega) (by omega) (w := (-4)) (by rw [hbn2]; exact worth_no hX (by omega) (by omega)) mw_3_67 ⟨Nat.le_of_ble_eq_true rfl, Nat.le_of_ble_eq_true rfl⟩ hl.1 (Nat.le_of_ble_eq_true rfl) ⟨Nat.zero_le _, Nat.zero_le _⟩ dL_addsUp_871 (fun H locs hP hS => ?_)
                      refine xv_bipush T dL_addsUp_874 (by omega) ?_
                      refine xv_icmp_ne T (by omega) (tgt := 883) dL_addsUp_876 (by decide) (fun c24 => absurd c24 (by omega)) (fun _ => ?_)
                      refine xv_iconst T dL_addsUp_879 ?_
                      refine lv_goto T.1 T.2.1 (tgt := 884) dL_addsUp_880 (by decide) ?_
                      refine lv_istore_n (lv' := [(3, .int (iI 1)), (0, .ref o), (9, .int (iI g)), (10, .int (iI un)), (11, .int (iI gn)), (12, .int (iI bn)), (13, .int (iI (nxt N g (-1)))), (14, .int (iI b))]) T.1 T.2.1 dL_addsUp_884 rfl hl (by decide) rfl (fun ls hl => ?_)
                      refine xv_iinc T (y := g + 1) (lv' := [(9, .int (iI (g + 1))), (3, .int (iI 1)), (0, .ref o), (10, .int (iI un)), (11, .int (iI gn)), (12, .int (iI bn)), (13, .int (iI (nxt N g (-1)))), (14, .int (iI b))]) dL_addsUp_885 hl (q := 2) rfl (by omega) (by decide) rfl (fun ls hl => ?_)
                      refine lv_goto T.1 T.2.1 (tgt := 564) dL_addsUp_888 (by decide) ?_
                      exact ih564 (g + 1) _ _ ls (by omega) (by omega) hP hS (lv_sub hl [2, 1, 0] rfl)
                · skip
                  have hb2 : 0 ≤ b ∧ b < N 6 := by omega
                  have hB := hX.1.2.2.2.1 b hb2.1 hb2.2
                  by_cases hgd : N (152 + b) = g
                  · skip
                    by_cases hl0 : N (272 + b) = 0
                    · skip
                      refine lv_aload_n T.1 T.2.1 dL_addsUp_653 rfl (lv_at hl 0 rfl) ?_
                      refine lv_iload T.1 T.2.1 dL_addsUp_654 (lv_at hl 7 rfl) ?_
                      refine xv_iconst T dL_addsUp_656 ?_
                      refine ly_bond T hK hP hS (fun _ h => h) (by omega) (by omega) (w := N (152 + b)) (rbo0 hb2) mw_2_139 ⟨Nat.le_of_ble_eq_true rfl, Nat.le_of_ble_eq_true rfl⟩ hl.1 (Nat.le_of_ble_eq_true rfl) ⟨Nat.zero_le _, Nat.zero_le _⟩ dL_addsUp_657 (fun H locs hP hS => ?_)
                      refine lv_iload T.1 T.2.1 dL_addsUp_660 (lv_at hl 2 rfl) ?_
                      refine xv_icmp_ne T (by omega) (tgt := 743) dL_addsUp_662 (by decide) (fun c25 => absurd c25 (by omega)) (fun _ => ?_)
                      refine lv_aload_n T.1 T.2.1 dL_addsUp_665 rfl (lv_at hl 0 rfl) ?_
                      refine lv_iload T.1 T.2.1 dL_addsUp_666 (lv_at hl 7 rfl) ?_
                      refine xv_iconst T dL_addsUp_668 ?_
                      refine ly_bond T hK hP hS (fun _ h => h) (by omega) (by omega) (w := N (272 + b)) (rbo2 hb2) mw_2_139 ⟨Nat.le_of_ble_eq_true rfl, Nat.le_of_ble_eq_true rfl⟩ hl.1 (Nat.le_of_ble_eq_true rfl) ⟨Nat.zero_le _, Nat.zero_le _⟩ dL_addsUp_669 (fun H locs hP hS => ?_)
                      refine xv_if_le T (by omega) (tgt := 743) dL_addsUp_672 (by decide) (fun _ => ?_) (fun c26 => absurd c26 (by omega))
                      refine xv_iinc T (y := b + 1) (lv' := [(14, .int (iI (b + 1))), (0, .ref o), (3, .int (iI 1)), (9, .int (iI g)), (10, .int (iI un)), (11, .int (iI gn)), (12, .int (iI bn)), (13, .int (iI (nxt N g (-1))))]) dL_addsUp_743 hl (q := 7) rfl (by omega) (by decide) rfl (fun ls hl => ?_)
                      refine lv_goto T.1 T.2.1 (tgt := 643) dL_addsUp_746 (by decide) ?_
                      exact ih643 bn (b + 1) _ _ ls (by omega) (by rw [sumZ_step (by omega), ← hbn]; first | (rw [if_neg (by omega)]; omega) | (rw [if_pos (by omega)]; omega) | rw [if_pos (by omega)]) (by omega) hP hS (lv_sub hl [1, 2, 3, 4, 5, 6, 7, 0] rfl)
                    · skip
                      have hnf := nxt_first hg.1 hb2 hgd (by omega)
                      have hBn := hX.1.2.2.2.1 _ hnf.1.1 hnf.1.2
                      by_cases hdl : N (392 + nxt N g (-1)) < N (392 + b)
                      · skip
                        refine lv_aload_n T.1 T.2.1 dL_addsUp_653 rfl (lv_at hl 0 rfl) ?_
                        refine lv_iload T.1 T.2.1 dL_addsUp_654 (lv_at hl 7 rfl) ?_
                        refine xv_iconst T dL_addsUp_656 ?_
                        refine ly_bond T hK hP hS (fun _ h => h) (by omega) (by omega) (w := N (152 + b)) (rbo0 hb2) mw_2_139 ⟨Nat.le_of_ble_eq_true rfl, Nat.le_of_ble_eq_true rfl⟩ hl.1 (Nat.le_of_ble_eq_true rfl) ⟨Nat.zero_le _, Nat.zero_le _⟩ dL_addsUp_657 (fun H locs hP hS => ?_)
                        refine lv_iload T.1 T.2.1 dL_addsUp_660 (lv_at hl 2 rfl) ?_
                        refine xv_icmp_ne T (by omega) (tgt := 743) dL_addsUp_662 (by decide) (fun c27 => absurd c27 (by omega)) (fun _ => ?_)
                        refine lv_aload_n T.1 T.2.1 dL_addsUp_665 rfl (lv_at hl 0 rfl) ?_
                        refine lv_iload T.1 T.2.1 dL_addsUp_666 (lv_at hl 7 rfl) ?_
                        refine xv_iconst T dL_addsUp_668 ?_
                        refine ly_bond T hK hP hS (fun _ h => h) (by omega) (by omega) (w := N (272 + b)) (rbo2 hb2) mw_2_139 ⟨Nat.le_of_ble_eq_true rfl, Nat.le_of_ble_eq_true rfl⟩ hl.1 (Nat.le_of_ble_eq_true rfl) ⟨Nat.zero_le _, Nat.zero_le _⟩ dL_addsUp_669 (fun H locs hP hS => ?_)
                        refine xv_if_le T (by omega) (tgt := 743) dL_addsUp_672 (by decide) (fun c28 => absurd c28 (by omega)) (fun _ => ?_)
                        refine lv_iload T.1 T.2.1 dL_addsUp_675 (lv_at hl 5 rfl) ?_
                        refine lv_aload_n T.1 T.2.1 dL_addsUp_677 rfl (lv_at hl 0 rfl) ?_
                        refine lv_iload T.1 T.2.1 dL_addsUp_678 (lv_at hl 7 rfl) ?_
                        refine xv_iconst T dL_addsUp_680 ?_
                        refine ly_bond T hK hP hS (fun _ h => h) (by omega) (by omega) (w := N (272 + b)) (rbo2 hb2) mw_2_139 ⟨Nat.le_of_ble_eq_true rfl, Nat.le_of_ble_eq_true rfl⟩ hl.1 (Nat.le_of_ble_eq_true rfl) ⟨Nat.zero_le _, Nat.zero_le _⟩ dL_addsUp_681 (fun H locs hP hS => ?_)
                        refine xv_iadd T dL_addsUp_684 ?_
                        refine lv_istore (lv' := [(12, .int (iI (bn + (N (272 + b))))), (0, .ref o), (3, .int (iI 1)), (9, .int (iI g)), (10, .int (iI un)), (11, .int (iI gn)), (13, .int (iI (nxt N g (-1)))), (14, .int (iI b))]) T.1 T.2.1 dL_addsUp_685 hl (by decide) rfl (fun ls hl => ?_)
                        refine lv_iload_n T.1 T.2.1 dL_addsUp_687 rfl (lv_at hl 2 rfl) ?_
                        refine xv_if_eq T (by omega) (tgt := 741) dL_addsUp_688 (by decide) (fun c29 => absurd c29 (by omega)) (fun _ => ?_)
                        refine lv_iload T.1 T.2.1 dL_addsUp_691 (lv_at hl 6 rfl) ?_
                        refine xv_if_lt T (by omega) (tgt := 741) dL_addsUp_693 (by decide) (fun c30 => absurd c30 (by omega)) (fun _ => ?_)
                        refine lv_aload_n T.1 T.2.1 dL_addsUp_696 rfl (lv_at hl 1 rfl) ?_
                        refine lv_iload T.1 T.2.1 dL_addsUp_697 (lv_at hl 7 rfl) ?_
                        refine xv_iconst T dL_addsUp_699 ?_
                        refine ly_bond T hK hP hS (fun _ h => h) (by omega) (by omega) (w := N (392 + b)) (rbo5 hb2) mw_2_139 ⟨Nat.le_of_ble_eq_true rfl, Nat.le_of_ble_eq_true rfl⟩ hl.1 (Nat.le_of_ble_eq_true rfl) ⟨Nat.zero_le _, Nat.zero_le _⟩ dL_addsUp_700 (fun H locs hP hS => ?_)
                        refine lv_aload_n T.1 T.2.1 dL_addsUp_703 rfl (lv_at hl 1 rfl) ?_
                        refine lv_iload T.1 T.2.1 dL_addsUp_704 (lv_at hl 6 rfl) ?_
                        refine xv_iconst T dL_addsUp_706 ?_
                        refine ly_bond T hK hP hS (fun _ h => h) (by omega) (by omega) (w := N (392 + nxt N g (-1))) (rbo5 hnf.1) mw_2_139 ⟨Nat.le_of_ble_eq_true rfl, Nat.le_of_ble_eq_true rfl⟩ hl.1 (Nat.le_of_ble_eq_true rfl) ⟨Nat.zero_le _, Nat.zero_le _⟩ dL_addsUp_707 (fun H locs hP hS => ?_)
                        refine xv_icmp_gt T (by omega) (tgt := 737) dL_addsUp_710 (by decide) (fun _ => ?_) (fun c31 => absurd c31 (by omega))
                        refine xv_iconst T dL_addsUp_737 ?_
                        refine lv_goto T.1 T.2.1 (tgt := 742) dL_addsUp_738 (by decide) ?_
                        refine lv_istore_n (lv' := [(3, .int (iI 1)), (12, .int (iI (bn + (N (272 + b))))), (0, .ref o), (9, .int (iI g)), (10, .int (iI un)), (11, .int (iI gn)), (13, .int (iI (nxt N g (-1)))), (14, .int (iI b))]) T.1 T.2.1 dL_addsUp_742 rfl hl (by decide) rfl (fun ls hl => ?_)
                        refine xv_iinc T (y := b + 1) (lv' := [(14, .int (iI (b + 1))), (3, .int (iI 1)), (12, .int (iI (bn + (N (272 + b))))), (0, .ref o), (9, .int (iI g)), (10, .int (iI un)), (11, .int (iI gn)), (13, .int (iI (nxt N g (-1))))]) dL_addsUp_743 hl (q := 7) rfl (by omega) (by decide) rfl (fun ls hl => ?_)
                        refine lv_goto T.1 T.2.1 (tgt := 643) dL_addsUp_746 (by decide) ?_
                        exact ih643 (bn + (N (272 + b))) (b + 1) _ _ ls (by omega) (by rw [sumZ_step (by omega), ← hbn]; first | (rw [if_neg (by omega)]; omega) | (rw [if_pos (by omega)]; omega) | rw [if_pos (by omega)]) (by omega) hP hS (lv_sub hl [3, 1, 4, 5, 6, 2, 7, 0] rfl)
                      · skip
                        refine lv_aload_n T.1 T.2.1 dL_addsUp_653 rfl (lv_at hl 0 rfl) ?_
                        refine lv_iload T.1 T.2.1 dL_addsUp_654 (lv_at hl 7 rfl) ?_
                        refine xv_iconst T dL_addsUp_656 ?_
                        refine ly_bond T hK hP hS (fun _ h => h) (by omega) (by omega) (w := N (152 + b)) (rbo0 hb2) mw_2_139 ⟨Nat.le_of_ble_eq_true rfl, Nat.le_of_ble_eq_true rfl⟩ hl.1 (Nat.le_of_ble_eq_true rfl) ⟨Nat.zero_le _, Nat.zero_le _⟩ dL_addsUp_657 (fun H locs hP hS => ?_)
                        refine lv_iload T.1 T.2.1 dL_addsUp_660 (lv_at hl 2 rfl) ?_
                        refine xv_icmp_ne T (by omega) (tgt := 743) dL_addsUp_662 (by decide) (fun c32 => absurd c32 (by omega)) (fun _ => ?_)
                        refine lv_aload_n T.1 T.2.1 dL_addsUp_665 rfl (lv_at hl 0 rfl) ?_
                        refine lv_iload T.1 T.2.1 dL_addsUp_666 (lv_at hl 7 rfl) ?_
                        refine xv_iconst T dL_addsUp_668 ?_
                        refine ly_bond T hK hP hS (fun _ h => h) (by omega) (by omega) (w := N (272 + b)) (rbo2 hb2) mw_2_139 ⟨Nat.le_of_ble_eq_true rfl, Nat.le_of_ble_eq_true rfl⟩ hl.1 (Nat.le_of_ble_eq_true rfl) ⟨Nat.zero_le _, Nat.zero_le _⟩ dL_addsUp_669 (fun H locs hP hS => ?_)
                        refine xv_if_le T (by omega) (tgt := 743) dL_addsUp_672 (by decide) (fun c33 => absurd c33 (by omega)) (fun _ => ?_)
                        refine lv_iload T.1 T.2.1 dL_addsUp_675 (lv_at hl 5 rfl) ?_
                        refine lv_aload_n T.1 T.2.1 dL_addsUp_677 rfl (lv_at hl 0 rfl) ?_
                        refine lv_iload T.1 T.2.1 dL_addsUp_678 (lv_at hl 7 rfl) ?_
                        refine xv_iconst T dL_addsUp_680 ?_
                        refine ly_bond T hK hP hS (fun _ h => h) (by omega) (by omega) (w := N (272 + b)) (rbo2 hb2) mw_2_139 ⟨Nat.le_of_ble_eq_true rfl, Nat.le_of_ble_eq_true rfl⟩ hl.1 (Nat.le_of_ble_eq_true rfl) ⟨Nat.zero_le _, Nat.zero_le _⟩ dL_addsUp_681 (fun H locs hP hS => ?_)
                        refine xv_iadd T dL_addsUp_684 ?_
                        refine lv_istore (lv' := [(12, .int (iI (bn + (N (272 + b))))), (0, .ref o), (3, .int (iI 1)), (9, .int (iI g)), (10, .int (iI un)), (11, .int (iI gn)), (13, .int (iI (nxt N g (-1)))), (14, .int (iI b))]) T.1 T.2.1 dL_addsUp_685 hl (by decide) rfl (fun ls hl => ?_)
                        refine lv_iload_n T.1 T.2.1 dL_addsUp_687 rfl (lv_at hl 2 rfl) ?_
                        refine xv_if_eq T (by omega) (tgt := 741) dL_addsUp_688 (by decide) (fun c34 => absurd c34 (by omega)) (fun _ => ?_)
                        refine lv_iload T.1 T.2.1 dL_addsUp_691 (lv_at hl 6 rfl) ?_
                        refine xv_if_lt T (by omega) (tgt := 741) dL_addsUp_693 (by decide) (fun c35 => absurd c35 (by omega)) (fun _ => ?_)
                        refine lv_aload_n T.1 T.2.1 dL_addsUp_696 rfl (lv_at hl 1 rfl) ?_
                        refine lv_iload T.1 T.2.1 dL_addsUp_697 (lv_at hl 7 rfl) ?_
                        refine xv_iconst T dL_addsUp_699 ?_
                        refine ly_bond T hK hP hS (fun _ h => h) (by omega) (by omega) (w := N (392 + b)) (rbo5 hb2) mw_2_139 ⟨Nat.le_of_ble_eq_true rfl, Nat.le_of_ble_eq_true rfl⟩ hl.1 (Nat.le_of_ble_eq_true rfl) ⟨Nat.zero_le _, Nat.zero_le _⟩ dL_addsUp_700 (fun H locs hP hS => ?_)
                        refine lv_aload_n T.1 T.2.1 dL_addsUp_703 rfl (lv_at hl 1 rfl) ?_
                        refine lv_iload T.1 T.2.1 dL_addsUp_704 (lv_at hl 6 rfl) ?_
                        refine xv_iconst T dL_addsUp_706 ?_
                        refine ly_bond T hK hP hS (fun _ h => h) (by omega) (by omega) (w := N (392 + nxt N g (-1))) (rbo5 hnf.1) mw_2_139 ⟨Nat.le_of_ble_eq_true rfl, Nat.le_of_ble_eq_true rfl⟩ hl.1 (Nat.le_of_ble_eq_true rfl) ⟨Nat.zero_le _, Nat.zero_le _⟩ dL_addsUp_707 (fun H locs hP hS => ?_)
                        refine xv_icmp_gt T (by omega) (tgt := 737) dL_addsUp_710 (by decide) (fun c36 => absurd c36 (by omega)) (fun _ => ?_)
                        refine lv_aload_n T.1 T.2.1 dL_addsUp_713 rfl (lv_at hl 1 rfl) ?_
                        refine lv_iload T.1 T.2.1 dL_addsUp_714 (lv_at hl 7 rfl) ?_
                        refine xv_iconst T dL_addsUp_716 ?_
                        refine ly_bond T hK hP hS (fun _ h => h) (by omega) (by omega) (w := N (392 + b)) (rbo5 hb2) mw_2_139 ⟨Nat.le_of_ble_eq_true rfl, Nat.le_of_ble_eq_true rfl⟩ hl.1 (Nat.le_of_ble_eq_true rfl) ⟨Nat.zero_le _, Nat.zero_le _⟩ dL_addsUp_717 (fun H locs hP hS => ?_)
                        refine lv_aload_n T.1 T.2.1 dL_addsUp_720 rfl (lv_at hl 1 rfl) ?_
                        refine lv_iload T.1 T.2.1 dL_addsUp_721 (lv_at hl 6 rfl) ?_
                        refine xv_iconst T dL_addsUp_723 ?_
                        refine ly_bond T hK hP hS (fun _ h => h) (by omega) (by omega) (w := N (392 + nxt N g (-1))) (rbo5 hnf.1) mw_2_139 ⟨Nat.le_of_ble_eq_true rfl, Nat.le_of_ble_eq_true rfl⟩ hl.1 (Nat.le_of_ble_eq_true rfl) ⟨Nat.zero_le _, Nat.zero_le _⟩ dL_addsUp_724 (fun H locs hP hS => ?_)
                        refine xv_icmp_ne T (by omega) (tgt := 741) dL_addsUp_727 (by decide) (fun c37 => absurd c37 (by omega)) (fun _ => ?_)
                        refine lv_iload T.1 T.2.1 dL_addsUp_730 (lv_at hl 7 rfl) ?_
                        refine lv_iload T.1 T.2.1 dL_addsUp_732 (lv_at hl 6 rfl) ?_
                        refine xv_icmp_lt T (by omega) (tgt := 741) dL_addsUp_734 (by decide) (fun c38 => absurd c38 (by omega)) (fun _ => ?_)
                        refine xv_iconst T dL_addsUp_737 ?_
                        refine lv_goto T.1 T.2.1 (tgt := 742) dL_addsUp_738 (by decide) ?_
                        refine lv_istore_n (lv' := [(3, .int (iI 1)), (12, .int (iI (bn + (N (272 + b))))), (0, .ref o), (9, .int (iI g)), (10, .int (iI un)), (11, .int (iI gn)), (13, .int (iI (nxt N g (-1)))), (14, .int (iI b))]) T.1 T.2.1 dL_addsUp_742 rfl hl (by decide) rfl (fun ls hl => ?_)
                        refine xv_iinc T (y := b + 1) (lv' := [(14, .int (iI (b + 1))), (3, .int (iI 1)), (12, .int (iI (bn + (N (272 + b))))), (0, .ref o), (9, .int (iI g)), (10, .int (iI un)), (11, .int (iI gn)), (13, .int (iI (nxt N g (-1))))]) dL_addsUp_743 hl (q := 7) rfl (by omega) (by decide) rfl (fun ls hl => ?_)
                        refine lv_goto T.1 T.2.1 (tgt := 643) dL_addsUp_746 (by decide) ?_
                        exact ih643 (bn + (N (272 + b))) (b + 1) _ _ ls (by omega) (by rw [sumZ_step (by omega), ← hbn]; first | (rw [if_neg (by omega)]; omega) | (rw [if_pos (by omega)]; omega) | rw [if_pos (by omega)]) (by omega) hP hS (lv_sub hl [3, 1, 4, 5, 6, 2, 7, 0] rfl)
                  · skip
                    refine lv_aload_n T.1 T.2.1 dL_addsUp_653 rfl (lv_at hl 0 rfl) ?_
                    refine lv_iload T.1 T.2.1 dL_addsUp_654 (lv_at hl 7 rfl) ?_
                    refine xv_iconst T dL_addsUp_656 ?_
                    refine ly_bond T hK hP hS (fun _ h => h) (by omega) (by omega) (w := N (152 + b)) (rbo0 hb2) mw_2_139 ⟨Nat.le_of_ble_eq_true rfl, Nat.le_of_ble_eq_true rfl⟩ hl.1 (Nat.le_of_ble_eq_true rfl) ⟨Nat.zero_le _, Nat.zero_le _⟩ dL_addsUp_657 (fun H locs hP hS => ?_)
                    refine lv_iload T.1 T.2.1 dL_addsUp_660 (lv_at hl 2 rfl) ?_
                    refine xv_icmp_ne T (by omega) (tgt := 743) dL_addsUp_662 (by decide) (fun _ => ?_) (fun c39 => absurd c39 (by omega))
                    refine xv_iinc T (y := b + 1) (lv' := [(14, .int (iI (b + 1))), (0, .ref o), (3, .int (iI 1)), (9, .int (iI g)), (10, .int (iI un)), (11, .int (iI gn)), (12, .int (iI bn)), (13, .int (iI (nxt N g (-1))))]) dL_addsUp_743 hl (q := 7) rfl (by omega) (by decide) rfl (fun ls hl => ?_)
                    refine lv_goto T.1 T.2.1 (tgt := 643) dL_addsUp_746 (by decide) ?_
                    exact ih643 bn (b + 1) _ _ ls (by omega) (by rw [sumZ_step (by omega), ← hbn]; first | (rw [if_neg (by omega)]; omega) | (rw [if_pos (by omega)]; omega) | rw [if_pos (by omega)]) (by omega) hP hS (lv_sub hl [1, 2, 3, 4, 5, 6, 7, 0] rfl)
            exact lp643 62 0 0 _ _ ls (by omega) rfl (by omega) hP hS (lv_sub hl [1, 2, 3, 4, 5, 6, 7, 0] rfl)
          · skip
            refine lv_iload T.1 T.2.1 dL_addsUp_608 (lv_at hl 3 rfl) ?_
            refine lv_aload_n T.1 T.2.1 dL_addsUp_610 rfl (lv_at hl 0 rfl) ?_
            refine lv_iload T.1 T.2.1 dL_addsUp_611 (lv_at hl 7 rfl) ?_
            refine lv_iload T.1 T.2.1 dL_addsUp_613 (lv_at hl 2 rfl) ?_
            refine ly_lockerOf T hK hP hS (fun _ h => h) (by omega) (by omega) (w := N (24 + 8 * l1 + g)) (rlg (by omega) ⟨by omega, by omega⟩) mw_2_123 ⟨Nat.le_of_ble_eq_true rfl, Nat.le_of_ble_eq_true rfl⟩ hl.1 (Nat.le_of_ble_eq_true rfl) ⟨Nat.zero_le _, Nat.zero_le _⟩ dL_addsUp_615 (fun H locs hP hS => ?_)
            refine xv_iadd T dL_addsUp_618 ?_
            refine lv_istore (lv' := [(10, .int (iI (un + (N (24 + 8 * l1 + g))))), (0, .ref o), (3, .int (iI 1)), (9, .int (iI g)), (11, .int (iI gn)), (12, .int (iI 0)), (13, .int (iI (nxt N g (-1)))), (14, .int (iI l1))]) T.1 T.2.1 dL_addsUp_619 hl (by decide) rfl (fun ls hl => ?_)
            refine lv_iload T.1 T.2.1 dL_addsUp_621 (lv_at hl 4 rfl) ?_
            refine lv_aload_n T.1 T.2.1 dL_addsUp_623 rfl (lv_at hl 1 rfl) ?_
            refine lv_iload T.1 T.2.1 dL_addsUp_624 (lv_at hl 7 rfl) ?_
            refine lv_iload T.1 T.2.1 dL_addsUp_626 (lv_at hl 3 rfl) ?_
            refine ly_missing T hK hP hS (fun _ h => h) (by omega) (by omega) (w := N (64 + 8 * l1 + g)) (rmi (by omega) (by omega)) mw_3_147 ⟨Nat.le_of_ble_eq_true rfl, Nat.le_of_ble_eq_true rfl⟩ hl.1 (Nat.le_of_ble_eq_true rfl) ⟨Nat.zero_le _, Nat.zero_le _⟩ dL_addsUp_628 (fun H locs hP hS => ?_)
            refine xv_iadd T dL_addsUp_631 ?_
            refine lv_istore (lv' := [(11, .int (iI (gn + (N (64 + 8 * l1 + g))))), (10, .int (iI (un + (N (24 + 8 * l1 + g))))), (0, .ref o), (3, .int (iI 1)), (9, .int (iI g)), (12, .int (iI 0)), (13, .int (iI (nxt N g (-1)))), (14, .int (iI l1))]) T.1 T.2.1 dL_addsUp_632 hl (by decide) rfl (fun ls hl => ?_)
            refine xv_iinc T (y := l1 + 1) (lv' := [(14, .int (iI (l1 + 1))), (11, .int (iI (gn + (N (64 + 8 * l1 + g))))), (10, .int (iI (un + (N (24 + 8 * l1 + g))))), (0, .ref o), (3, .int (iI 1)), (9, .int (iI g)), (12, .int (iI 0)), (13, .int (iI (nxt N g (-1))))]) dL_addsUp_634 hl (q := 7) rfl (by omega) (by decide) rfl (fun ls hl => ?_)
            refine lv_goto T.1 T.2.1 (tgt := 598) dL_addsUp_637 (by decide) ?_
            exact ih598 (un + (N (24 + 8 * l1 + g))) (gn + (N (64 + 8 * l1 + g))) (l1 + 1) _ _ ls (by omega) (by rw [sumZ_step (by omega), ← hun]) (by rw [sumZ_step (by omega), ← hgn]) (by omega) hP hS (lv_sub hl [3, 4, 5, 2, 1, 6, 7, 0] rfl)
      exact lp598 7 0 0 0 _ _ ls (by omega) rfl rfl (by omega) hP hS (lv_sub hl [5, 6, 7, 4, 3, 2, 1, 0] rfl)
set_option maxHeartbeats 4000000 in
set_option maxRecDepth 100000 in
theorem sg_L_addsUp_278 {p : Program} {l : Launch} {e : Env} {s : State} {m : MethodId} {args : Array Value} {below : List Frame} {meth : Method} {c : Code} {K : KT} {o : Nat} {N : Int → Int} {st : List (Int → Int)} (T : CF p m c cL_addsUp 15 s args RL) (hr : meth.sig.returnType = some .boolean) (hk : meth.locks = false) (hK : xK K s) (hX : InX N) : ∀ (fuel : Nat) (lk : Int) (tn : Int) (on : Int) (hd : Int) (rs : Int) (fi : Int) (b : Int) (H : Heap) (locs : List Loc) (ls : Array Slot), (0 ≤ b ∧ b ≤ N 6) → (lk = cntF N 1) → (tn = cntF N 2) → (on = cntF N 1) → (hd = sumZ (fun b => N (272 + b) * N (332 + b)) b.toNat) → (rs = sumZ (fun b => if 0 < N (272 + b) then 1 else 0) b.toNat) → (fiI N b fi) → N 6 - b < (fuel : Int) → LwY K o N st H → va_S (Blk o 153) s.heap H locs → lv_has ls 15 [(0, .ref o), (1, .int (iI lk)), (2, .int (iI tn)), (3, .int (iI 1)), (4, .int (iI on)), (5, .long (lI hd)), (7, .int (iI rs)), (8, .int (iI fi)), (9, .int (iI b))] → W p l e (rmF 3 80) s m args below meth c H locs 0 0 (MQ below (qI K (fun z (u : YT) => (poS N st) z u.1 u.2.1 ∧ yOk u) (yW K o) (Blk o 153)) args s 0 0 (Blk o 153)) (F0 m 278 ls []) := by
  have hR := inY_R (inY hX.1)
  obtain ⟨b0, b1, b2, b3, b4, b5, b6, b7, b8, b9⟩ := inY_b (inY hX.1)
  have hc1 := cntF_in (N := N) 1 b4.1
  have hc2 := cntF_in (N := N) 2 b4.1
  have hlv := livF_in (N := N) b6.1
  have hem := em_in hX
  have hM := hX.2.2.1.1
  unfold EM at hM
  intro fuel
  induction fuel with
  | zero =>
    intro lk tn on hd rs fi b H locs ls hb hlk htn hon hhd hrs hfi hm hP hS hl
    exact absurd hm (by omega)
  | succ fuel ih278 =>
    intro lk tn on hd rs fi b H locs ls hb hlk htn hon hhd hrs hfi hm hP hS hl
    have hfb := fiI_in hR hb.2 hfi
    refine lv_iload T.1 T.2.1 dL_addsUp_278 (lv_at hl 8 rfl) ?_
    refine lv_aload_n T.1 T.2.1 dL_addsUp_280 rfl (lv_at hl 0 rfl) ?_
    refine xv_iconst T dL_addsUp_281 ?_
    refine ly_count T hK hP hS (fun _ h => h) (by omega) (w := N 6) rfl mw_3_50 ⟨Nat.le_of_ble_eq_true rfl, Nat.le_of_ble_eq_true rfl⟩ hl.1 (Nat.le_of_ble_eq_true rfl) ⟨Nat.zero_le _, Nat.zero_le _⟩ dL_addsUp_282 (fun H locs hP hS => ?_)
    refine xv_icmp_ge T (by omega) (tgt := 435) dL_addsUp_285 (by decide) (fun c1 => ?_) (fun c1 => ?_)
    · skip
      have hbe : b = N 6 := by omega
      have hfi2 : fiI N (N 6) fi := hbe ▸ hfi
      have hhd2 : hd = heldF N := by rw [hhd, hbe]; rfl
      have hrs2 : rs = livF N := by rw [hrs, hbe]; rfl
      by_cases hf : fi < 0
      · skip
        refine lv_iload_n T.1 T.2.1 dL_addsUp_435 rfl (lv_at hl 3 rfl) ?_
        refine xv_if_eq T (by omega) (tgt := 559) dL_addsUp_436 (by decide) (fun c2 => absurd c2 (by omega)) (fun _ => ?_)
        refine lv_iload_n T.1 T.2.1 dL_addsUp_439 rfl (lv_at hl 1 rfl) ?_
        refine lv_aload_n T.1 T.2.1 dL_addsUp_440 rfl (lv_at hl 0 rfl) ?_
        refine xv_bipush T dL_addsUp_441 (by omega) ?_
        refine ly_count T hK hP hS (fun _ h => h) (by omega) (w := cntF N 1) rfl mw_3_50 ⟨Nat.le_of_ble_eq_true rfl, Nat.le_of_ble_eq_true rfl⟩ hl.1 (Nat.le_of_ble_eq_true rfl) ⟨Nat.zero_le _, Nat.zero_le _⟩ dL_addsUp_443 (fun H locs hP hS => ?_)
        refine xv_icmp_ne T (by omega) (tgt := 559) dL_addsUp_446 (by decide) (fun c3 => absurd c3 (by omega)) (fun _ => ?_)
        refine lv_iload_n T.1 T.2.1 dL_addsUp_449 rfl (lv_at hl 2 rfl) ?_
        refine lv_aload_n T.1 T.2.1 dL_addsUp_450 rfl (lv_at hl 0 rfl) ?_
        refine xv_bipush T dL_addsUp_451 (by omega) ?_
        refine ly_count T hK hP hS (fun _ h => h) (by omega) (w := cntF N 2) rfl mw_3_50 ⟨Nat.le_of_ble_eq_true rfl, Nat.le_of_ble_eq_true rfl⟩ hl.1 (Nat.le_of_ble_eq_true rfl) ⟨Nat.zero_le _, Nat.zero_le _⟩ dL_addsUp_453 (fun H locs hP hS => ?_)
        refine xv_icmp_ne T (by omega) (tgt := 559) dL_addsUp_456 (by decide) (fun c4 => absurd c4 (by omega)) (fun _ => ?_)
        refine lv_iload T.1 T.2.1 dL_addsUp_459 (lv_at hl 4 rfl) ?_
        refine lv_iload_n T.1 T.2.1 dL_addsUp_461 rfl (lv_at hl 1 rfl) ?_
        refine xv_icmp_ne T (by omega) (tgt := 559) dL_addsUp_462 (by decide) (fun c5 => absurd c5 (by omega)) (fun _ => ?_)
        refine lv_iload T.1 T.2.1 dL_addsUp_465 (lv_at hl 6 rfl) ?_
        refine lv_aload_n T.1 T.2.1 dL_addsUp_467 rfl (lv_at hl 0 rfl) ?_
        refine xv_iconst T dL_addsUp_468 ?_
        refine ly_count T hK hP hS (fun _ h => h) (by omega) (w := livF N) rfl mw_3_50 ⟨Nat.le_of_ble_eq_true rfl, Nat.le_of_ble_eq_true rfl⟩ hl.1 (Nat.le_of_ble_eq_true rfl) ⟨Nat.zero_le _, Nat.zero_le _⟩ dL_addsUp_469 (fun H locs hP hS => ?_)
        refine xv_icmp_ne T (by omega) (tgt := 559) dL_addsUp_472 (by decide) (fun c6 => absurd c6 (by omega)) (fun _ => ?_)
        refine lv_lload T.1 T.2.1 dL_addsUp_475 (lv_at hl 5 rfl) ?_
        refine lv_aload_n T.1 T.2.1 dL_addsUp_477 rfl (lv_at hl 0 rfl) ?_
        refine xv_iconst T dL_addsUp_478 ?_
        refine ly_cents T hK hP hS (fun _ h => h) (by omega) (w := heldF N) rfl mw_3_37 ⟨Nat.le_of_ble_eq_true rfl, Nat.le_of_ble_eq_true rfl⟩ hl.1 (Nat.le_of_ble_eq_true rfl) ⟨Nat.zero_le _, Nat.zero_le _⟩ dL_addsUp_479 (fun H locs hP hS => ?_)
        refine xv_i2l T (by omega) dL_addsUp_482 ?_
        refine xv_lcmp_ne T (tgt := 559) dL_addsUp_483 dL_addsUp_484 (by decide) (fun c => absurd (congrArg lI hhd2) c) (fun _ => ?_)
        refine lv_aload_n T.1 T.2.1 dL_addsUp_487 rfl (lv_at hl 0 rfl) ?_
        refine xv_iconst T dL_addsUp_488 ?_
        refine ly_cents T hK hP hS (fun _ h => h) (by omega) (w := N 9) rfl mw_3_37 ⟨Nat.le_of_ble_eq_true rfl, Nat.le_of_ble_eq_true rfl⟩ hl.1 (Nat.le_of_ble_eq_true rfl) ⟨Nat.zero_le _, Nat.zero_le _⟩ dL_addsUp_489 (fun H locs hP hS => ?_)
        refine xv_i2l T (by omega) dL_addsUp_492 ?_
        refine lv_lload T.1 T.2.1 dL_addsUp_493 (lv_at hl 5 rfl) ?_
        refine lv_aload_n T.1 T.2.1 dL_addsUp_495 rfl (lv_at hl 0 rfl) ?_
        refine xv_iconst T dL_addsUp_496 ?_
        refine ly_cents T hK hP hS (fun _ h => h) (by omega) (w := N 10) rfl mw_3_37 ⟨Nat.le_of_ble_eq_true rfl, Nat.le_of_ble_eq_true rfl⟩ hl.1 (Nat.le_of_ble_eq_true rfl) ⟨Nat.zero_le _, Nat.zero_le _⟩ dL_addsUp_497 (fun H locs hP hS => ?_)
        refine xv_i2l T (by omega) dL_addsUp_500 ?_
        refine xv_ladd T dL_addsUp_501 ?_
        refine lv_aload_n T.1 T.2.1 dL_addsUp_502 rfl (lv_at hl 0 rfl) ?_
        refine xv_iconst T dL_addsUp_503 ?_
        refine ly_cents T hK hP hS (fun _ h => h) (by omega) (w := N 11) rfl mw_3_37 ⟨Nat.le_of_ble_eq_true rfl, Nat.le_of_ble_eq_true rfl⟩ hl.1 (Nat.le_of_ble_eq_true rfl) ⟨Nat.zero_le _, Nat.zero_le _⟩ dL_addsUp_504 (fun H locs hP hS => ?_)
        refine xv_i2l T (by omega) dL_addsUp_507 ?_
        refine xv_ladd T dL_addsUp_508 ?_
        refine lv_aload_n T.1 T.2.1 dL_addsUp_509 rfl (lv_at hl 0 rfl) ?_
        refine xv_iconst T dL_addsUp_510 ?_
        refine ly_cents T hK hP hS (fun _ h => h) (by omega) (w := N 12) rfl mw_3_37 ⟨Nat.le_of_ble_eq_true rfl, Nat.le_of_ble_eq_true rfl⟩ hl.1 (Nat.le_of_ble_eq_true rfl) ⟨Nat.zero_le _, Nat.zero_le _⟩ dL_addsUp_511 (fun H locs hP hS => ?_)
        refine xv_i2l T (by omega) dL_addsUp_514 ?_
        refine xv_ladd T dL_addsUp_515 ?_
        refine lv_aload_n T.1 T.2.1 dL_addsUp_516 rfl (lv_at hl 0 rfl) ?_
        refine xv_iconst T dL_addsUp_517 ?_
        refine ly_cents T hK hP hS (fun _ h => h) (by omega) (w := N 13) rfl mw_3_37 ⟨Nat.le_of_ble_eq_true rfl, Nat.le_of_ble_eq_true rfl⟩ hl.1 (Nat.le_of_ble_eq_true rfl) ⟨Nat.zero_le _, Nat.zero_le _⟩ dL_addsUp_518 (fun H locs hP hS => ?_)
        refine xv_i2l T (by omega) dL_addsUp_521 ?_
        refine xv_ladd T dL_addsUp_522 ?_
        refine xv_lcmp_ne T (tgt := 559) dL_addsUp_523 dL_addsUp_524 (by decide) (fun c => absurd (congrArg lI (show N 9 = hd + N 10 + N 11 + N 12 + N 13 by omega)) c) (fun _ => ?_)
        refine lv_aload_n T.1 T.2.1 dL_addsUp_527 rfl (lv_at hl 0 rfl) ?_
        refine ly_runsOut T hK hP hS (fun _ h => h) (w := (-4)) ((fiI_end hfi2).trans (if_pos hf)) mw_3_86 ⟨Nat.le_of_ble_eq_true rfl, Nat.le_of_ble_eq_true rfl⟩ hl.1 (Nat.le_of_ble_eq_true rfl) ⟨Nat.zero_le _, Nat.zero_le _⟩ dL_addsUp_528 (fun H locs hP hS => ?_)
        refine lv_iload T.1 T.2.1 dL_addsUp_531 (lv_at hl 7 rfl) ?_
        refine xv_if_ge T (by omega) (tgt := 541) dL_addsUp_533 (by decide) (fun c7 => absurd c7 (by omega)) (fun _ => ?_)
        refine xv_bipush T dL_addsUp_536 (by omega) ?_
        refine lv_goto T.1 T.2.1 (tgt := 552) dL_addsUp_538 (by decide) ?_
        refine xv_icmp_ne T (by omega) (tgt := 559) dL_addsUp_552 (by decide) (fun c8 => absurd c8 (by omega)) (fun _ => ?_)
        refine xv_iconst T dL_addsUp_555 ?_
        refine lv_goto T.1 T.2.1 (tgt := 560) dL_addsUp_556 (by decide) ?_
        refine lv_istore_n (lv' := [(3, .int (iI 1)), (0, .ref o), (1, .int (iI lk)), (2, .int (iI tn)), (4, .int (iI on)), (5, .long (lI hd)), (7, .int (iI rs)), (8, .int (iI fi)), (9, .int (iI b))]) T.1 T.2.1 dL_addsUp_560 rfl hl (by decide) rfl (fun ls hl => ?_)
        refine xv_iconst T dL_addsUp_561 ?_
        refine lv_istore (lv' := [(9, .int (iI 0)), (3, .int (iI 1)), (0, .ref o), (1, .int (iI lk)), (2, .int (iI tn)), (4, .int (iI on)), (5, .long (lI hd)), (7, .int (iI rs)), (8, .int (iI fi))]) T.1 T.2.1 dL_addsUp_562 hl (by decide) rfl (fun ls hl => ?_)
        exact sg_L_addsUp_564 (st := st) T hr hk hK hX 10 0 _ _ ls (by omega) (by omega) hP hS (lv_sub hl [2, 1, 0] rfl)
      · skip
        refine lv_iload_n T.1 T.2.1 dL_addsUp_435 rfl (lv_at hl 3 rfl) ?_
        refine xv_if_eq T (by omega) (tgt := 559) dL_addsUp_436 (by decide) (fun c9 => absurd c9 (by omega)) (fun _ => ?_)
        refine lv_iload_n T.1 T.2.1 dL_addsUp_439 rfl (lv_at hl 1 rfl) ?_
        refine lv_aload_n T.1 T.2.1 dL_addsUp_440 rfl (lv_at hl 0 rfl) ?_
        refine xv_bipush T dL_addsUp_441 (by omega) ?_
        refine ly_count T hK hP hS (fun _ h => h) (by omega) (w := cntF N 1) rfl mw_3_50 ⟨Nat.le_of_ble_eq_true rfl, Nat.le_of_ble_eq_true rfl⟩ hl.1 (Nat.le_of_ble_eq_true rfl) ⟨Nat.zero_le _, Nat.zero_le _⟩ dL_addsUp_443 (fun H locs hP hS => ?_)
        refine xv_icmp_ne T (by omega) (tgt := 559) dL_addsUp_446 (by decide) (fun c10 => absurd c10 (by omega)) (fun _ => ?_)
        refine lv_iload_n T.1 T.2.1 dL_addsUp_449 rfl (lv_at hl 2 rfl) ?_
        refine lv_aload_n T.1 T.2.1 dL_addsUp_450 rfl (lv_at hl 0 rfl) ?_
        refine xv_bipush T dL_addsUp_451 (by omega) ?_
        refine ly_count T hK hP hS (fun _ h => h) (by omega) (w := cntF N 2) rfl mw_3_50 ⟨Nat.le_of_ble_eq_true rfl, Nat.le_of_ble_eq_true rfl⟩ hl.1 (Nat.le_of_ble_eq_true rfl) ⟨Nat.zero_le _, Nat.zero_le _⟩ dL_addsUp_453 (fun H locs hP hS => ?_)
        refine xv_icmp_ne T (by omega) (tgt := 559) dL_addsUp_456 (by decide) (fun c11 => absurd c11 (by omega)) (fun _ => ?_)
        refine lv_iload T.1 T.2.1 dL_addsUp_459 (lv_at hl 4 rfl) ?_
        refine lv_iload_n T.1 T.2.1 dL_addsUp_461 rfl (lv_at hl 1 rfl) ?_
        refine xv_icmp_ne T (by omega) (tgt := 559) dL_addsUp_462 (by decide) (fun c12 => absurd c12 (by omega)) (fun _ => ?_)
        refine lv_iload T.1 T.2.1 dL_addsUp_465 (lv_at hl 6 rfl) ?_
        refine lv_aload_n T.1 T.2.1 dL_addsUp_467 rfl (lv_at hl 0 rfl) ?_
        refine xv_iconst T dL_addsUp_468 ?_
        refine ly_count T hK hP hS (fun _ h => h) (by omega) (w := livF N) rfl mw_3_50 ⟨Nat.le_of_ble_eq_true rfl, Nat.le_of_ble_eq_true rfl⟩ hl.1 (Nat.le_of_ble_eq_true rfl) ⟨Nat.zero_le _, Nat.zero_le _⟩ dL_addsUp_469 (fun H locs hP hS => ?_)
        refine xv_icmp_ne T (by omega) (tgt := 559) dL_addsUp_472 (by decide) (fun c13 => absurd c13 (by omega)) (fun _ => ?_)
        refine lv_lload T.1 T.2.1 dL_addsUp_475 (lv_at hl 5 rfl) ?_
        refine lv_aload_n T.1 T.2.1 dL_addsUp_477 rfl (lv_at hl 0 rfl) ?_
        refine xv_iconst T dL_addsUp_478 ?_
        refine ly_cents T hK hP hS (fun _ h => h) (by omega) (w := heldF N) rfl mw_3_37 ⟨Nat.le_of_ble_eq_true rfl, Nat.le_of_ble_eq_true rfl⟩ hl.1 (Nat.le_of_ble_eq_true rfl) ⟨Nat.zero_le _, Nat.zero_le _⟩ dL_addsUp_479 (fun H locs hP hS => ?_)
        refine xv_i2l T (by omega) dL_addsUp_482 ?_
        refine xv_lcmp_ne T (tgt := 559) dL_addsUp_483 dL_addsUp_484 (by decide) (fun c => absurd (congrArg lI hhd2) c) (fun _ => ?_)
        refine lv_aload_n T.1 T.2.1 dL_addsUp_487 rfl (lv_at hl 0 rfl) ?_
        refine xv_iconst T dL_addsUp_488 ?_
        refine ly_cents T hK hP hS (fun _ h => h) (by omega) (w := N 9) rfl mw_3_37 ⟨Nat.le_of_ble_eq_true rfl, Nat.le_of_ble_eq_true rfl⟩ hl.1 (Nat.le_of_ble_eq_true rfl) ⟨Nat.zero_le _, Nat.zero_le _⟩ dL_addsUp_489 (fun H locs hP hS => ?_)
        refine xv_i2l T (by omega) dL_addsUp_492 ?_
        refine lv_lload T.1 T.2.1 dL_addsUp_493 (lv_at hl 5 rfl) ?_
        refine lv_aload_n T.1 T.2.1 dL_addsUp_495 rfl (lv_at hl 0 rfl) ?_
        refine xv_iconst T dL_addsUp_496 ?_
        refine ly_cents T hK hP hS (fun _ h => h) (by omega) (w := N 10) rfl mw_3_37 ⟨Nat.le_of_ble_eq_true rfl, Nat.le_of_ble_eq_true rfl⟩ hl.1 (Nat.le_of_ble_eq_true rfl) ⟨Nat.zero_le _, Nat.zero_le _⟩ dL_addsUp_497 (fun H locs hP hS => ?_)
        refine xv_i2l T (by omega) dL_addsUp_500 ?_
        refine xv_ladd T dL_addsUp_501 ?_
        refine lv_aload_n T.1 T.2.1 dL_addsUp_502 rfl (lv_at hl 0 rfl) ?_
        refine xv_iconst T dL_addsUp_503 ?_
        refine ly_cents T hK hP hS (fun _ h => h) (by omega) (w := N 11) rfl mw_3_37 ⟨Nat.le_of_ble_eq_true rfl, Nat.le_of_ble_eq_true rfl⟩ hl.1 (Nat.le_of_ble_eq_true rfl) ⟨Nat.zero_le _, Nat.zero_le _⟩ dL_addsUp_504 (fun H locs hP hS => ?_)
        refine xv_i2l T (by omega) dL_addsUp_507 ?_
        refine xv_ladd T dL_addsUp_508 ?_
        refine lv_aload_n T.1 T.2.1 dL_addsUp_509 rfl (lv_at hl 0 rfl) ?_
        refine xv_iconst T dL_addsUp_510 ?_
        refine ly_cents T hK hP hS (fun _ h => h) (by omega) (w := N 12) rfl mw_3_37 ⟨Nat.le_of_ble_eq_true rfl, Nat.le_of_ble_eq_true rfl⟩ hl.1 (Nat.le_of_ble_eq_true rfl) ⟨Nat.zero_le _, Nat.zero_le _⟩ dL_addsUp_511 (fun H locs hP hS => ?_)
        refine xv_i2l T (by omega) dL_addsUp_514 ?_
        refine xv_ladd T dL_addsUp_515 ?_
        refine lv_aload_n T.1 T.2.1 dL_addsUp_516 rfl (lv_at hl 0 rfl) ?_
        refine xv_iconst T dL_addsUp_517 ?_
        refine ly_cents T hK hP hS (fun _ h => h) (by omega) (w := N 13) rfl mw_3_37 ⟨Nat.le_of_ble_eq_true rfl, Nat.le_of_ble_eq_true rfl⟩ hl.1 (Nat.le_of_ble_eq_true rfl) ⟨Nat.zero_le _, Nat.zero_le _⟩ dL_addsUp_518 (fun H locs hP hS => ?_)
        refine xv_i2l T (by omega) dL_addsUp_521 ?_
        refine xv_ladd T dL_addsUp_522 ?_
        refine xv_lcmp_ne T (tgt := 559) dL_addsUp_523 dL_addsUp_524 (by decide) (fun c => absurd (congrArg lI (show N 9 = hd + N 10 + N 11 + N 12 + N 13 by omega)) c) (fun _ => ?_)
        refine lv_aload_n T.1 T.2.1 dL_addsUp_527 rfl (lv_at hl 0 rfl) ?_
        refine ly_runsOut T hK hP hS (fun _ h => h) (w := fi + 1 - N 1) ((fiI_end hfi2).trans (if_neg hf)) mw_3_86 ⟨Nat.le_of_ble_eq_true rfl, Nat.le_of_ble_eq_true rfl⟩ hl.1 (Nat.le_of_ble_eq_true rfl) ⟨Nat.zero_le _, Nat.zero_le _⟩ dL_addsUp_528 (fun H locs hP hS => ?_)
        refine lv_iload T.1 T.2.1 dL_addsUp_531 (lv_at hl 7 rfl) ?_
        refine xv_if_ge T (by omega) (tgt := 541) dL_addsUp_533 (by decide) (fun _ => ?_) (fun c14 => absurd c14 (by omega))
        refine lv_iload T.1 T.2.1 dL_addsUp_541 (lv_at hl 7 rfl) ?_
        refine xv_iconst T dL_addsUp_543 ?_
        refine xv_iadd T dL_addsUp_544 ?_
        refine lv_aload_n T.1 T.2.1 dL_addsUp_545 rfl (lv_at hl 0 rfl) ?_
        refine xv_bipush T dL_addsUp_546 (by omega) ?_
        refine ly_count T hK hP hS (fun _ h => h) (by omega) (w := N 1) rfl mw_3_50 ⟨Nat.le_of_ble_eq_true rfl, Nat.le_of_ble_eq_true rfl⟩ hl.1 (Nat.le_of_ble_eq_true rfl) ⟨Nat.zero_le _, Nat.zero_le _⟩ dL_addsUp_548 (fun H locs hP hS => ?_)
        refine xv_isub T dL_addsUp_551 ?_
        refine xv_icmp_ne T (by omega) (tgt := 559) dL_addsUp_552 (by decide) (fun c15 => absurd c15 (by omega)) (fun _ => ?_)
        refine xv_iconst T dL_addsUp_555 ?_
        refine lv_goto T.1 T.2.1 (tgt := 560) dL_addsUp_556 (by decide) ?_
        refine lv_istore_n (lv' := [(3, .int (iI 1)), (0, .ref o), (1, .int (iI lk)), (2, .int (iI tn)), (4, .int (iI on)), (5, .long (lI hd)), (7, .int (iI rs)), (8, .int (iI fi)), (9, .int (iI b))]) T.1 T.2.1 dL_addsUp_560 rfl hl (by decide) rfl (fun ls hl => ?_)
        refine xv_iconst T dL_addsUp_561 ?_
        refine lv_istore (lv' := [(9, .int (iI 0)), (3, .int (iI 1)), (0, .ref o), (1, .int (iI lk)), (2, .int (iI tn)), (4, .int (iI on)), (5, .long (lI hd)), (7, .int (iI rs)), (8, .int (iI fi))]) T.1 T.2.1 dL_addsUp_562 hl (by decide) rfl (fun ls hl => ?_)
        exact sg_L_addsUp_564 (st := st) T hr hk hK hX 10 0 _ _ ls (by omega) (by omega) hP hS (lv_sub hl [2, 1, 0] rfl)
    · skip
      refine lv_iload_n T.1 T.2.1 dL_addsUp_288 rfl (lv_at hl 3 rfl) ?_
      refine xv_if_eq T (by omega) (tgt := 435) dL_addsUp_289 (by decide) (fun c16 => absurd c16 (by omega)) (fun _ => ?_)
      have hb2 : 0 ≤ b ∧ b < N 6 := by omega
      have hB := hX.1.2.2.2.1 b hb2.1 hb2.2
      have hho := held_one hX hb2
      have hEB := hX.2.2.1.2.2 b hb2.1 hb2.2
      have hED := hX.2.2.2.1 b hb2.1 hb2.2
      by_cases hl0 : N (272 + b) = 0
      · skip
        refine lv_aload_n T.1 T.2.1 dL_addsUp_292 rfl (lv_at hl 0 rfl) ?_
        refine lv_iload T.1 T.2.1 dL_addsUp_293 (lv_at hl 8 rfl) ?_
        refine xv_iconst T dL_addsUp_295 ?_
        refine ly_bond T hK hP hS (fun _ h => h) (by omega) (by omega) (w := N (272 + b)) (rbo2 hb2) mw_2_139 ⟨Nat.le_of_ble_eq_true rfl, Nat.le_of_ble_eq_true rfl⟩ hl.1 (Nat.le_of_ble_eq_true rfl) ⟨Nat.zero_le _, Nat.zero_le _⟩ dL_addsUp_296 (fun H locs hP hS => ?_)
        refine lv_istore (lv' := [(10, .int (iI (N (272 + b)))), (0, .ref o), (1, .int (iI lk)), (2, .int (iI tn)), (3, .int (iI 1)), (4, .int (iI on)), (5, .long (lI hd)), (7, .int (iI rs)), (8, .int (iI fi)), (9, .int (iI b))]) T.1 T.2.1 dL_addsUp_299 hl (by decide) rfl (fun ls hl => ?_)
        refine lv_lload T.1 T.2.1 dL_addsUp_301 (lv_at hl 6 rfl) ?_
        refine lv_aload_n T.1 T.2.1 dL_addsUp_303 rfl (lv_at hl 1 rfl) ?_
        refine lv_iload T.1 T.2.1 dL_addsUp_304 (lv_at hl 9 rfl) ?_
        refine xv_iconst T dL_addsUp_306 ?_
        refine ly_bond T hK hP hS (fun _ h => h) (by omega) (by omega) (w := N (272 + b) * N (332 + b)) (rbo4 hb2) mw_2_139 ⟨Nat.le_of_ble_eq_true rfl, Nat.le_of_ble_eq_true rfl⟩ hl.1 (Nat.le_of_ble_eq_true rfl) ⟨Nat.zero_le _, Nat.zero_le _⟩ dL_addsUp_307 (fun H locs hP hS => ?_)
        refine xv_i2l T (by omega) dL_addsUp_310 ?_
        refine xv_ladd T dL_addsUp_311 ?_
        refine lv_lstore (lv' := [(5, .long (lI (hd + (N (272 + b) * N (332 + b))))), (10, .int (iI (N (272 + b)))), (0, .ref o), (1, .int (iI lk)), (2, .int (iI tn)), (3, .int (iI 1)), (4, .int (iI on)), (7, .int (iI rs)), (8, .int (iI fi)), (9, .int (iI b))]) T.1 T.2.1 dL_addsUp_312 hl (by decide) rfl (fun ls hl => ?_)
        refine lv_iload T.1 T.2.1 dL_addsUp_314 (lv_at hl 7 rfl) ?_
        refine lv_iload T.1 T.2.1 dL_addsUp_316 (lv_at hl 1 rfl) ?_
        refine xv_if_le T (by omega) (tgt := 325) dL_addsUp_318 (by decide) (fun _ => ?_) (fun c17 => absurd c17 (by omega))
        refine xv_iconst T dL_addsUp_325 ?_
        refine xv_iadd T dL_addsUp_326 ?_
        refine lv_istore (lv' := [(7, .int (iI (rs + 0))), (5, .long (lI (hd + (N (272 + b) * N (332 + b))))), (10, .int (iI (N (272 + b)))), (0, .ref o), (1, .int (iI lk)), (2, .int (iI tn)), (3, .int (iI 1)), (4, .int (iI on)), (8, .int (iI fi)), (9, .int (iI b))]) T.1 T.2.1 dL_addsUp_327 hl (by decide) rfl (fun ls hl => ?_)
        refine lv_iload T.1 T.2.1 dL_addsUp_329 (lv_at hl 2 rfl) ?_
        refine xv_if_le T (by omega) (tgt := 361) dL_addsUp_331 (by decide) (fun _ => ?_) (fun c18 => absurd c18 (by omega))
        refine lv_iload T.1 T.2.1 dL_addsUp_361 (lv_at hl 8 rfl) ?_
        refine lv_istore (lv' := [(8, .int (iI fi)), (7, .int (iI (rs + 0))), (5, .long (lI (hd + (N (272 + b) * N (332 + b))))), (10, .int (iI (N (272 + b)))), (0, .ref o), (1, .int (iI lk)), (2, .int (iI tn)), (3, .int (iI 1)), (4, .int (iI on)), (9, .int (iI b))]) T.1 T.2.1 dL_addsUp_363 hl (by decide) rfl (fun ls hl => ?_)
        refine lv_iload T.1 T.2.1 dL_addsUp_365 (lv_at hl 3 rfl) ?_
        refine xv_if_lt T (by omega) (tgt := 427) dL_addsUp_367 (by decide) (fun c19 => absurd c19 (by omega)) (fun _ => ?_)
        refine lv_iload T.1 T.2.1 dL_addsUp_370 (lv_at hl 3 rfl) ?_
        refine lv_aload_n T.1 T.2.1 dL_addsUp_372 rfl (lv_at hl 4 rfl) ?_
        refine lv_iload T.1 T.2.1 dL_addsUp_373 (lv_at hl 9 rfl) ?_
        refine xv_iconst T dL_addsUp_375 ?_
        refine ly_bond T hK hP hS (fun _ h => h) (by omega) (by omega) (w := N (212 + b)) (rbo1 hb2) mw_2_139 ⟨Nat.le_of_ble_eq_true rfl, Nat.le_of_ble_eq_true rfl⟩ hl.1 (Nat.le_of_ble_eq_true rfl) ⟨Nat.zero_le _, Nat.zero_le _⟩ dL_addsUp_376 (fun H locs hP hS => ?_)
        refine xv_icmp_gt T (by omega) (tgt := 427) dL_addsUp_379 (by decide) (fun c20 => absurd c20 (by omega)) (fun _ => ?_)
        refine lv_aload_n T.1 T.2.1 dL_addsUp_382 rfl (lv_at hl 4 rfl) ?_
        refine lv_iload T.1 T.2.1 dL_addsUp_383 (lv_at hl 9 rfl) ?_
        refine xv_iconst T dL_addsUp_385 ?_
        refine ly_bond T hK hP hS (fun _ h => h) (by omega) (by omega) (w := N (272 + b) * N (332 + b)) (rbo4 hb2) mw_2_139 ⟨Nat.le_of_ble_eq_true rfl, Nat.le_of_ble_eq_true rfl⟩ hl.1 (Nat.le_of_ble_eq_true rfl) ⟨Nat.zero_le _, Nat.zero_le _⟩ dL_addsUp_386 (fun H locs hP hS => ?_)
        refine lv_iload T.1 T.2.1 dL_addsUp_389 (lv_at hl 3 rfl) ?_
        refine lv_aload_n T.1 T.2.1 dL_addsUp_391 rfl (lv_at hl 4 rfl) ?_
        refine lv_iload T.1 T.2.1 dL_addsUp_392 (lv_at hl 9 rfl) ?_
        refine xv_iconst T dL_addsUp_394 ?_
        refine ly_bond T hK hP hS (fun _ h => h) (by omega) (by omega) (w := N (332 + b)) (rbo3 hb2) mw_2_139 ⟨Nat.le_of_ble_eq_true rfl, Nat.le_of_ble_eq_true rfl⟩ hl.1 (Nat.le_of_ble_eq_true rfl) ⟨Nat.zero_le _, Nat.zero_le _⟩ dL_addsUp_395 (fun H locs hP hS => ?_)
        refine xv_imul T dL_addsUp_398 ?_
        refine xv_icmp_ne T (by omega) (tgt := 427) dL_addsUp_399 (by decide) (fun c21 => absurd c21 (by omega)) (fun _ => ?_)
        refine lv_iload T.1 T.2.1 dL_addsUp_402 (lv_at hl 3 rfl) ?_
        refine xv_if_eq T (by omega) (tgt := 423) dL_addsUp_404 (by decide) (fun _ => ?_) (fun c22 => absurd c22 (by omega))
        refine xv_iconst T dL_addsUp_423 ?_
        refine lv_goto T.1 T.2.1 (tgt := 428) dL_addsUp_424 (by decide) ?_
        refine lv_istore_n (lv' := [(3, .int (iI 1)), (8, .int (iI fi)), (7, .int (iI (rs + 0))), (5, .long (lI (hd + (N (272 + b) * N (332 + b))))), (10, .int (iI (N (272 + b)))), (0, .ref o), (1, .int (iI lk)), (2, .int (iI tn)), (4, .int (iI on)), (9, .int (iI b))]) T.1 T.2.1 dL_addsUp_428 rfl hl (by decide) rfl (fun ls hl => ?_)
        refine xv_iinc T (y := b + 1) (lv' := [(9, .int (iI (b + 1))), (3, .int (iI 1)), (8, .int (iI fi)), (7, .int (iI (rs + 0))), (5, .long (lI (hd + (N (272 + b) * N (332 + b))))), (10, .int (iI (N (272 + b)))), (0, .ref o), (1, .int (iI lk)), (2, .int (iI tn)), (4, .int (iI on))]) dL_addsUp_429 hl (q := 9) rfl (by omega) (by decide) rfl (fun ls hl => ?_)
        refine lv_goto T.1 T.2.1 (tgt := 278) dL_addsUp_432 (by decide) ?_
        exact ih278 lk tn on (hd + (N (272 + b) * N (332 + b))) (rs + 0) fi (b + 1) _ _ ls (by omega) hlk htn hon (by rw [sumZ_step (by omega), ← hhd]) (by rw [sumZ_step (by omega), ← hrs]; first | rw [if_pos (by omega)] | rw [if_neg (by omega)]) (by first | exact fiI_no hfi (by omega) | exact fiI_yes hfi hb2.1 (by omega) (by omega) (by omega) | exact fiI_not hfi (by omega)) (by omega) hP hS (lv_sub hl [6, 7, 8, 1, 9, 4, 3, 2, 0] rfl)
      · skip
        have hED := hED (by omega)
        by_cases hf : fi < 0
        · skip
          refine lv_aload_n T.1 T.2.1 dL_addsUp_292 rfl (lv_at hl 0 rfl) ?_
          refine lv_iload T.1 T.2.1 dL_addsUp_293 (lv_at hl 8 rfl) ?_
          refine xv_iconst T dL_addsUp_295 ?_
          refine ly_bond T hK hP hS (fun _ h => h) (by omega) (by omega) (w := N (272 + b)) (rbo2 hb2) mw_2_139 ⟨Nat.le_of_ble_eq_true rfl, Nat.le_of_ble_eq_true rfl⟩ hl.1 (Nat.le_of_ble_eq_true rfl) ⟨Nat.zero_le _, Nat.zero_le _⟩ dL_addsUp_296 (fun H locs hP hS => ?_)
          refine lv_istore (lv' := [(10, .int (iI (N (272 + b)))), (0, .ref o), (1, .int (iI lk)), (2, .int (iI tn)), (3, .int (iI 1)), (4, .int (iI on)), (5, .long (lI hd)), (7, .int (iI rs)), (8, .int (iI fi)), (9, .int (iI b))]) T.1 T.2.1 dL_addsUp_299 hl (by decide) rfl (fun ls hl => ?_)
          refine lv_lload T.1 T.2.1 dL_addsUp_301 (lv_at hl 6 rfl) ?_
          refine lv_aload_n T.1 T.2.1 dL_addsUp_303 rfl (lv_at hl 1 rfl) ?_
          refine lv_iload T.1 T.2.1 dL_addsUp_304 (lv_at hl 9 rfl) ?_
          refine xv_iconst T dL_addsUp_306 ?_
          refine ly_bond T hK hP hS (fun _ h => h) (by omega) (by omega) (w := N (272 + b) * N (332 + b)) (rbo4 hb2) mw_2_139 ⟨Nat.le_of_ble_eq_true rfl, Nat.le_of_ble_eq_true rfl⟩ hl.1 (Nat.le_of_ble_eq_true rfl) ⟨Nat.zero_le _, Nat.zero_le _⟩ dL_addsUp_307 (fun H locs hP hS => ?_)
          refine xv_i2l T (by omega) dL_addsUp_310 ?_
          refine xv_ladd T dL_addsUp_311 ?_
          refine lv_lstore (lv' := [(5, .long (lI (hd + (N (272 + b) * N (332 + b))))), (10, .int (iI (N (272 + b)))), (0, .ref o), (1, .int (iI lk)), (2, .int (iI tn)), (3, .int (iI 1)), (4, .int (iI on)), (7, .int (iI rs)), (8, .int (iI fi)), (9, .int (iI b))]) T.1 T.2.1 dL_addsUp_312 hl (by decide) rfl (fun ls hl => ?_)
          refine lv_iload T.1 T.2.1 dL_addsUp_314 (lv_at hl 7 rfl) ?_
          refine lv_iload T.1 T.2.1 dL_addsUp_316 (lv_at hl 1 rfl) ?_
          refine xv_if_le T (by omega) (tgt := 325) dL_addsUp_318 (by decide) (fun c23 => absurd c23 (by omega)) (fun _ => ?_)
          refine xv_iconst T dL_addsUp_321 ?_
          refine lv_goto T.1 T.2.1 (tgt := 326) dL_addsUp_322 (by decide) ?_
          refine xv_iadd T dL_addsUp_326 ?_
          refine lv_istore (lv' := [(7, .int (iI (rs + 1))), (5, .long (lI (hd + (N (272 + b) * N (332 + b))))), (10, .int (iI (N (272 + b)))), (0, .ref o), (1, .int (iI lk)), (2, .int (iI tn)), (3, .int (iI 1)), (4, .int (iI on)), (8, .int (iI fi)), (9, .int (iI b))]) T.1 T.2.1 dL_addsUp_327 hl (by decide) rfl (fun ls hl => ?_)
          refine lv_iload T.1 T.2.1 dL_addsUp_329 (lv_at hl 2 rfl) ?_
          refine xv_if_le T (by omega) (tgt := 361) dL_addsUp_331 (by decide) (fun c24 => absurd c24 (by omega)) (fun _ => ?_)
          refine lv_iload T.1 T.2.1 dL_addsUp_334 (lv_at hl 8 rfl) ?_
          refine xv_if_lt T (by omega) (tgt := 351) dL_addsUp_336 (by decide) (fun _ => ?_) (fun c25 => absurd c25 (by omega))
          refine lv_aload_n T.1 T.2.1 dL_addsUp_351 rfl (lv_at hl 3 rfl) ?_
          refine lv_iload T.1 T.2.1 dL_addsUp_352 (lv_at hl 9 rfl) ?_
          refine xv_iconst T dL_addsUp_354 ?_
          refine ly_bond T hK hP hS (fun _ h => h) (by omega) (by omega) (w := N (392 + b)) (rbo5 hb2) mw_2_139 ⟨Nat.le_of_ble_eq_true rfl, Nat.le_of_ble_eq_true rfl⟩ hl.1 (Nat.le_of_ble_eq_true rfl) ⟨Nat.zero_le _, Nat.zero_le _⟩ dL_addsUp_355 (fun H locs hP hS => ?_)
          refine lv_goto T.1 T.2.1 (tgt := 363) dL_addsUp_358 (by decide) ?_
          refine lv_istore (lv' := [(8, .int (iI (N (392 + b)))), (7, .int (iI (rs + 1))), (5, .long (lI (hd + (N (272 + b) * N (332 + b))))), (10, .int (iI (N (272 + b)))), (0, .ref o), (1, .int (iI lk)), (2, .int (iI tn)), (3, .int (iI 1)), (4, .int (iI on)), (9, .int (iI b))]) T.1 T.2.1 dL_addsUp_363 hl (by decide) rfl (fun ls hl => ?_)
          refine lv_iload T.1 T.2.1 dL_addsUp_365 (lv_at hl 3 rfl) ?_
          refine xv_if_lt T (by omega) (tgt := 427) dL_addsUp_367 (by decide) (fun c26 => absurd c26 (by omega)) (fun _ => ?_)
          refine lv_iload T.1 T.2.1 dL_addsUp_370 (lv_at hl 3 rfl) ?_
          refine lv_aload_n T.1 T.2.1 dL_addsUp_372 rfl (lv_at hl 4 rfl) ?_
          refine lv_iload T.1 T.2.1 dL_addsUp_373 (lv_at hl 9 rfl) ?_
          refine xv_iconst T dL_addsUp_375 ?_
          refine ly_bond T hK hP hS (fun _ h => h) (by omega) (by omega) (w := N (212 + b)) (rbo1 hb2) mw_2_139 ⟨Nat.le_of_ble_eq_true rfl, Nat.le_of_ble_eq_true rfl⟩ hl.1 (Nat.le_of_ble_eq_true rfl) ⟨Nat.zero_le _, Nat.zero_le _⟩ dL_addsUp_376 (fun H locs hP hS => ?_)
          refine xv_icmp_gt T (by omega) (tgt := 427) dL_addsUp_379 (by decide) (fun c27 => absurd c27 (by omega)) (fun _ => ?_)
          refine lv_aload_n T.1 T.2.1 dL_addsUp_382 rfl (lv_at hl 4 rfl) ?_
          refine lv_iload T.1 T.2.1 dL_addsUp_383 (lv_at hl 9 rfl) ?_
          refine xv_iconst T dL_addsUp_385 ?_
          refine ly_bond T hK hP hS (fun _ h => h) (by omega) (by omega) (w := N (272 + b) * N (332 + b)) (rbo4 hb2) mw_2_139 ⟨Nat.le_of_ble_eq_true rfl, Nat.le_of_ble_eq_true rfl⟩ hl.1 (Nat.le_of_ble_eq_true rfl) ⟨Nat.zero_le _, Nat.zero_le _⟩ dL_addsUp_386 (fun H locs hP hS => ?_)
          refine lv_iload T.1 T.2.1 dL_addsUp_389 (lv_at hl 3 rfl) ?_
          refine lv_aload_n T.1 T.2.1 dL_addsUp_391 rfl (lv_at hl 4 rfl) ?_
          refine lv_iload T.1 T.2.1 dL_addsUp_392 (lv_at hl 9 rfl) ?_
          refine xv_iconst T dL_addsUp_394 ?_
          refine ly_bond T hK hP hS (fun _ h => h) (by omega) (by omega) (w := N (332 + b)) (rbo3 hb2) mw_2_139 ⟨Nat.le_of_ble_eq_true rfl, Nat.le_of_ble_eq_true rfl⟩ hl.1 (Nat.le_of_ble_eq_true rfl) ⟨Nat.zero_le _, Nat.zero_le _⟩ dL_addsUp_395 (fun H locs hP hS => ?_)
          refine xv_imul T dL_addsUp_398 ?_
          refine xv_icmp_ne T (by omega) (tgt := 427) dL_addsUp_399 (by decide) (fun c28 => absurd c28 (by omega)) (fun _ => ?_)
          refine lv_iload T.1 T.2.1 dL_addsUp_402 (lv_at hl 3 rfl) ?_
          refine xv_if_eq T (by omega) (tgt := 423) dL_addsUp_404 (by decide) (fun c29 => absurd c29 (by omega)) (fun _ => ?_)
          refine lv_aload_n T.1 T.2.1 dL_addsUp_407 rfl (lv_at hl 4 rfl) ?_
          refine lv_iload T.1 T.2.1 dL_addsUp_408 (lv_at hl 9 rfl) ?_
          refine xv_iconst T dL_addsUp_410 ?_
          refine ly_bond T hK hP hS (fun _ h => h) (by omega) (by omega) (w := N (392 + b)) (rbo5 hb2) mw_2_139 ⟨Nat.le_of_ble_eq_true rfl, Nat.le_of_ble_eq_true rfl⟩ hl.1 (Nat.le_of_ble_eq_true rfl) ⟨Nat.zero_le _, Nat.zero_le _⟩ dL_addsUp_411 (fun H locs hP hS => ?_)
          refine lv_aload_n T.1 T.2.1 dL_addsUp_414 rfl (lv_at hl 4 rfl) ?_
          refine xv_bipush T dL_addsUp_415 (by omega) ?_
          refine ly_count T hK hP hS (fun _ h => h) (by omega) (w := N 1) rfl mw_3_50 ⟨Nat.le_of_ble_eq_true rfl, Nat.le_of_ble_eq_true rfl⟩ hl.1 (Nat.le_of_ble_eq_true rfl) ⟨Nat.zero_le _, Nat.zero_le _⟩ dL_addsUp_417 (fun H locs hP hS => ?_)
          refine xv_icmp_lt T (by omega) (tgt := 427) dL_addsUp_420 (by decide) (fun c30 => absurd c30 (by omega)) (fun _ => ?_)
          refine xv_iconst T dL_addsUp_423 ?_
          refine lv_goto T.1 T.2.1 (tgt := 428) dL_addsUp_424 (by decide) ?_
          refine lv_istore_n (lv' := [(3, .int (iI 1)), (8, .int (iI (N (392 + b)))), (7, .int (iI (rs + 1))), (5, .long (lI (hd + (N (272 + b) * N (332 + b))))), (10, .int (iI (N (272 + b)))), (0, .ref o), (1, .int (iI lk)), (2, .int (iI tn)), (4, .int (iI on)), (9, .int (iI b))]) T.1 T.2.1 dL_addsUp_428 rfl hl (by decide) rfl (fun ls hl => ?_)
          refine xv_iinc T (y := b + 1) (lv' := [(9, .int (iI (b + 1))), (3, .int (iI 1)), (8, .int (iI (N (392 + b)))), (7, .int (iI (rs + 1))), (5, .long (lI (hd + (N (272 + b) * N (332 + b))))), (10, .int (iI (N (272 + b)))), (0, .ref o), (1, .int (iI lk)), (2, .int (iI tn)), (4, .int (iI on))]) dL_addsUp_429 hl (q := 9) rfl (by omega) (by decide) rfl (fun ls hl => ?_)
          refine lv_goto T.1 T.2.1 (tgt := 278) dL_addsUp_432 (by decide) ?_
          exact ih278 lk tn on (hd + (N (272 + b) * N (332 + b))) (rs + 1) (N (392 + b)) (b + 1) _ _ ls (by omega) hlk htn hon (by rw [sumZ_step (by omega), ← hhd]) (by rw [sumZ_step (by omega), ← hrs]; first | rw [if_pos (by omega)] | rw [if_neg (by omega)]) (by first | exact fiI_no hfi (by omega) | exact fiI_yes hfi hb2.1 (by omega) (by omega) (by omega) | exact fiI_not hfi (by omega)) (by omega) hP hS (lv_sub hl [6, 7, 8, 1, 9, 4, 3, 2, 0] rfl)
        · skip
          by_cases hf2 : fi ≤ N (392 + b)
          · skip
            refine lv_aload_n T.1 T.2.1 dL_addsUp_292 rfl (lv_at hl 0 rfl) ?_
            refine lv_iload T.1 T.2.1 dL_addsUp_293 (lv_at hl 8 rfl) ?_
            refine xv_iconst T dL_addsUp_295 ?_
            refine ly_bond T hK hP hS (fun _ h => h) (by omega) (by omega) (w := N (272 + b)) (rbo2 hb2) mw_2_139 ⟨Nat.le_of_ble_eq_true rfl, Nat.le_of_ble_eq_true rfl⟩ hl.1 (Nat.le_of_ble_eq_true rfl) ⟨Nat.zero_le _, Nat.zero_le _⟩ dL_addsUp_296 (fun H locs hP hS => ?_)
            refine lv_istore (lv' := [(10, .int (iI (N (272 + b)))), (0, .ref o), (1, .int (iI lk)), (2, .int (iI tn)), (3, .int (iI 1)), (4, .int (iI on)), (5, .long (lI hd)), (7, .int (iI rs)), (8, .int (iI fi)), (9, .int (iI b))]) T.1 T.2.1 dL_addsUp_299 hl (by decide) rfl (fun ls hl => ?_)
            refine lv_lload T.1 T.2.1 dL_addsUp_301 (lv_at hl 6 rfl) ?_
            refine lv_aload_n T.1 T.2.1 dL_addsUp_303 rfl (lv_at hl 1 rfl) ?_
            refine lv_iload T.1 T.2.1 dL_addsUp_304 (lv_at hl 9 rfl) ?_
            refine xv_iconst T dL_addsUp_306 ?_
            refine ly_bond T hK hP hS (fun _ h => h) (by omega) (by omega) (w := N (272 + b) * N (332 + b)) (rbo4 hb2) mw_2_139 ⟨Nat.le_of_ble_eq_true rfl, Nat.le_of_ble_eq_true rfl⟩ hl.1 (Nat.le_of_ble_eq_true rfl) ⟨Nat.zero_le _, Nat.zero_le _⟩ dL_addsUp_307 (fun H locs hP hS => ?_)
            refine xv_i2l T (by omega) dL_addsUp_310 ?_
            refine xv_ladd T dL_addsUp_311 ?_
            refine lv_lstore (lv' := [(5, .long (lI (hd + (N (272 + b) * N (332 + b))))), (10, .int (iI (N (272 + b)))), (0, .ref o), (1, .int (iI lk)), (2, .int (iI tn)), (3, .int (iI 1)), (4, .int (iI on)), (7, .int (iI rs)), (8, .int (iI fi)), (9, .int (iI b))]) T.1 T.2.1 dL_addsUp_312 hl (by decide) rfl (fun ls hl => ?_)
            refine lv_iload T.1 T.2.1 dL_addsUp_314 (lv_at hl 7 rfl) ?_
            refine lv_iload T.1 T.2.1 dL_addsUp_316 (lv_at hl 1 rfl) ?_
            refine xv_if_le T (by omega) (tgt := 325) dL_addsUp_318 (by decide) (fun c31 => absurd c31 (by omega)) (fun _ => ?_)
            refine xv_iconst T dL_addsUp_321 ?_
            refine lv_goto T.1 T.2.1 (tgt := 326) dL_addsUp_322 (by decide) ?_
            refine xv_iadd T dL_addsUp_326 ?_
            refine lv_istore (lv' := [(7, .int (iI (rs + 1))), (5, .long (lI (hd + (N (272 + b) * N (332 + b))))), (10, .int (iI (N (272 + b)))), (0, .ref o), (1, .int (iI lk)), (2, .int (iI tn)), (3, .int (iI 1)), (4, .int (iI on)), (8, .int (iI fi)), (9, .int (iI b))]) T.1 T.2.1 dL_addsUp_327 hl (by decide) rfl (fun ls hl => ?_)
            refine lv_iload T.1 T.2.1 dL_addsUp_329 (lv_at hl 2 rfl) ?_
            refine xv_if_le T (by omega) (tgt := 361) dL_addsUp_331 (by decide) (fun c32 => absurd c32 (by omega)) (fun _ => ?_)
            refine lv_iload T.1 T.2.1 dL_addsUp_334 (lv_at hl 8 rfl) ?_
            refine xv_if_lt T (by omega) (tgt := 351) dL_addsUp_336 (by decide) (fun c33 => absurd c33 (by omega)) (fun _ => ?_)
            refine lv_aload_n T.1 T.2.1 dL_addsUp_339 rfl (lv_at hl 3 rfl) ?_
            refine lv_iload T.1 T.2.1 dL_addsUp_340 (lv_at hl 9 rfl) ?_
            refine xv_iconst T dL_addsUp_342 ?_
            refine ly_bond T hK hP hS (fun _ h => h) (by omega) (by omega) (w := N (392 + b)) (rbo5 hb2) mw_2_139 ⟨Nat.le_of_ble_eq_true rfl, Nat.le_of_ble_eq_true rfl⟩ hl.1 (Nat.le_of_ble_eq_true rfl) ⟨Nat.zero_le _, Nat.zero_le _⟩ dL_addsUp_343 (fun H locs hP hS => ?_)
            refine lv_iload T.1 T.2.1 dL_addsUp_346 (lv_at hl 8 rfl) ?_
            refine xv_icmp_ge T (by omega) (tgt := 361) dL_addsUp_348 (by decide) (fun _ => ?_) (fun c34 => absurd c34 (by omega))
            refine lv_iload T.1 T.2.1 dL_addsUp_361 (lv_at hl 8 rfl) ?_
            refine lv_istore (lv' := [(8, .int (iI fi)), (7, .int (iI (rs + 1))), (5, .long (lI (hd + (N (272 + b) * N (332 + b))))), (10, .int (iI (N (272 + b)))), (0, .ref o), (1, .int (iI lk)), (2, .int (iI tn)), (3, .int (iI 1)), (4, .int (iI on)), (9, .int (iI b))]) T.1 T.2.1 dL_addsUp_363 hl (by decide) rfl (fun ls hl => ?_)
            refine lv_iload T.1 T.2.1 dL_addsUp_365 (lv_at hl 3 rfl) ?_
            refine xv_if_lt T (by omega) (tgt := 427) dL_addsUp_367 (by decide) (fun c35 => absurd c35 (by omega)) (fun _ => ?_)
            refine lv_iload T.1 T.2.1 dL_addsUp_370 (lv_at hl 3 rfl) ?_
            refine lv_aload_n T.1 T.2.1 dL_addsUp_372 rfl (lv_at hl 4 rfl) ?_
            refine lv_iload T.1 T.2.1 dL_addsUp_373 (lv_at hl 9 rfl) ?_
            refine xv_iconst T dL_addsUp_375 ?_
            refine ly_bond T hK hP hS (fun _ h => h) (by omega) (by omega) (w := N (212 + b)) (rbo1 hb2) mw_2_139 ⟨Nat.le_of_ble_eq_true rfl, Nat.le_of_ble_eq_true rfl⟩ hl.1 (Nat.le_of_ble_eq_true rfl) ⟨Nat.zero_le _, Nat.zero_le _⟩ dL_addsUp_376 (fun H locs hP hS => ?_)
            refine xv_icmp_gt T (by omega) (tgt := 427) dL_addsUp_379 (by decide) (fun c36 => absurd c36 (by omega)) (fun _ => ?_)
            refine lv_aload_n T.1 T.2.1 dL_addsUp_382 rfl (lv_at hl 4 rfl) ?_
            refine lv_iload T.1 T.2.1 dL_addsUp_383 (lv_at hl 9 rfl) ?_
            refine xv_iconst T dL_addsUp_385 ?_
            refine ly_bond T hK hP hS (fun _ h => h) (by omega) (by omega) (w := N (272 + b) * N (332 + b)) (rbo4 hb2) mw_2_139 ⟨Nat.le_of_ble_eq_true rfl, Nat.le_of_ble_eq_true rfl⟩ hl.1 (Nat.le_of_ble_eq_true rfl) ⟨Nat.zero_le _, Nat.zero_le _⟩ dL_addsUp_386 (fun H locs hP hS => ?_)
            refine lv_iload T.1 T.2.1 dL_addsUp_389 (lv_at hl 3 rfl) ?_
            refine lv_aload_n T.1 T.2.1 dL_addsUp_391 rfl (lv_at hl 4 rfl) ?_
            refine lv_iload T.1 T.2.1 dL_addsUp_392 (lv_at hl 9 rfl) ?_
            refine xv_iconst T dL_addsUp_394 ?_
            refine ly_bond T hK hP hS (fun _ h => h) (by omega) (by omega) (w := N (332 + b)) (rbo3 hb2) mw_2_139 ⟨Nat.le_of_ble_eq_true rfl, Nat.le_of_ble_eq_true rfl⟩ hl.1 (Nat.le_of_ble_eq_true rfl) ⟨Nat.zero_le _, Nat.zero_le _⟩ dL_addsUp_395 (fun H locs hP hS => ?_)
            refine xv_imul T dL_addsUp_398 ?_
            refine xv_icmp_ne T (by omega) (tgt := 427) dL_addsUp_399 (by decide) (fun c37 => absurd c37 (by omega)) (fun _ => ?_)
            refine lv_iload T.1 T.2.1 dL_addsUp_402 (lv_at hl 3 rfl) ?_
            refine xv_if_eq T (by omega) (tgt := 423) dL_addsUp_404 (by decide) (fun c38 => absurd c38 (by omega)) (fun _ => ?_)
            refine lv_aload_n T.1 T.2.1 dL_addsUp_407 rfl (lv_at hl 4 rfl) ?_
            refine lv_iload T.1 T.2.1 dL_addsUp_408 (lv_at hl 9 rfl) ?_
            refine xv_iconst T dL_addsUp_410 ?_
            refine ly_bond T hK hP hS (fun _ h => h) (by omega) (by omega) (w := N (392 + b)) (rbo5 hb2) mw_2_139 ⟨Nat.le_of_ble_eq_true rfl, Nat.le_of_ble_eq_true rfl⟩ hl.1 (Nat.le_of_ble_eq_true rfl) ⟨Nat.zero_le _, Nat.zero_le _⟩ dL_addsUp_411 (fun H locs hP hS => ?_)
            refine lv_aload_n T.1 T.2.1 dL_addsUp_414 rfl (lv_at hl 4 rfl) ?_
            refine xv_bipush T dL_addsUp_415 (by omega) ?_
            refine ly_count T hK hP hS (fun _ h => h) (by omega) (w := N 1) rfl mw_3_50 ⟨Nat.le_of_ble_eq_true rfl, Nat.le_of_ble_eq_true rfl⟩ hl.1 (Nat.le_of_ble_eq_true rfl) ⟨Nat.zero_le _, Nat.zero_le _⟩ dL_addsUp_417 (fun H locs hP hS => ?_)
            refine xv_icmp_lt T (by omega) (tgt := 427) dL_addsUp_420 (by decide) (fun c39 => absurd c39 (by omega)) (fun _ => ?_)
            refine xv_iconst T dL_addsUp_423 ?_
            refine lv_goto T.1 T.2.1 (tgt := 428) dL_addsUp_424 (by decide) ?_
            refine lv_istore_n (lv' := [(3, .int (iI 1)), (8, .int (iI fi)), (7, .int (iI (rs + 1))), (5, .long (lI (hd + (N (272 + b) * N (332 + b))))), (10, .int (iI (N (272 + b)))), (0, .ref o), (1, .int (iI lk)), (2, .int (iI tn)), (4, .int (iI on)), (9, .int (iI b))]) T.1 T.2.1 dL_addsUp_428 rfl hl (by decide) rfl (fun ls hl => ?_)
            refine xv_iinc T (y := b + 1) (lv' := [(9, .int (iI (b + 1))), (3, .int (iI 1)), (8, .int (iI fi)), (7, .int (iI (rs + 1))), (5, .long (lI (hd + (N (272 + b) * N (332 + b))))), (10, .int (iI (N (272 + b)))), (0, .ref o), (1, .int (iI lk)), (2, .int (iI tn)), (4, .int (iI on))]) dL_addsUp_429 hl (q := 9) rfl (by omega) (by decide) rfl (fun ls hl => ?_)
            refine lv_goto T.1 T.2.1 (tgt := 278) dL_addsUp_432 (by decide) ?_
            exact ih278 lk tn on (hd + (N (272 + b) * N (332 + b))) (rs + 1) fi (b + 1) _ _ ls (by omega) hlk htn hon (by rw [sumZ_step (by omega), ← hhd]) (by rw [sumZ_step (by omega), ← hrs]; first | rw [if_pos (by omega)] | rw [if_neg (by omega)]) (by first | exact fiI_no hfi (by omega) | exact fiI_yes hfi hb2.1 (by omega) (by omega) (by omega) | exact fiI_not hfi (by omega)) (by omega) hP hS (lv_sub hl [6, 7, 8, 1, 9, 4, 3, 2, 0] rfl)
          · skip
            refine lv_aload_n T.1 T.2.1 dL_addsUp_292 rfl (lv_at hl 0 rfl) ?_
            refine lv_iload T.1 T.2.1 dL_addsUp_293 (lv_at hl 8 rfl) ?_
            refine xv_iconst T dL_addsUp_295 ?_
            refine ly_bond T hK hP hS (fun _ h => h) (by omega) (by omega) (w := N (272 + b)) (rbo2 hb2) mw_2_139 ⟨Nat.le_of_ble_eq_true rfl, Nat.le_of_ble_eq_true rfl⟩ hl.1 (Nat.le_of_ble_eq_true rfl) ⟨Nat.zero_le _, Nat.zero_le _⟩ dL_addsUp_296 (fun H locs hP hS => ?_)
            refine lv_istore (lv' := [(10, .int (iI (N (272 + b)))), (0, .ref o), (1, .int (iI lk)), (2, .int (iI tn)), (3, .int (iI 1)), (4, .int (iI on)), (5, .long (lI hd)), (7, .int (iI rs)), (8, .int (iI fi)), (9, .int (iI b))]) T.1 T.2.1 dL_addsUp_299 hl (by decide) rfl (fun ls hl => ?_)
            refine lv_lload T.1 T.2.1 dL_addsUp_301 (lv_at hl 6 rfl) ?_
            refine lv_aload_n T.1 T.2.1 dL_addsUp_303 rfl (lv_at hl 1 rfl) ?_
            refine lv_iload T.1 T.2.1 dL_addsUp_304 (lv_at hl 9 rfl) ?_
            refine xv_iconst T dL_addsUp_306 ?_
            refine ly_bond T hK hP hS (fun _ h => h) (by omega) (by omega) (w := N (272 + b) * N (332 + b)) (rbo4 hb2) mw_2_139 ⟨Nat.le_of_ble_eq_true rfl, Nat.le_of_ble_eq_true rfl⟩ hl.1 (Nat.le_of_ble_eq_true rfl) ⟨Nat.zero_le _, Nat.zero_le _⟩ dL_addsUp_307 (fun H locs hP hS => ?_)
            refine xv_i2l T (by omega) dL_addsUp_310 ?_
            refine xv_ladd T dL_addsUp_311 ?_
            refine lv_lstore (lv' := [(5, .long (lI (hd + (N (272 + b) * N (332 + b))))), (10, .int (iI (N (272 + b)))), (0, .ref o), (1, .int (iI lk)), (2, .int (iI tn)), (3, .int (iI 1)), (4, .int (iI on)), (7, .int (iI rs)), (8, .int (iI fi)), (9, .int (iI b))]) T.1 T.2.1 dL_addsUp_312 hl (by decide) rfl (fun ls hl => ?_)
            refine lv_iload T.1 T.2.1 dL_addsUp_314 (lv_at hl 7 rfl) ?_
            refine lv_iload T.1 T.2.1 dL_addsUp_316 (lv_at hl 1 rfl) ?_
            refine xv_if_le T (by omega) (tgt := 325) dL_addsUp_318 (by decide) (fun c40 => absurd c40 (by omega)) (fun _ => ?_)
            refine xv_iconst T dL_addsUp_321 ?_
            refine lv_goto T.1 T.2.1 (tgt := 326) dL_addsUp_322 (by decide) ?_
            refine xv_iadd T dL_addsUp_326 ?_
            refine lv_istore (lv' := [(7, .int (iI (rs + 1))), (5, .long (lI (hd + (N (272 + b) * N (332 + b))))), (10, .int (iI (N (272 + b)))), (0, .ref o), (1, .int (iI lk)), (2, .int (iI tn)), (3, .int (iI 1)), (4, .int (iI on)), (8, .int (iI fi)), (9, .int (iI b))]) T.1 T.2.1 dL_addsUp_327 hl (by decide) rfl (fun ls hl => ?_)
            refine lv_iload T.1 T.2.1 dL_addsUp_329 (lv_at hl 2 rfl) ?_
            refine xv_if_le T (by omega) (tgt := 361) dL_addsUp_331 (by decide) (fun c41 => absurd c41 (by omega)) (fun _ => ?_)
            refine lv_iload T.1 T.2.1 dL_addsUp_334 (lv_at hl 8 rfl) ?_
            refine xv_if_lt T (by omega) (tgt := 351) dL_addsUp_336 (by decide) (fun c42 => absurd c42 (by omega)) (fun _ => ?_)
            refine lv_aload_n T.1 T.2.1 dL_addsUp_339 rfl (lv_at hl 3 rfl) ?_
            refine lv_iload T.1 T.2.1 dL_addsUp_340 (lv_at hl 9 rfl) ?_
            refine xv_iconst T dL_addsUp_342 ?_
            refine ly_bond T hK hP hS (fun _ h => h) (by omega) (by omega) (w := N (392 + b)) (rbo5 hb2) mw_2_139 ⟨Nat.le_of_ble_eq_true rfl, Nat.le_of_ble_eq_true rfl⟩ hl.1 (Nat.le_of_ble_eq_true rfl) ⟨Nat.zero_le _, Nat.zero_le _⟩ dL_addsUp_343 (fun H locs hP hS => ?_)
            refine lv_iload T.1 T.2.1 dL_addsUp_346 (lv_at hl 8 rfl) ?_
            refine xv_icmp_ge T (by omega) (tgt := 361) dL_addsUp_348 (by decide) (fun c43 => absurd c43 (by omega)) (fun _ => ?_)
            refine lv_aload_n T.1 T.2.1 dL_addsUp_351 rfl (lv_at hl 3 rfl) ?_
            refine lv_iload T.1 T.2.1 dL_addsUp_352 (lv_at hl 9 rfl) ?_
            refine xv_iconst T dL_addsUp_354 ?_
            refine ly_bond T hK hP hS (fun _ h => h) (by omega) (by omega) (w := N (392 + b)) (rbo5 hb2) mw_2_139 ⟨Nat.le_of_ble_eq_true rfl, Nat.le_of_ble_eq_true rfl⟩ hl.1 (Nat.le_of_ble_eq_true rfl) ⟨Nat.zero_le _, Nat.zero_le _⟩ dL_addsUp_355 (fun H locs hP hS => ?_)
            refine lv_goto T.1 T.2.1 (tgt := 363) dL_addsUp_358 (by decide) ?_
            refine lv_istore (lv' := [(8, .int (iI (N (392 + b)))), (7, .int (iI (rs + 1))), (5, .long (lI (hd + (N (272 + b) * N (332 + b))))), (10, .int (iI (N (272 + b)))), (0, .ref o), (1, .int (iI lk)), (2, .int (iI tn)), (3, .int (iI 1)), (4, .int (iI on)), (9, .int (iI b))]) T.1 T.2.1 dL_addsUp_363 hl (by decide) rfl (fun ls hl => ?_)
            refine lv_iload T.1 T.2.1 dL_addsUp_365 (lv_at hl 3 rfl) ?_
            refine xv_if_lt T (by omega) (tgt := 427) dL_addsUp_367 (by decide) (fun c44 => absurd c44 (by omega)) (fun _ => ?_)
            refine lv_iload T.1 T.2.1 dL_addsUp_370 (lv_at hl 3 rfl) ?_
            refine lv_aload_n T.1 T.2.1 dL_addsUp_372 rfl (lv_at hl 4 rfl) ?_
            refine lv_iload T.1 T.2.1 dL_addsUp_373 (lv_at hl 9 rfl) ?_
            refine xv_iconst T dL_addsUp_375 ?_
            refine ly_bond T hK hP hS (fun _ h => h) (by omega) (by omega) (w := N (212 + b)) (rbo1 hb2) mw_2_139 ⟨Nat.le_of_ble_eq_true rfl, Nat.le_of_ble_eq_true rfl⟩ hl.1 (Nat.le_of_ble_eq_true rfl) ⟨Nat.zero_le _, Nat.zero_le _⟩ dL_addsUp_376 (fun H locs hP hS => ?_)
            refine xv_icmp_gt T (by omega) (tgt := 427) dL_addsUp_379 (by decide) (fun c45 => absurd c45 (by omega)) (fun _ => ?_)
            refine lv_aload_n T.1 T.2.1 dL_addsUp_382 rfl (lv_at hl 4 rfl) ?_
            refine lv_iload T.1 T.2.1 dL_addsUp_383 (lv_at hl 9 rfl) ?_
            refine xv_iconst T dL_addsUp_385 ?_
            refine ly_bond T hK hP hS (fun _ h => h) (by omega) (by omega) (w := N (272 + b) * N (332 + b)) (rbo4 hb2) mw_2_139 ⟨Nat.le_of_ble_eq_true rfl, Nat.le_of_ble_eq_true rfl⟩ hl.1 (Nat.le_of_ble_eq_true rfl) ⟨Nat.zero_le _, Nat.zero_le _⟩ dL_addsUp_386 (fun H locs hP hS => ?_)
            refine lv_iload T.1 T.2.1 dL_addsUp_389 (lv_at hl 3 rfl) ?_
            refine lv_aload_n T.1 T.2.1 dL_addsUp_391 rfl (lv_at hl 4 rfl) ?_
            refine lv_iload T.1 T.2.1 dL_addsUp_392 (lv_at hl 9 rfl) ?_
            refine xv_iconst T dL_addsUp_394 ?_
            refine ly_bond T hK hP hS (fun _ h => h) (by omega) (by omega) (w := N (332 + b)) (rbo3 hb2) mw_2_139 ⟨Nat.le_of_ble_eq_true rfl, Nat.le_of_ble_eq_true rfl⟩ hl.1 (Nat.le_of_ble_eq_true rfl) ⟨Nat.zero_le _, Nat.zero_le _⟩ dL_addsUp_395 (fun H locs hP hS => ?_)
            refine xv_imul T dL_addsUp_398 ?_
            refine xv_icmp_ne T (by omega) (tgt := 427) dL_addsUp_399 (by decide) (fun c46 => absurd c46 (by omega)) (fun _ => ?_)
            refine lv_iload T.1 T.2.1 dL_addsUp_402 (lv_at hl 3 rfl) ?_
            refine xv_if_eq T (by omega) (tgt := 423) dL_addsUp_404 (by decide) (fun c47 => absurd c47 (by omega)) (fun _ => ?_)
            refine lv_aload_n T.1 T.2.1 dL_addsUp_407 rfl (lv_at hl 4 rfl) ?_
            refine lv_iload T.1 T.2.1 dL_addsUp_408 (lv_at hl 9 rfl) ?_
            refine xv_iconst T dL_addsUp_410 ?_
            refine ly_bond T hK hP hS (fun _ h => h) (by omega) (by omega) (w := N (392 + b)) (rbo5 hb2) mw_2_139 ⟨Nat.le_of_ble_eq_true rfl, Nat.le_of_ble_eq_true rfl⟩ hl.1 (Nat.le_of_ble_eq_true rfl) ⟨Nat.zero_le _, Nat.zero_le _⟩ dL_addsUp_411 (fun H locs hP hS => ?_)
            refine lv_aload_n T.1 T.2.1 dL_addsUp_414 rfl (lv_at hl 4 rfl) ?_
            refine xv_bipush T dL_addsUp_415 (by omega) ?_
            refine ly_count T hK hP hS (fun _ h => h) (by omega) (w := N 1) rfl mw_3_50 ⟨Nat.le_of_ble_eq_true rfl, Nat.le_of_ble_eq_true rfl⟩ hl.1 (Nat.le_of_ble_eq_true rfl) ⟨Nat.zero_le _, Nat.zero_le _⟩ dL_addsUp_417 (fun H locs hP hS => ?_)
            refine xv_icmp_lt T (by omega) (tgt := 427) dL_addsUp_420 (by decide) (fun c48 => absurd c48 (by omega)) (fun _ => ?_)
            refine xv_iconst T dL_addsUp_423 ?_
            refine lv_goto T.1 T.2.1 (tgt := 428) dL_addsUp_424 (by decide) ?_
            refine lv_istore_n (lv' := [(3, .int (iI 1)), (8, .int (iI (N (392 + b)))), (7, .int (iI (rs + 1))), (5, .long (lI (hd + (N (272 + b) * N (332 + b))))), (10, .int (iI (N (272 + b)))), (0, .ref o), (1, .int (iI lk)), (2, .int (iI tn)), (4, .int (iI on)), (9, .int (iI b))]) T.1 T.2.1 dL_addsUp_428 rfl hl (by decide) rfl (fun ls hl => ?_)
            refine xv_iinc T (y := b + 1) (lv' := [(9, .int (iI (b + 1))), (3, .int (iI 1)), (8, .int (iI (N (392 + b)))), (7, .int (iI (rs + 1))), (5, .long (lI (hd + (N (272 + b) * N (332 + b))))), (10, .int (iI (N (272 + b)))), (0, .ref o), (1, .int (iI lk)), (2, .int (iI tn)), (4, .int (iI on))]) dL_addsUp_429 hl (q := 9) rfl (by omega) (by decide) rfl (fun ls hl => ?_)
            refine lv_goto T.1 T.2.1 (tgt := 278) dL_addsUp_432 (by decide) ?_
            exact ih278 lk tn on (hd + (N (272 + b) * N (332 + b))) (rs + 1) (N (392 + b)) (b + 1) _ _ ls (by omega) hlk htn hon (by rw [sumZ_step (by omega), ← hhd]) (by rw [sumZ_step (by omega), ← hrs]; first | rw [if_pos (by omega)] | rw [if_neg (by omega)]) (by first | exact fiI_no hfi (by omega) | exact fiI_yes hfi hb2.1 (by omega) (by omega) (by omega) | exact fiI_not hfi (by omega)) (by omega) hP hS (lv_sub hl [6, 7, 8, 1, 9, 4, 3, 2, 0] rfl)
set_option maxHeartbeats 4000000 in
set_option maxRecDepth 100000 in
theorem sg_L_addsUp_169 {p : Program} {l : Launch} {e : Env} {s : State} {m : MethodId} {args : Array Value} {below : List Frame} {meth : Method} {c : Code} {K : KT} {o : Nat} {N : Int → Int} {st : List (Int → Int)} (T : CF p m c cL_addsUp 15 s args RL) (hr : meth.sig.returnType = some .boolean) (hk : meth.locks = false) (hK : xK K s) (hX : InX N) : ∀ (fuel : Nat) (lk : Int) (tn : Int) (on : Int) (n : Int) (H : Heap) (locs : List Loc) (ls : Array Slot), (1 ≤ n ∧ n ≤ N 7 + 1) → (lk = cntF N 1) → (tn = cntF N 2) → (on = sumZ (fun k => if N (855 + k) = 0 then 1 else 0) (n - 1).toNat) → N 7 + 1 - n < (fuel : Int) → LwY K o N st H → va_S (Blk o 153) s.heap H locs → lv_has ls 15 [(0, .ref o), (1, .int (iI lk)), (2, .int (iI tn)), (3, .int (iI 1)), (4, .int (iI on)), (5, .int (iI n))] → W p l e (rmF 3 80) s m args below meth c H locs 0 0 (MQ below (qI K (fun z (u : YT) => (poS N st) z u.1 u.2.1 ∧ yOk u) (yW K o) (Blk o 153)) args s 0 0 (Blk o 153)) (F0 m 169 ls []) := by
  have hR := inY_R (inY hX.1)
  obtain ⟨b0, b1, b2, b3, b4, b5, b6, b7, b8, b9⟩ := inY_b (inY hX.1)
  have hc1 := cntF_in (N := N) 1 b4.1
  have hc2 := cntF_in (N := N) 2 b4.1
  have hlv := livF_in (N := N) b6.1
  have hem := em_in hX
  have hM := hX.2.2.1.1
  unfold EM at hM
  intro fuel
  induction fuel with
  | zero =>
    intro lk tn on n H locs ls hn hlk htn hon hm hP hS hl
    exact absurd hm (by omega)
  | succ fuel ih169 =>
    intro lk tn on n H locs ls hn hlk htn hon hm hP hS hl
    refine lv_iload T.1 T.2.1 dL_addsUp_169 (lv_at hl 5 rfl) ?_
    refine lv_aload_n T.1 T.2.1 dL_addsUp_171 rfl (lv_at hl 0 rfl) ?_
    refine xv_iconst T dL_addsUp_172 ?_
    refine ly_count T hK hP hS (fun _ h => h) (by omega) (w := N 7) rfl mw_3_50 ⟨Nat.le_of_ble_eq_true rfl, Nat.le_of_ble_eq_true rfl⟩ hl.1 (Nat.le_of_ble_eq_true rfl) ⟨Nat.zero_le _, Nat.zero_le _⟩ dL_addsUp_173 (fun H locs hP hS => ?_)
    refine xv_icmp_gt T (by omega) (tgt := 266) dL_addsUp_176 (by decide) (fun c1 => ?_) (fun c1 => ?_)
    · skip
      refine xv_lconst T (z := 0) dL_addsUp_266 rfl ?_
      refine lv_lstore (lv' := [(5, .long (lI 0)), (0, .ref o), (1, .int (iI lk)), (2, .int (iI tn)), (3, .int (iI 1)), (4, .int (iI on))]) T.1 T.2.1 dL_addsUp_267 hl (by decide) rfl (fun ls hl => ?_)
      refine xv_iconst T dL_addsUp_269 ?_
      refine lv_istore (lv' := [(7, .int (iI 0)), (5, .long (lI 0)), (0, .ref o), (1, .int (iI lk)), (2, .int (iI tn)), (3, .int (iI 1)), (4, .int (iI on))]) T.1 T.2.1 dL_addsUp_270 hl (by decide) rfl (fun ls hl => ?_)
      refine xv_iconst T dL_addsUp_272 ?_
      refine lv_istore (lv' := [(8, .int (iI (-1))), (7, .int (iI 0)), (5, .long (lI 0)), (0, .ref o), (1, .int (iI lk)), (2, .int (iI tn)), (3, .int (iI 1)), (4, .int (iI on))]) T.1 T.2.1 dL_addsUp_273 hl (by decide) rfl (fun ls hl => ?_)
      refine xv_iconst T dL_addsUp_275 ?_
      refine lv_istore (lv' := [(9, .int (iI 0)), (8, .int (iI (-1))), (7, .int (iI 0)), (5, .long (lI 0)), (0, .ref o), (1, .int (iI lk)), (2, .int (iI tn)), (3, .int (iI 1)), (4, .int (iI on))]) T.1 T.2.1 dL_addsUp_276 hl (by decide) rfl (fun ls hl => ?_)
      exact sg_L_addsUp_278 (st := st) T hr hk hK hX 62 lk tn on 0 0 (-1) 0 _ _ ls (by omega) hlk htn (by rw [hon, show n - 1 = N 7 by omega]; exact seals_on hX) rfl rfl fiI_0 (by omega) hP hS (lv_sub hl [4, 5, 6, 7, 8, 3, 2, 1, 0] rfl)
    · skip
      refine lv_iload_n T.1 T.2.1 dL_addsUp_179 rfl (lv_at hl 3 rfl) ?_
      refine xv_if_eq T (by omega) (tgt := 266) dL_addsUp_180 (by decide) (fun c2 => absurd c2 (by omega)) (fun _ => ?_)
      have hpu := hX.2.2.2.2.2.2 n (by omega) (by omega)
      have hfa := hX.2.2.2.2.2.1.2.2 n (by omega) (by omega)
      by_cases hs0 : N (854 + n) = 0
      · skip
        by_cases hn1 : n = 1
        · skip
          refine lv_iload T.1 T.2.1 dL_addsUp_183 (lv_at hl 4 rfl) ?_
          refine lv_aload_n T.1 T.2.1 dL_addsUp_185 rfl (lv_at hl 0 rfl) ?_
          refine lv_iload T.1 T.2.1 dL_addsUp_186 (lv_at hl 5 rfl) ?_
          refine xv_iconst T dL_addsUp_188 ?_
          refine ly_seal T hK hP hS (fun _ h => h) (by omega) (by omega) (w := N (854 + n)) (rse2 (by omega)) mw_2_135 ⟨Nat.le_of_ble_eq_true rfl, Nat.le_of_ble_eq_true rfl⟩ hl.1 (Nat.le_of_ble_eq_true rfl) ⟨Nat.zero_le _, Nat.zero_le _⟩ dL_addsUp_189 (fun H locs hP hS => ?_)
          refine xv_if_ne T (by omega) (tgt := 199) dL_addsUp_192 (by decide) (fun c3 => absurd c3 (by omega)) (fun _ => ?_)
          refine xv_iconst T dL_addsUp_195 ?_
          refine lv_goto T.1 T.2.1 (tgt := 200) dL_addsUp_196 (by decide) ?_
          refine xv_iadd T dL_addsUp_200 ?_
          refine lv_istore (lv' := [(4, .int (iI (on + 1))), (0, .ref o), (1, .int (iI lk)), (2, .int (iI tn)), (3, .int (iI 1)), (5, .int (iI n))]) T.1 T.2.1 dL_addsUp_201 hl (by decide) rfl (fun ls hl => ?_)
          refine lv_aload_n T.1 T.2.1 dL_addsUp_203 rfl (lv_at hl 1 rfl) ?_
          refine lv_iload T.1 T.2.1 dL_addsUp_204 (lv_at hl 5 rfl) ?_
          refine xv_iconst T dL_addsUp_206 ?_
          refine ly_seal T hK hP hS (fun _ h => h) (by omega) (by omega) (w := N (653 + n)) (rse1 (by omega)) mw_2_135 ⟨Nat.le_of_ble_eq_true rfl, Nat.le_of_ble_eq_true rfl⟩ hl.1 (Nat.le_of_ble_eq_true rfl) ⟨Nat.zero_le _, Nat.zero_le _⟩ dL_addsUp_207 (fun H locs hP hS => ?_)
          refine xv_if_lt T (by omega) (tgt := 258) dL_addsUp_210 (by decide) (fun c4 => absurd c4 (by omega)) (fun _ => ?_)
          refine lv_aload_n T.1 T.2.1 dL_addsUp_213 rfl (lv_at hl 1 rfl) ?_
          refine lv_iload T.1 T.2.1 dL_addsUp_214 (lv_at hl 5 rfl) ?_
          refine xv_iconst T dL_addsUp_216 ?_
          refine ly_seal T hK hP hS (fun _ h => h) (by omega) (by omega) (w := N (653 + n)) (rse1 (by omega)) mw_2_135 ⟨Nat.le_of_ble_eq_true rfl, Nat.le_of_ble_eq_true rfl⟩ hl.1 (Nat.le_of_ble_eq_true rfl) ⟨Nat.zero_le _, Nat.zero_le _⟩ dL_addsUp_217 (fun H locs hP hS => ?_)
          refine lv_aload_n T.1 T.2.1 dL_addsUp_220 rfl (lv_at hl 1 rfl) ?_
          refine xv_bipush T dL_addsUp_221 (by omega) ?_
          refine ly_count T hK hP hS (fun _ h => h) (by omega) (w := N 1) rfl mw_3_50 ⟨Nat.le_of_ble_eq_true rfl, Nat.le_of_ble_eq_true rfl⟩ hl.1 (Nat.le_of_ble_eq_true rfl) ⟨Nat.zero_le _, Nat.zero_le _⟩ dL_addsUp_223 (fun H locs hP hS => ?_)
          refine xv_icmp_gt T (by omega) (tgt := 258) dL_addsUp_226 (by decide) (fun c5 => absurd c5 (by omega)) (fun _ => ?_)
          refine lv_iload T.1 T.2.1 dL_addsUp_229 (lv_at hl 5 rfl) ?_
          refine xv_iconst T dL_addsUp_231 ?_
          refine xv_icmp_eq T (by omega) (tgt := 254) dL_addsUp_232 (by decide) (fun _ => ?_) (fun c6 => absurd c6 (by omega))
          refine xv_iconst T dL_addsUp_254 ?_
          refine lv_goto T.1 T.2.1 (tgt := 259) dL_addsUp_255 (by decide) ?_
          refine lv_istore_n (lv' := [(3, .int (iI 1)), (4, .int (iI (on + 1))), (0, .ref o), (1, .int (iI lk)), (2, .int (iI tn)), (5, .int (iI n))]) T.1 T.2.1 dL_addsUp_259 rfl hl (by decide) rfl (fun ls hl => ?_)
          refine xv_iinc T (y := n + 1) (lv' := [(5, .int (iI (n + 1))), (3, .int (iI 1)), (4, .int (iI (on + 1))), (0, .ref o), (1, .int (iI lk)), (2, .int (iI tn))]) dL_addsUp_260 hl (q := 5) rfl (by omega) (by decide) rfl (fun ls hl => ?_)
          refine lv_goto T.1 T.2.1 (tgt := 169) dL_addsUp_263 (by decide) ?_
          exact ih169 lk tn (on + 1) (n + 1) _ _ ls (by omega) hlk htn (by rw [show n + 1 - 1 = (n - 1) + 1 by omega, sumZ_step (by omega), ← hon, show 855 + (n - 1) = 854 + n by omega]; first | rw [if_pos (by omega)] | rw [if_neg (by omega)]) (by omega) hP hS (lv_sub hl [3, 4, 5, 1, 2, 0] rfl)
        · skip
          have hpv := hX.2.2.2.2.2.2 (n - 1) (by omega) (by omega)
          rw [show 653 + (n - 1) = 652 + n by omega] at hpv
          refine lv_iload T.1 T.2.1 dL_addsUp_183 (lv_at hl 4 rfl) ?_
          refine lv_aload_n T.1 T.2.1 dL_addsUp_185 rfl (lv_at hl 0 rfl) ?_
          refine lv_iload T.1 T.2.1 dL_addsUp_186 (lv_at hl 5 rfl) ?_
          refine xv_iconst T dL_addsUp_188 ?_
          refine ly_seal T hK hP hS (fun _ h => h) (by omega) (by omega) (w := N (854 + n)) (rse2 (by omega)) mw_2_135 ⟨Nat.le_of_ble_eq_true rfl, Nat.le_of_ble_eq_true rfl⟩ hl.1 (Nat.le_of_ble_eq_true rfl) ⟨Nat.zero_le _, Nat.zero_le _⟩ dL_addsUp_189 (fun H locs hP hS => ?_)
          refine xv_if_ne T (by omega) (tgt := 199) dL_addsUp_192 (by decide) (fun c7 => absurd c7 (by omega)) (fun _ => ?_)
          refine xv_iconst T dL_addsUp_195 ?_
          refine lv_goto T.1 T.2.1 (tgt := 200) dL_addsUp_196 (by decide) ?_
          refine xv_iadd T dL_addsUp_200 ?_
          refine lv_istore (lv' := [(4, .int (iI (on + 1))), (0, .ref o), (1, .int (iI lk)), (2, .int (iI tn)), (3, .int (iI 1)), (5, .int (iI n))]) T.1 T.2.1 dL_addsUp_201 hl (by decide) rfl (fun ls hl => ?_)
          refine lv_aload_n T.1 T.2.1 dL_addsUp_203 rfl (lv_at hl 1 rfl) ?_
          refine lv_iload T.1 T.2.1 dL_addsUp_204 (lv_at hl 5 rfl) ?_
          refine xv_iconst T dL_addsUp_206 ?_
          refine ly_seal T hK hP hS (fun _ h => h) (by omega) (by omega) (w := N (653 + n)) (rse1 (by omega)) mw_2_135 ⟨Nat.le_of_ble_eq_true rfl, Nat.le_of_ble_eq_true rfl⟩ hl.1 (Nat.le_of_ble_eq_true rfl) ⟨Nat.zero_le _, Nat.zero_le _⟩ dL_addsUp_207 (fun H locs hP hS => ?_)
          refine xv_if_lt T (by omega) (tgt := 258) dL_addsUp_210 (by decide) (fun c8 => absurd c8 (by omega)) (fun _ => ?_)
          refine lv_aload_n T.1 T.2.1 dL_addsUp_213 rfl (lv_at hl 1 rfl) ?_
          refine lv_iload T.1 T.2.1 dL_addsUp_214 (lv_at hl 5 rfl) ?_
          refine xv_iconst T dL_addsUp_216 ?_
          refine ly_seal T hK hP hS (fun _ h => h) (by omega) (by omega) (w := N (653 + n)) (rse1 (by omega)) mw_2_135 ⟨Nat.le_of_ble_eq_true rfl, Nat.le_of_ble_eq_true rfl⟩ hl.1 (Nat.le_of_ble_eq_true rfl) ⟨Nat.zero_le _, Nat.zero_le _⟩ dL_addsUp_217 (fun H locs hP hS => ?_)
          refine lv_aload_n T.1 T.2.1 dL_addsUp_220 rfl (lv_at hl 1 rfl) ?_
          refine xv_bipush T dL_addsUp_221 (by omega) ?_
          refine ly_count T hK hP hS (fun _ h => h) (by omega) (w := N 1) rfl mw_3_50 ⟨Nat.le_of_ble_eq_true rfl, Nat.le_of_ble_eq_true rfl⟩ hl.1 (Nat.le_of_ble_eq_true rfl) ⟨Nat.zero_le _, Nat.zero_le _⟩ dL_addsUp_223 (fun H locs hP hS => ?_)
          refine xv_icmp_gt T (by omega) (tgt := 258) dL_addsUp_226 (by decide) (fun c9 => absurd c9 (by omega)) (fun _ => ?_)
          refine lv_iload T.1 T.2.1 dL_addsUp_229 (lv_at hl 5 rfl) ?_
          refine xv_iconst T dL_addsUp_231 ?_
          refine xv_icmp_eq T (by omega) (tgt := 254) dL_addsUp_232 (by decide) (fun c10 => absurd c10 (by omega)) (fun _ => ?_)
          refine lv_aload_n T.1 T.2.1 dL_addsUp_235 rfl (lv_at hl 1 rfl) ?_
          refine lv_iload T.1 T.2.1 dL_addsUp_236 (lv_at hl 5 rfl) ?_
          refine xv_iconst T dL_addsUp_238 ?_
          refine ly_seal T hK hP hS (fun _ h => h) (by omega) (by omega) (w := N (653 + n)) (rse1 (by omega)) mw_2_135 ⟨Nat.le_of_ble_eq_true rfl, Nat.le_of_ble_eq_true rfl⟩ hl.1 (Nat.le_of_ble_eq_true rfl) ⟨Nat.zero_le _, Nat.zero_le _⟩ dL_addsUp_239 (fun H locs hP hS => ?_)
          refine lv_aload_n T.1 T.2.1 dL_addsUp_242 rfl (lv_at hl 1 rfl) ?_
          refine lv_iload T.1 T.2.1 dL_addsUp_243 (lv_at hl 5 rfl) ?_
          refine xv_iconst T dL_addsUp_245 ?_
          refine xv_isub T dL_addsUp_246 ?_
          refine xv_iconst T dL_addsUp_247 ?_
          refine ly_seal T hK hP hS (fun _ h => h) (by omega) (by omega) (w := N (652 + n)) ((rse1 (x := n - 1) (by omega)).trans (congrArg N (by omega))) mw_2_135 ⟨Nat.le_of_ble_eq_true rfl, Nat.le_of_ble_eq_true rfl⟩ hl.1 (Nat.le_of_ble_eq_true rfl) ⟨Nat.zero_le _, Nat.zero_le _⟩ dL_addsUp_248 (fun H locs hP hS => ?_)
          refine xv_icmp_lt T (by omega) (tgt := 258) dL_addsUp_251 (by decide) (fun c11 => absurd c11 (by omega)) (fun _ => ?_)
          refine xv_iconst T dL_addsUp_254 ?_
          refine lv_goto T.1 T.2.1 (tgt := 259) dL_addsUp_255 (by decide) ?_
          refine lv_istore_n (lv' := [(3, .int (iI 1)), (4, .int (iI (on + 1))), (0, .ref o), (1, .int (iI lk)), (2, .int (iI tn)), (5, .int (iI n))]) T.1 T.2.1 dL_addsUp_259 rfl hl (by decide) rfl (fun ls hl => ?_)
          refine xv_iinc T (y := n + 1) (lv' := [(5, .int (iI (n + 1))), (3, .int (iI 1)), (4, .int (iI (on + 1))), (0, .ref o), (1, .int (iI lk)), (2, .int (iI tn))]) dL_addsUp_260 hl (q := 5) rfl (by omega) (by decide) rfl (fun ls hl => ?_)
          refine lv_goto T.1 T.2.1 (tgt := 169) dL_addsUp_263 (by decide) ?_
          exact ih169 lk tn (on + 1) (n + 1) _ _ ls (by omega) hlk htn (by rw [show n + 1 - 1 = (n - 1) + 1 by omega, sumZ_step (by omega), ← hon, show 855 + (n - 1) = 854 + n by omega]; first | rw [if_pos (by omega)] | rw [if_neg (by omega)]) (by omega) hP hS (lv_sub hl [3, 4, 5, 1, 2, 0] rfl)
      · skip
        by_cases hn1 : n = 1
        · skip
          refine lv_iload T.1 T.2.1 dL_addsUp_183 (lv_at hl 4 rfl) ?_
          refine lv_aload_n T.1 T.2.1 dL_addsUp_185 rfl (lv_at hl 0 rfl) ?_
          refine lv_iload T.1 T.2.1 dL_addsUp_186 (lv_at hl 5 rfl) ?_
          refine xv_iconst T dL_addsUp_188 ?_
          refine ly_seal T hK hP hS (fun _ h => h) (by omega) (by omega) (w := N (854 + n)) (rse2 (by omega)) mw_2_135 ⟨Nat.le_of_ble_eq_true rfl, Nat.le_of_ble_eq_true rfl⟩ hl.1 (Nat.le_of_ble_eq_true rfl) ⟨Nat.zero_le _, Nat.zero_le _⟩ dL_addsUp_189 (fun H locs hP hS => ?_)
          refine xv_if_ne T (by omega) (tgt := 199) dL_addsUp_192 (by decide) (fun _ => ?_) (fun c12 => absurd c12 (by omega))
          refine xv_iconst T dL_addsUp_199 ?_
          refine xv_iadd T dL_addsUp_200 ?_
          refine lv_istore (lv' := [(4, .int (iI (on + 0))), (0, .ref o), (1, .int (iI lk)), (2, .int (iI tn)), (3, .int (iI 1)), (5, .int (iI n))]) T.1 T.2.1 dL_addsUp_201 hl (by decide) rfl (fun ls hl => ?_)
          refine lv_aload_n T.1 T.2.1 dL_addsUp_203 rfl (lv_at hl 1 rfl) ?_
          refine lv_iload T.1 T.2.1 dL_addsUp_204 (lv_at hl 5 rfl) ?_
          refine xv_iconst T dL_addsUp_206 ?_
          refine ly_seal T hK hP hS (fun _ h => h) (by omega) (by omega) (w := N (653 + n)) (rse1 (by omega)) mw_2_135 ⟨Nat.le_of_ble_eq_true rfl, Nat.le_of_ble_eq_true rfl⟩ hl.1 (Nat.le_of_ble_eq_true rfl) ⟨Nat.zero_le _, Nat.zero_le _⟩ dL_addsUp_207 (fun H locs hP hS => ?_)
          refine xv_if_lt T (by omega) (tgt := 258) dL_addsUp_210 (by decide) (fun c13 => absurd c13 (by omega)) (fun _ => ?_)
          refine lv_aload_n T.1 T.2.1 dL_addsUp_213 rfl (lv_at hl 1 rfl) ?_
          refine lv_iload T.1 T.2.1 dL_addsUp_214 (lv_at hl 5 rfl) ?_
          refine xv_iconst T dL_addsUp_216 ?_
          refine ly_seal T hK hP hS (fun _ h => h) (by omega) (by omega) (w := N (653 + n)) (rse1 (by omega)) mw_2_135 ⟨Nat.le_of_ble_eq_true rfl, Nat.le_of_ble_eq_true rfl⟩ hl.1 (Nat.le_of_ble_eq_true rfl) ⟨Nat.zero_le _, Nat.zero_le _⟩ dL_addsUp_217 (fun H locs hP hS => ?_)
          refine lv_aload_n T.1 T.2.1 dL_addsUp_220 rfl (lv_at hl 1 rfl) ?_
          refine xv_bipush T dL_addsUp_221 (by omega) ?_
          refine ly_count T hK hP hS (fun _ h => h) (by omega) (w := N 1) rfl mw_3_50 ⟨Nat.le_of_ble_eq_true rfl, Nat.le_of_ble_eq_true rfl⟩ hl.1 (Nat.le_of_ble_eq_true rfl) ⟨Nat.zero_le _, Nat.zero_le _⟩ dL_addsUp_223 (fun H locs hP hS => ?_)
          refine xv_icmp_gt T (by omega) (tgt := 258) dL_addsUp_226 (by decide) (fun c14 => absurd c14 (by omega)) (fun _ => ?_)
          refine lv_iload T.1 T.2.1 dL_addsUp_229 (lv_at hl 5 rfl) ?_
          refine xv_iconst T dL_addsUp_231 ?_
          refine xv_icmp_eq T (by omega) (tgt := 254) dL_addsUp_232 (by decide) (fun _ => ?_) (fun c15 => absurd c15 (by omega))
          refine xv_iconst T dL_addsUp_254 ?_
          refine lv_goto T.1 T.2.1 (tgt := 259) dL_addsUp_255 (by decide) ?_
          refine lv_istore_n (lv' := [(3, .int (iI 1)), (4, .int (iI (on + 0))), (0, .ref o), (1, .int (iI lk)), (2, .int (iI tn)), (5, .int (iI n))]) T.1 T.2.1 dL_addsUp_259 rfl hl (by decide) rfl (fun ls hl => ?_)
          refine xv_iinc T (y := n + 1) (lv' := [(5, .int (iI (n + 1))), (3, .int (iI 1)), (4, .int (iI (on + 0))), (0, .ref o), (1, .int (iI lk)), (2, .int (iI tn))]) dL_addsUp_260 hl (q := 5) rfl (by omega) (by decide) rfl (fun ls hl => ?_)
          refine lv_goto T.1 T.2.1 (tgt := 169) dL_addsUp_263 (by decide) ?_
          exact ih169 lk tn (on + 0) (n + 1) _ _ ls (by omega) hlk htn (by rw [show n + 1 - 1 = (n - 1) + 1 by omega, sumZ_step (by omega), ← hon, show 855 + (n - 1) = 854 + n by omega]; first | rw [if_pos (by omega)] | rw [if_neg (by omega)]) (by omega) hP hS (lv_sub hl [3, 4, 5, 1, 2, 0] rfl)
        · skip
          have hpv := hX.2.2.2.2.2.2 (n - 1) (by omega) (by omega)
          rw [show 653 + (n - 1) = 652 + n by omega] at hpv
          refine lv_iload T.1 T.2.1 dL_addsUp_183 (lv_at hl 4 rfl) ?_
          refine lv_aload_n T.1 T.2.1 dL_addsUp_185 rfl (lv_at hl 0 rfl) ?_
          refine lv_iload T.1 T.2.1 dL_addsUp_186 (lv_at hl 5 rfl) ?_
          refine xv_iconst T dL_addsUp_188 ?_
          refine ly_seal T hK hP hS (fun _ h => h) (by omega) (by omega) (w := N (854 + n)) (rse2 (by omega)) mw_2_135 ⟨Nat.le_of_ble_eq_true rfl, Nat.le_of_ble_eq_true rfl⟩ hl.1 (Nat.le_of_ble_eq_true rfl) ⟨Nat.zero_le _, Nat.zero_le _⟩ dL_addsUp_189 (fun H locs hP hS => ?_)
          refine xv_if_ne T (by omega) (tgt := 199) dL_addsUp_192 (by decide) (fun _ => ?_) (fun c16 => absurd c16 (by omega))
          refine xv_iconst T dL_addsUp_199 ?_
          refine xv_iadd T dL_addsUp_200 ?_
          refine lv_istore (lv' := [(4, .int (iI (on + 0))), (0, .ref o), (1, .int (iI lk)), (2, .int (iI tn)), (3, .int (iI 1)), (5, .int (iI n))]) T.1 T.2.1 dL_addsUp_201 hl (by decide) rfl (fun ls hl => ?_)
          refine lv_aload_n T.1 T.2.1 dL_addsUp_203 rfl (lv_at hl 1 rfl) ?_
          refine lv_iload T.1 T.2.1 dL_addsUp_204 (lv_at hl 5 rfl) ?_
          refine xv_iconst T dL_addsUp_206 ?_
          refine ly_seal T hK hP hS (fun _ h => h) (by omega) (by omega) (w := N (653 + n)) (rse1 (by omega)) mw_2_135 ⟨Nat.le_of_ble_eq_true rfl, Nat.le_of_ble_eq_true rfl⟩ hl.1 (Nat.le_of_ble_eq_true rfl) ⟨Nat.zero_le _, Nat.zero_le _⟩ dL_addsUp_207 (fun H locs hP hS => ?_)
          refine xv_if_lt T (by omega) (tgt := 258) dL_addsUp_210 (by decide) (fun c17 => absurd c17 (by omega)) (fun _ => ?_)
          refine lv_aload_n T.1 T.2.1 dL_addsUp_213 rfl (lv_at hl 1 rfl) ?_
          refine lv_iload T.1 T.2.1 dL_addsUp_214 (lv_at hl 5 rfl) ?_
          refine xv_iconst T dL_addsUp_216 ?_
          refine ly_seal T hK hP hS (fun _ h => h) (by omega) (by omega) (w := N (653 + n)) (rse1 (by omega)) mw_2_135 ⟨Nat.le_of_ble_eq_true rfl, Nat.le_of_ble_eq_true rfl⟩ hl.1 (Nat.le_of_ble_eq_true rfl) ⟨Nat.zero_le _, Nat.zero_le _⟩ dL_addsUp_217 (fun H locs hP hS => ?_)
          refine lv_aload_n T.1 T.2.1 dL_addsUp_220 rfl (lv_at hl 1 rfl) ?_
          refine xv_bipush T dL_addsUp_221 (by omega) ?_
          refine ly_count T hK hP hS (fun _ h => h) (by omega) (w := N 1) rfl mw_3_50 ⟨Nat.le_of_ble_eq_true rfl, Nat.le_of_ble_eq_true rfl⟩ hl.1 (Nat.le_of_ble_eq_true rfl) ⟨Nat.zero_le _, Nat.zero_le _⟩ dL_addsUp_223 (fun H locs hP hS => ?_)
          refine xv_icmp_gt T (by omega) (tgt := 258) dL_addsUp_226 (by decide) (fun c18 => absurd c18 (by omega)) (fun _ => ?_)
          refine lv_iload T.1 T.2.1 dL_addsUp_229 (lv_at hl 5 rfl) ?_
          refine xv_iconst T dL_addsUp_231 ?_
          refine xv_icmp_eq T (by omega) (tgt := 254) dL_addsUp_232 (by decide) (fun c19 => absurd c19 (by omega)) (fun _ => ?_)
          refine lv_aload_n T.1 T.2.1 dL_addsUp_235 rfl (lv_at hl 1 rfl) ?_
          refine lv_iload T.1 T.2.1 dL_addsUp_236 (lv_at hl 5 rfl) ?_
          refine xv_iconst T dL_addsUp_238 ?_
          refine ly_seal T hK hP hS (fun _ h => h) (by omega) (by omega) (w := N (653 + n)) (rse1 (by omega)) mw_2_135 ⟨Nat.le_of_ble_eq_true rfl, Nat.le_of_ble_eq_true rfl⟩ hl.1 (Nat.le_of_ble_eq_true rfl) ⟨Nat.zero_le _, Nat.zero_le _⟩ dL_addsUp_239 (fun H locs hP hS => ?_)
          refine lv_aload_n T.1 T.2.1 dL_addsUp_242 rfl (lv_at hl 1 rfl) ?_
          refine lv_iload T.1 T.2.1 dL_addsUp_243 (lv_at hl 5 rfl) ?_
          refine xv_iconst T dL_addsUp_245 ?_
          refine xv_isub T dL_addsUp_246 ?_
          refine xv_iconst T dL_addsUp_247 ?_
          refine ly_seal T hK hP hS (fun _ h => h) (by omega) (by omega) (w := N (652 + n)) ((rse1 (x := n - 1) (by omega)).trans (congrArg N (by omega))) mw_2_135 ⟨Nat.le_of_ble_eq_true rfl, Nat.le_of_ble_eq_true rfl⟩ hl.1 (Nat.le_of_ble_eq_true rfl) ⟨Nat.zero_le _, Nat.zero_le _⟩ dL_addsUp_248 (fun H locs hP hS => ?_)
          refine xv_icmp_lt T (by omega) (tgt := 258) dL_addsUp_251 (by decide) (fun c20 => absurd c20 (by omega)) (fun _ => ?_)
          refine xv_iconst T dL_addsUp_254 ?_
          refine lv_goto T.1 T.2.1 (tgt := 259) dL_addsUp_255 (by decide) ?_
          refine lv_istore_n (lv' := [(3, .int (iI 1)), (4, .int (iI (on + 0))), (0, .ref o), (1, .int (iI lk)), (2, .int (iI tn)), (5, .int (iI n))]) T.1 T.2.1 dL_addsUp_259 rfl hl (by decide) rfl (fun ls hl => ?_)
          refine xv_iinc T (y := n + 1) (lv' := [(5, .int (iI (n + 1))), (3, .int (iI 1)), (4, .int (iI (on + 0))), (0, .ref o), (1, .int (iI lk)), (2, .int (iI tn))]) dL_addsUp_260 hl (q := 5) rfl (by omega) (by decide) rfl (fun ls hl => ?_)
          refine lv_goto T.1 T.2.1 (tgt := 169) dL_addsUp_263 (by decide) ?_
          exact ih169 lk tn (on + 0) (n + 1) _ _ ls (by omega) hlk htn (by rw [show n + 1 - 1 = (n - 1) + 1 by omega, sumZ_step (by omega), ← hon, show 855 + (n - 1) = 854 + n by omega]; first | rw [if_pos (by omega)] | rw [if_neg (by omega)]) (by omega) hP hS (lv_sub hl [3, 4, 5, 1, 2, 0] rfl)
set_option maxHeartbeats 4000000 in
set_option maxRecDepth 100000 in
theorem sg_L_addsUp_9 {p : Program} {l : Launch} {e : Env} {s : State} {m : MethodId} {args : Array Value} {below : List Frame} {meth : Method} {c : Code} {K : KT} {o : Nat} {N : Int → Int} {st : List (Int → Int)} (T : CF p m c cL_addsUp 15 s args RL) (hr : meth.sig.returnType = some .boolean) (hk : meth.locks = false) (hK : xK K s) (hX : InX N) : ∀ (fuel : Nat) (lk : Int) (tn : Int) (i : Int) (H : Heap) (locs : List Loc) (ls : Array Slot), (0 ≤ i ∧ i ≤ N 4) → (lk = sumZ (fun k => if N (14 + k) = 1 then 1 else 0) i.toNat) → (tn = sumZ (fun k => if N (14 + k) = 2 then 1 else 0) i.toNat) → N 4 - i < (fuel : Int) → LwY K o N st H → va_S (Blk o 153) s.heap H locs → lv_has ls 15 [(0, .ref o), (1, .int (iI lk)), (2, .int (iI tn)), (3, .int (iI 1)), (4, .int (iI i))] → W p l e (rmF 3 80) s m args below meth c H locs 0 0 (MQ below (qI K (fun z (u : YT) => (poS N st) z u.1 u.2.1 ∧ yOk u) (yW K o) (Blk o 153)) args s 0 0 (Blk o 153)) (F0 m 9 ls []) := by
  have hR := inY_R (inY hX.1)
  obtain ⟨b0, b1, b2, b3, b4, b5, b6, b7, b8, b9⟩ := inY_b (inY hX.1)
  have hc1 := cntF_in (N := N) 1 b4.1
  have hc2 := cntF_in (N := N) 2 b4.1
  have hlv := livF_in (N := N) b6.1
  have hem := em_in hX
  have hM := hX.2.2.1.1
  unfold EM at hM
  intro fuel
  induction fuel with
  | zero =>
    intro lk tn i H locs ls hi hlk htn hm hP hS hl
    exact absurd hm (by omega)
  | succ fuel ih9 =>
    intro lk tn i H locs ls hi hlk htn hm hP hS hl
    refine lv_iload T.1 T.2.1 dL_addsUp_9 (lv_at hl 4 rfl) ?_
    refine lv_aload_n T.1 T.2.1 dL_addsUp_11 rfl (lv_at hl 0 rfl) ?_
    refine xv_iconst T dL_addsUp_12 ?_
    refine ly_count T hK hP hS (fun _ h => h) (by omega) (w := N 4) rfl mw_3_50 ⟨Nat.le_of_ble_eq_true rfl, Nat.le_of_ble_eq_true rfl⟩ hl.1 (Nat.le_of_ble_eq_true rfl) ⟨Nat.zero_le _, Nat.zero_le _⟩ dL_addsUp_13 (fun H locs hP hS => ?_)
    refine xv_icmp_ge T (by omega) (tgt := 163) dL_addsUp_16 (by decide) (fun c1 => ?_) (fun c1 => ?_)
    · skip
      refine xv_iconst T dL_addsUp_163 ?_
      refine lv_istore (lv' := [(4, .int (iI 0)), (0, .ref o), (1, .int (iI lk)), (2, .int (iI tn)), (3, .int (iI 1))]) T.1 T.2.1 dL_addsUp_164 hl (by decide) rfl (fun ls hl => ?_)
      refine xv_iconst T dL_addsUp_166 ?_
      refine lv_istore (lv' := [(5, .int (iI 1)), (4, .int (iI 0)), (0, .ref o), (1, .int (iI lk)), (2, .int (iI tn)), (3, .int (iI 1))]) T.1 T.2.1 dL_addsUp_167 hl (by decide) rfl (fun ls hl => ?_)
      exact sg_L_addsUp_169 (st := st) T hr hk hK hX 202 lk tn 0 1 _ _ ls (by omega) (by rw [hlk, show i = N 4 by omega]; rfl) (by rw [htn, show i = N 4 by omega]; rfl) rfl (by omega) hP hS (lv_sub hl [2, 3, 4, 5, 1, 0] rfl)
    · skip
      refine lv_iload_n T.1 T.2.1 dL_addsUp_19 rfl (lv_at hl 3 rfl) ?_
      refine xv_if_eq T (by omega) (tgt := 163) dL_addsUp_20 (by decide) (fun c2 => absurd c2 (by omega)) (fun _ => ?_)
      have hi2 : 0 ≤ i ∧ i < N 4 := by omega
      have hL := hX.1.2.1 i (by omega) (by omega)
      by_cases h0 : N 0 = 0
      · skip
        have hw := inZ hX.1 h0 i hi2.1 hi2.2
        refine lv_aload_n T.1 T.2.1 dL_addsUp_23 rfl (lv_at hl 0 rfl) ?_
        refine lv_iload T.1 T.2.1 dL_addsUp_24 (lv_at hl 4 rfl) ?_
        refine xv_bipush T dL_addsUp_26 (by omega) ?_
        refine ly_lockerOf T hK hP hS (fun _ h => h) (by omega) (by omega) (w := N (14 + i)) (rl8 hi2) mw_2_123 ⟨Nat.le_of_ble_eq_true rfl, Nat.le_of_ble_eq_true rfl⟩ hl.1 (Nat.le_of_ble_eq_true rfl) ⟨Nat.zero_le _, Nat.zero_le _⟩ dL_addsUp_28 (fun H locs hP hS => ?_)
        refine lv_istore (lv' := [(5, .int (iI (N (14 + i)))), (0, .ref o), (1, .int (iI lk)), (2, .int (iI tn)), (3, .int (iI 1)), (4, .int (iI i))]) T.1 T.2.1 dL_addsUp_31 hl (by decide) rfl (fun ls hl => ?_)
        refine lv_aload_n T.1 T.2.1 dL_addsUp_33 rfl (lv_at hl 1 rfl) ?_
        refine lv_iload T.1 T.2.1 dL_addsUp_34 (lv_at hl 5 rfl) ?_
        refine xv_bipush T dL_addsUp_36 (by omega) ?_
        refine ly_lockerOf T hK hP hS (fun _ h => h) (by omega) (by omega) (w := (-4)) (rl9b hi2 (by omega)) mw_2_123 ⟨Nat.le_of_ble_eq_true rfl, Nat.le_of_ble_eq_true rfl⟩ hl.1 (Nat.le_of_ble_eq_true rfl) ⟨Nat.zero_le _, Nat.zero_le _⟩ dL_addsUp_38 (fun H locs hP hS => ?_)
        refine lv_istore (lv' := [(6, .int (iI (-4))), (5, .int (iI (N (14 + i)))), (0, .ref o), (1, .int (iI lk)), (2, .int (iI tn)), (3, .int (iI 1)), (4, .int (iI i))]) T.1 T.2.1 dL_addsUp_41 hl (by decide) rfl (fun ls hl => ?_)
        refine lv_iload_n T.1 T.2.1 dL_addsUp_43 rfl (lv_at hl 3 rfl) ?_
        refine lv_iload T.1 T.2.1 dL_addsUp_44 (lv_at hl 1 rfl) ?_
        refine xv_iconst T dL_addsUp_46 ?_
        refine xv_icmp_ne T (by omega) (tgt := 54) dL_addsUp_47 (by decide) (fun _ => ?_) (fun c3 => absurd c3 (by omega))
        refine xv_iconst T dL_addsUp_54 ?_
        refine xv_iadd T dL_addsUp_55 ?_
        refine lv_istore_n (lv' := [(1, .int (iI (lk + 0))), (6, .int (iI (-4))), (5, .int (iI (N (14 + i)))), (0, .ref o), (2, .int (iI tn)), (3, .int (iI 1)), (4, .int (iI i))]) T.1 T.2.1 dL_addsUp_56 rfl hl (by decide) rfl (fun ls hl => ?_)
        refine lv_iload_n T.1 T.2.1 dL_addsUp_57 rfl (lv_at hl 4 rfl) ?_
        refine lv_iload T.1 T.2.1 dL_addsUp_58 (lv_at hl 2 rfl) ?_
        refine xv_iconst T dL_addsUp_60 ?_
        refine xv_icmp_ne T (by omega) (tgt := 68) dL_addsUp_61 (by decide) (fun _ => ?_) (fun c4 => absurd c4 (by omega))
        refine xv_iconst T dL_addsUp_68 ?_
        refine xv_iadd T dL_addsUp_69 ?_
        refine lv_istore_n (lv' := [(2, .int (iI (tn + 0))), (1, .int (iI (lk + 0))), (6, .int (iI (-4))), (5, .int (iI (N (14 + i)))), (0, .ref o), (3, .int (iI 1)), (4, .int (iI i))]) T.1 T.2.1 dL_addsUp_70 rfl hl (by decide) rfl (fun ls hl => ?_)
        refine lv_iload T.1 T.2.1 dL_addsUp_71 (lv_at hl 3 rfl) ?_
        refine xv_if_ne T (by omega) (tgt := 80) dL_addsUp_73 (by decide) (fun c5 => absurd c5 (by omega)) (fun _ => ?_)
        refine xv_iconst T dL_addsUp_76 ?_
        refine lv_goto T.1 T.2.1 (tgt := 81) dL_addsUp_77 (by decide) ?_
        refine lv_aload_n T.1 T.2.1 dL_addsUp_81 rfl (lv_at hl 4 rfl) ?_
        refine xv_iconst T dL_addsUp_82 ?_
        refine ly_count T hK hP hS (fun _ h => h) (by omega) (w := N 0) rfl mw_3_50 ⟨Nat.le_of_ble_eq_true rfl, Nat.le_of_ble_eq_true rfl⟩ hl.1 (Nat.le_of_ble_eq_true rfl) ⟨Nat.zero_le _, Nat.zero_le _⟩ dL_addsUp_83 (fun H locs hP hS => ?_)
        refine xv_if_ne T (by omega) (tgt := 93) dL_addsUp_86 (by decide) (fun c6 => absurd c6 (by omega)) (fun _ => ?_)
        refine xv_iconst T dL_addsUp_89 ?_
        refine lv_goto T.1 T.2.1 (tgt := 94) dL_addsUp_90 (by decide) ?_
        refine xv_icmp_ne T (by omega) (tgt := 155) dL_addsUp_94 (by decide) (fun c7 => absurd c7 (by omega)) (fun _ => ?_)
        refine lv_iload T.1 T.2.1 dL_addsUp_97 (lv_at hl 2 rfl) ?_
        refine xv_bipush T dL_addsUp_99 (by omega) ?_
        refine xv_icmp_ne T (by omega) (tgt := 108) dL_addsUp_101 (by decide) (fun c8 => absurd c8 (by omega)) (fun _ => ?_)
        refine xv_iconst T dL_addsUp_104 ?_
        refine lv_goto T.1 T.2.1 (tgt := 109) dL_addsUp_105 (by decide) ?_
        refine lv_iload T.1 T.2.1 dL_addsUp_109 (lv_at hl 3 rfl) ?_
        refine xv_iconst T dL_addsUp_111 ?_
        refine xv_icmp_eq T (by omega) (tgt := 119) dL_addsUp_112 (by decide) (fun c9 => absurd c9 (by omega)) (fun _ => ?_)
        refine xv_iconst T dL_addsUp_115 ?_
        refine lv_goto T.1 T.2.1 (tgt := 120) dL_addsUp_116 (by decide) ?_
        refine xv_icmp_ne T (by omega) (tgt := 155) dL_addsUp_120 (by decide) (fun c10 => absurd c10 (by omega)) (fun _ => ?_)
        refine lv_iload T.1 T.2.1 dL_addsUp_123 (lv_at hl 3 rfl) ?_
        refine xv_iconst T dL_addsUp_125 ?_
        refine xv_icmp_ne T (by omega) (tgt := 151) dL_addsUp_126 (by decide) (fun _ => ?_) (fun c11 => absurd c11 (by omega))
        refine xv_iconst T dL_addsUp_151 ?_
        refine lv_goto T.1 T.2.1 (tgt := 156) dL_addsUp_152 (by decide) ?_
        refine lv_istore_n (lv' := [(3, .int (iI 1)), (2, .int (iI (tn + 0))), (1, .int (iI (lk + 0))), (6, .int (iI (-4))), (5, .int (iI (N (14 + i)))), (0, .ref o), (4, .int (iI i))]) T.1 T.2.1 dL_addsUp_156 rfl hl (by decide) rfl (fun ls hl => ?_)
        refine xv_iinc T (y := i + 1) (lv' := [(4, .int (iI (i + 1))), (3, .int (iI 1)), (2, .int (iI (tn + 0))), (1, .int (iI (lk + 0))), (6, .int (iI (-4))), (5, .int (iI (N (14 + i)))), (0, .ref o)]) dL_addsUp_157 hl (q := 6) rfl (by omega) (by decide) rfl (fun ls hl => ?_)
        refine lv_goto T.1 T.2.1 (tgt := 9) dL_addsUp_160 (by decide) ?_
        exact ih9 (lk + 0) (tn + 0) (i + 1) _ _ ls (by omega) (by rw [sumZ_step (by omega), ← hlk]; first | rw [if_pos (by omega)] | rw [if_neg (by omega)]) (by rw [sumZ_step (by omega), ← htn]; first | rw [if_pos (by omega)] | rw [if_neg (by omega)]) (by omega) hP hS (lv_sub hl [6, 3, 2, 1, 0] rfl)
      · skip
        have hw0 := hX.2.2.2.2.1 h0 i hi2.1 hi2.2
        by_cases hw : N (14 + i) = 1
        · skip
          have hes := hX.2.2.2.2.2.1.1 i hi2.1 hi2.2 hw
          refine lv_aload_n T.1 T.2.1 dL_addsUp_23 rfl (lv_at hl 0 rfl) ?_
          refine lv_iload T.1 T.2.1 dL_addsUp_24 (lv_at hl 4 rfl) ?_
          refine xv_bipush T dL_addsUp_26 (by omega) ?_
          refine ly_lockerOf T hK hP hS (fun _ h => h) (by omega) (by omega) (w := N (14 + i)) (rl8 hi2) mw_2_123 ⟨Nat.le_of_ble_eq_true rfl, Nat.le_of_ble_eq_true rfl⟩ hl.1 (Nat.le_of_ble_eq_true rfl) ⟨Nat.zero_le _, Nat.zero_le _⟩ dL_addsUp_28 (fun H locs hP hS => ?_)
          refine lv_istore (lv' := [(5, .int (iI (N (14 + i)))), (0, .ref o), (1, .int (iI lk)), (2, .int (iI tn)), (3, .int (iI 1)), (4, .int (iI i))]) T.1 T.2.1 dL_addsUp_31 hl (by decide) rfl (fun ls hl => ?_)
          refine lv_aload_n T.1 T.2.1 dL_addsUp_33 rfl (lv_at hl 1 rfl) ?_
          refine lv_iload T.1 T.2.1 dL_addsUp_34 (lv_at hl 5 rfl) ?_
          refine xv_bipush T dL_addsUp_36 (by omega) ?_
          refine ly_lockerOf T hK hP hS (fun _ h => h) (by omega) (by omega) (w := N (19 + i)) (rl9a hi2 hw) mw_2_123 ⟨Nat.le_of_ble_eq_true rfl, Nat.le_of_ble_eq_true rfl⟩ hl.1 (Nat.le_of_ble_eq_true rfl) ⟨Nat.zero_le _, Nat.zero_le _⟩ dL_addsUp_38 (fun H locs hP hS => ?_)
          refine lv_istore (lv' := [(6, .int (iI (N (19 + i)))), (5, .int (iI (N (14 + i)))), (0, .ref o), (1, .int (iI lk)), (2, .int (iI tn)), (3, .int (iI 1)), (4, .int (iI i))]) T.1 T.2.1 dL_addsUp_41 hl (by decide) rfl (fun ls hl => ?_)
          refine lv_iload_n T.1 T.2.1 dL_addsUp_43 rfl (lv_at hl 3 rfl) ?_
          refine lv_iload T.1 T.2.1 dL_addsUp_44 (lv_at hl 1 rfl) ?_
          refine xv_iconst T dL_addsUp_46 ?_
          refine xv_icmp_ne T (by omega) (tgt := 54) dL_addsUp_47 (by decide) (fun c12 => absurd c12 (by omega)) (fun _ => ?_)
          refine xv_iconst T dL_addsUp_50 ?_
          refine lv_goto T.1 T.2.1 (tgt := 55) dL_addsUp_51 (by decide) ?_
          refine xv_iadd T dL_addsUp_55 ?_
          refine lv_istore_n (lv' := [(1, .int (iI (lk + 1))), (6, .int (iI (N (19 + i)))), (5, .int (iI (N (14 + i)))), (0, .ref o), (2, .int (iI tn)), (3, .int (iI 1)), (4, .int (iI i))]) T.1 T.2.1 dL_addsUp_56 rfl hl (by decide) rfl (fun ls hl => ?_)
          refine lv_iload_n T.1 T.2.1 dL_addsUp_57 rfl (lv_at hl 4 rfl) ?_
          refine lv_iload T.1 T.2.1 dL_addsUp_58 (lv_at hl 2 rfl) ?_
          refine xv_iconst T dL_addsUp_60 ?_
          refine xv_icmp_ne T (by omega) (tgt := 68) dL_addsUp_61 (by decide) (fun _ => ?_) (fun c13 => absurd c13 (by omega))
          refine xv_iconst T dL_addsUp_68 ?_
          refine xv_iadd T dL_addsUp_69 ?_
          refine lv_istore_n (lv' := [(2, .int (iI (tn + 0))), (1, .int (iI (lk + 1))), (6, .int (iI (N (19 + i)))), (5, .int (iI (N (14 + i)))), (0, .ref o), (3, .int (iI 1)), (4, .int (iI i))]) T.1 T.2.1 dL_addsUp_70 rfl hl (by decide) rfl (fun ls hl => ?_)
          refine lv_iload T.1 T.2.1 dL_addsUp_71 (lv_at hl 3 rfl) ?_
          refine xv_if_ne T (by omega) (tgt := 80) dL_addsUp_73 (by decide) (fun _ => ?_) (fun c14 => absurd c14 (by omega))
          refine xv_iconst T dL_addsUp_80 ?_
          refine lv_aload_n T.1 T.2.1 dL_addsUp_81 rfl (lv_at hl 4 rfl) ?_
          refine xv_iconst T dL_addsUp_82 ?_
          refine ly_count T hK hP hS (fun _ h => h) (by omega) (w := N 0) rfl mw_3_50 ⟨Nat.le_of_ble_eq_true rfl, Nat.le_of_ble_eq_true rfl⟩ hl.1 (Nat.le_of_ble_eq_true rfl) ⟨Nat.zero_le _, Nat.zero_le _⟩ dL_addsUp_83 (fun H locs hP hS => ?_)
          refine xv_if_ne T (by omega) (tgt := 93) dL_addsUp_86 (by decide) (fun _ => ?_) (fun c15 => absurd c15 (by omega))
          refine xv_iconst T dL_addsUp_93 ?_
          refine xv_icmp_ne T (by omega) (tgt := 155) dL_addsUp_94 (by decide) (fun c16 => absurd c16 (by omega)) (fun _ => ?_)
          refine lv_iload T.1 T.2.1 dL_addsUp_97 (lv_at hl 2 rfl) ?_
          refine xv_bipush T dL_addsUp_99 (by omega) ?_
          refine xv_icmp_ne T (by omega) (tgt := 108) dL_addsUp_101 (by decide) (fun _ => ?_) (fun c17 => absurd c17 (by omega))
          refine xv_iconst T dL_addsUp_108 ?_
          refine lv_iload T.1 T.2.1 dL_addsUp_109 (lv_at hl 3 rfl) ?_
          refine xv_iconst T dL_addsUp_111 ?_
          refine xv_icmp_eq T (by omega) (tgt := 119) dL_addsUp_112 (by decide) (fun _ => ?_) (fun c18 => absurd c18 (by omega))
          refine xv_iconst T dL_addsUp_119 ?_
          refine xv_icmp_ne T (by omega) (tgt := 155) dL_addsUp_120 (by decide) (fun c19 => absurd c19 (by omega)) (fun _ => ?_)
          refine lv_iload T.1 T.2.1 dL_addsUp_123 (lv_at hl 3 rfl) ?_
          refine xv_iconst T dL_addsUp_125 ?_
          refine xv_icmp_ne T (by omega) (tgt := 151) dL_addsUp_126 (by decide) (fun c20 => absurd c20 (by omega)) (fun _ => ?_)
          refine lv_aload_n T.1 T.2.1 dL_addsUp_129 rfl (lv_at hl 4 rfl) ?_
          refine lv_iload T.1 T.2.1 dL_addsUp_130 (lv_at hl 2 rfl) ?_
          refine xv_iconst T dL_addsUp_132 ?_
          refine ly_seal T hK hP hS (fun _ h => h) (by omega) (by omega) (w := N (452 + N (19 + i))) (rse0 ⟨hL.2.2 hw, hL.2.1.2⟩) mw_2_135 ⟨Nat.le_of_ble_eq_true rfl, Nat.le_of_ble_eq_true rfl⟩ hl.1 (Nat.le_of_ble_eq_true rfl) ⟨Nat.zero_le _, Nat.zero_le _⟩ dL_addsUp_133 (fun H locs hP hS => ?_)
          refine lv_iload T.1 T.2.1 dL_addsUp_136 (lv_at hl 6 rfl) ?_
          refine xv_icmp_ne T (by omega) (tgt := 155) dL_addsUp_138 (by decide) (fun c21 => absurd c21 (by omega)) (fun _ => ?_)
          refine lv_aload_n T.1 T.2.1 dL_addsUp_141 rfl (lv_at hl 4 rfl) ?_
          refine lv_iload T.1 T.2.1 dL_addsUp_142 (lv_at hl 2 rfl) ?_
          refine xv_iconst T dL_addsUp_144 ?_
          refine ly_seal T hK hP hS (fun _ h => h) (by omega) (by omega) (w := N (854 + N (19 + i))) (rse2 ⟨hL.2.2 hw, hL.2.1.2⟩) mw_2_135 ⟨Nat.le_of_ble_eq_true rfl, Nat.le_of_ble_eq_true rfl⟩ hl.1 (Nat.le_of_ble_eq_true rfl) ⟨Nat.zero_le _, Nat.zero_le _⟩ dL_addsUp_145 (fun H locs hP hS => ?_)
          refine xv_if_ne T (by omega) (tgt := 155) dL_addsUp_148 (by decide) (fun c22 => absurd c22 (by omega)) (fun _ => ?_)
          refine xv_iconst T dL_addsUp_151 ?_
          refine lv_goto T.1 T.2.1 (tgt := 156) dL_addsUp_152 (by decide) ?_
          refine lv_istore_n (lv' := [(3, .int (iI 1)), (2, .int (iI (tn + 0))), (1, .int (iI (lk + 1))), (6, .int (iI (N (19 + i)))), (5, .int (iI (N (14 + i)))), (0, .ref o), (4, .int (iI i))]) T.1 T.2.1 dL_addsUp_156 rfl hl (by decide) rfl (fun ls hl => ?_)
          refine xv_iinc T (y := i + 1) (lv' := [(4, .int (iI (i + 1))), (3, .int (iI 1)), (2, .int (iI (tn + 0))), (1, .int (iI (lk + 1))), (6, .int (iI (N (19 + i)))), (5, .int (iI (N (14 + i)))), (0, .ref o)]) dL_addsUp_157 hl (q := 6) rfl (by omega) (by decide) rfl (fun ls hl => ?_)
          refine lv_goto T.1 T.2.1 (tgt := 9) dL_addsUp_160 (by decide) ?_
          exact ih9 (lk + 1) (tn + 0) (i + 1) _ _ ls (by omega) (by rw [sumZ_step (by omega), ← hlk]; first | rw [if_pos (by omega)] | rw [if_neg (by omega)]) (by rw [sumZ_step (by omega), ← htn]; first | rw [if_pos (by omega)] | rw [if_neg (by omega)]) (by omega) hP hS (lv_sub hl [6, 3, 2, 1, 0] rfl)
        · skip
          refine lv_aload_n T.1 T.2.1 dL_addsUp_23 rfl (lv_at hl 0 rfl) ?_
          refine lv_iload T.1 T.2.1 dL_addsUp_24 (lv_at hl 4 rfl) ?_
          refine xv_bipush T dL_addsUp_26 (by omega) ?_
          refine ly_lockerOf T hK hP hS (fun _ h => h) (by omega) (by omega) (w := N (14 + i)) (rl8 hi2) mw_2_123 ⟨Nat.le_of_ble_eq_true rfl, Nat.le_of_ble_eq_true rfl⟩ hl.1 (Nat.le_of_ble_eq_true rfl) ⟨Nat.zero_le _, Nat.zero_le _⟩ dL_addsUp_28 (fun H locs hP hS => ?_)
          refine lv_istore (lv' := [(5, .int (iI (N (14 + i)))), (0, .ref o), (1, .int (iI lk)), (2, .int (iI tn)), (3, .int (iI 1)), (4, .int (iI i))]) T.1 T.2.1 dL_addsUp_31 hl (by decide) rfl (fun ls hl => ?_)
          refine lv_aload_n T.1 T.2.1 dL_addsUp_33 rfl (lv_at hl 1 rfl) ?_
          refine lv_iload T.1 T.2.1 dL_addsUp_34 (lv_at hl 5 rfl) ?_
          refine xv_bipush T dL_addsUp_36 (by omega) ?_
          refine ly_lockerOf T hK hP hS (fun _ h => h) (by omega) (by omega) (w := (-4)) (rl9b hi2 (by omega)) mw_2_123 ⟨Nat.le_of_ble_eq_true rfl, Nat.le_of_ble_eq_true rfl⟩ hl.1 (Nat.le_of_ble_eq_true rfl) ⟨Nat.zero_le _, Nat.zero_le _⟩ dL_addsUp_38 (fun H locs hP hS => ?_)
          refine lv_istore (lv' := [(6, .int (iI (-4))), (5, .int (iI (N (14 + i)))), (0, .ref o), (1, .int (iI lk)), (2, .int (iI tn)), (3, .int (iI 1)), (4, .int (iI i))]) T.1 T.2.1 dL_addsUp_41 hl (by decide) rfl (fun ls hl => ?_)
          refine lv_iload_n T.1 T.2.1 dL_addsUp_43 rfl (lv_at hl 3 rfl) ?_
          refine lv_iload T.1 T.2.1 dL_addsUp_44 (lv_at hl 1 rfl) ?_
          refine xv_iconst T dL_addsUp_46 ?_
          refine xv_icmp_ne T (by omega) (tgt := 54) dL_addsUp_47 (by decide) (fun _ => ?_) (fun c23 => absurd c23 (by omega))
          refine xv_iconst T dL_addsUp_54 ?_
          refine xv_iadd T dL_addsUp_55 ?_
          refine lv_istore_n (lv' := [(1, .int (iI (lk + 0))), (6, .int (iI (-4))), (5, .int (iI (N (14 + i)))), (0, .ref o), (2, .int (iI tn)), (3, .int (iI 1)), (4, .int (iI i))]) T.1 T.2.1 dL_addsUp_56 rfl hl (by decide) rfl (fun ls hl => ?_)
          refine lv_iload_n T.1 T.2.1 dL_addsUp_57 rfl (lv_at hl 4 rfl) ?_
          refine lv_iload T.1 T.2.1 dL_addsUp_58 (lv_at hl 2 rfl) ?_
          refine xv_iconst T dL_addsUp_60 ?_
          refine xv_icmp_ne T (by omega) (tgt := 68) dL_addsUp_61 (by decide) (fun c24 => absurd c24 (by omega)) (fun _ => ?_)
          refine xv_iconst T dL_addsUp_64 ?_
          refine lv_goto T.1 T.2.1 (tgt := 69) dL_addsUp_65 (by decide) ?_
          refine xv_iadd T dL_addsUp_69 ?_
          refine lv_istore_n (lv' := [(2, .int (iI (tn + 1))), (1, .int (iI (lk + 0))), (6, .int (iI (-4))), (5, .int (iI (N (14 + i)))), (0, .ref o), (3, .int (iI 1)), (4, .int (iI i))]) T.1 T.2.1 dL_addsUp_70 rfl hl (by decide) rfl (fun ls hl => ?_)
          refine lv_iload T.1 T.2.1 dL_addsUp_71 (lv_at hl 3 rfl) ?_
          refine xv_if_ne T (by omega) (tgt := 80) dL_addsUp_73 (by decide) (fun _ => ?_) (fun c25 => absurd c25 (by omega))
          refine xv_iconst T dL_addsUp_80 ?_
          refine lv_aload_n T.1 T.2.1 dL_addsUp_81 rfl (lv_at hl 4 rfl) ?_
          refine xv_iconst T dL_addsUp_82 ?_
          refine ly_count T hK hP hS (fun _ h => h) (by omega) (w := N 0) rfl mw_3_50 ⟨Nat.le_of_ble_eq_true rfl, Nat.le_of_ble_eq_true rfl⟩ hl.1 (Nat.le_of_ble_eq_true rfl) ⟨Nat.zero_le _, Nat.zero_le _⟩ dL_addsUp_83 (fun H locs hP hS => ?_)
          refine xv_if_ne T (by omega) (tgt := 93) dL_addsUp_86 (by decide) (fun _ => ?_) (fun c26 => absurd c26 (by omega))
          refine xv_iconst T dL_addsUp_93 ?_
          refine xv_icmp_ne T (by omega) (tgt := 155) dL_addsUp_94 (by decide) (fun c27 => absurd c27 (by omega)) (fun _ => ?_)
          refine lv_iload T.1 T.2.1 dL_addsUp_97 (lv_at hl 2 rfl) ?_
          refine xv_bipush T dL_addsUp_99 (by omega) ?_
          refine xv_icmp_ne T (by omega) (tgt := 108) dL_addsUp_101 (by decide) (fun c28 => absurd c28 (by omega)) (fun _ => ?_)
          refine xv_iconst T dL_addsUp_104 ?_
          refine lv_goto T.1 T.2.1 (tgt := 109) dL_addsUp_105 (by decide) ?_
          refine lv_iload T.1 T.2.1 dL_addsUp_109 (lv_at hl 3 rfl) ?_
          refine xv_iconst T dL_addsUp_111 ?_
          refine xv_icmp_eq T (by omega) (tgt := 119) dL_addsUp_112 (by decide) (fun c29 => absurd c29 (by omega)) (fun _ => ?_)
          refine xv_iconst T dL_addsUp_115 ?_
          refine lv_goto T.1 T.2.1 (tgt := 120) dL_addsUp_116 (by decide) ?_
          refine xv_icmp_ne T (by omega) (tgt := 155) dL_addsUp_120 (by decide) (fun c30 => absurd c30 (by omega)) (fun _ => ?_)
          refine lv_iload T.1 T.2.1 dL_addsUp_123 (lv_at hl 3 rfl) ?_
          refine xv_iconst T dL_addsUp_125 ?_
          refine xv_icmp_ne T (by omega) (tgt := 151) dL_addsUp_126 (by decide) (fun _ => ?_) (fun c31 => absurd c31 (by omega))
          refine xv_iconst T dL_addsUp_151 ?_
          refine lv_goto T.1 T.2.1 (tgt := 156) dL_addsUp_152 (by decide) ?_
          refine lv_istore_n (lv' := [(3, .int (iI 1)), (2, .int (iI (tn + 1))), (1, .int (iI (lk + 0))), (6, .int (iI (-4))), (5, .int (iI (N (14 + i)))), (0, .ref o), (4, .int (iI i))]) T.1 T.2.1 dL_addsUp_156 rfl hl (by decide) rfl (fun ls hl => ?_)
          refine xv_iinc T (y := i + 1) (lv' := [(4, .int (iI (i + 1))), (3, .int (iI 1)), (2, .int (iI (tn + 1))), (1, .int (iI (lk + 0))), (6, .int (iI (-4))), (5, .int (iI (N (14 + i)))), (0, .ref o)]) dL_addsUp_157 hl (q := 6) rfl (by omega) (by decide) rfl (fun ls hl => ?_)
          refine lv_goto T.1 T.2.1 (tgt := 9) dL_addsUp_160 (by decide) ?_
          exact ih9 (lk + 0) (tn + 1) (i + 1) _ _ ls (by omega) (by rw [sumZ_step (by omega), ← hlk]; first | rw [if_pos (by omega)] | rw [if_neg (by omega)]) (by rw [sumZ_step (by omega), ← htn]; first | rw [if_pos (by omega)] | rw [if_neg (by omega)]) (by omega) hP hS (lv_sub hl [6, 3, 2, 1, 0] rfl)
set_option maxHeartbeats 4000000 in
set_option maxRecDepth 100000 in
theorem c_L_addsUp (l : Launch) (K : KT) (o : Nat) (N : Int → Int) (st : List (Int → Int)) : CyI l yL_addsUp cL_addsUp 15 .boolean 3 80 K o N st (poS N st) := by
  refine CyI_of (by decide) (Nat.le_of_ble_eq_true rfl) ?_
  intro p e s m args below meth c T hr hk hP hK ls hl
  have T : CF p m c cL_addsUp 15 s args RL := T
  have hS : va_S (Blk o 153) s.heap s.heap [] := va_S.rf
  have hX := lwY_X hP
  have hR := inY_R (inY hX.1)
  obtain ⟨b0, b1, b2, b3, b4, b5, b6, b7, b8, b9⟩ := inY_b (inY hX.1)
  have hc1 := cntF_in (N := N) 1 b4.1
  have hc2 := cntF_in (N := N) 2 b4.1
  have hlv := livF_in (N := N) b6.1
  have hem := em_in hX
  have hM := hX.2.2.1.1
  unfold EM at hM
  refine xv_iconst T dL_addsUp_0 ?_
  refine lv_istore_n (lv' := [(1, .int (iI 0)), (0, .ref o)]) T.1 T.2.1 dL_addsUp_1 rfl hl (by decide) rfl (fun ls hl => ?_)
  refine xv_iconst T dL_addsUp_2 ?_
  refine lv_istore_n (lv' := [(2, .int (iI 0)), (1, .int (iI 0)), (0, .ref o)]) T.1 T.2.1 dL_addsUp_3 rfl hl (by decide) rfl (fun ls hl => ?_)
  refine xv_iconst T dL_addsUp_4 ?_
  refine lv_istore_n (lv' := [(3, .int (iI 1)), (2, .int (iI 0)), (1, .int (iI 0)), (0, .ref o)]) T.1 T.2.1 dL_addsUp_5 rfl hl (by decide) rfl (fun ls hl => ?_)
  refine xv_iconst T dL_addsUp_6 ?_
  refine lv_istore (lv' := [(4, .int (iI 0)), (3, .int (iI 1)), (2, .int (iI 0)), (1, .int (iI 0)), (0, .ref o)]) T.1 T.2.1 dL_addsUp_7 hl (by decide) rfl (fun ls hl => ?_)
  exact sg_L_addsUp_9 (st := st) T hr hk hK hX 7 0 0 0 _ _ ls (by omega) rfl rfl (by omega) hP hS (lv_sub hl [4, 3, 2, 1, 0] rfl)
