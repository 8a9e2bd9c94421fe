set_option maxHeartbeats 40000000 in
set_option maxRecDepth 100000 in
theorem law_c14 {p : Program} {l : Launch} {e : Env} {s : State} {m : MethodId} {below : List Frame} {meth : Method} {c : Code} {b : Nat} {D : va_G} {cI cJ cZ : ClassId} {adx adc adm : Nat → Nat} {qo : Nat} {L : Nat} {xs : Nat → Int32} {sa sb : Nat} (hC : LCx p l s m meth c b D cI cJ cZ L xs sa sb) {K i : Nat} (hK9 : K ≤ 511) (hi : i + 7 ≤ L) (next : LI p l e s m below meth c b D cI cJ cZ adx adc adm qo 862 (K + 1) (nI i)) : LI p l e s m below meth c b D cI cJ cZ adx adc adm qo 664 K (nI i) := by
  obtain ⟨hx, hb, hr, hml, hown, hts, hX, hbl, hlocks, hK, hTw, hU, hN, hst, hL⟩ := hC
  intro adn adt gx gc gn gt m0 m1 m2 m3 m4 m5 m6 m7 m8 m9 m10 m11 m12 m13 m14 m15 m16 m17 m18 m19 m20 m21 m22 m23 m24 m25 m26 m27 u H locs ls hRR hP hD hS hl
  have hA : ∀ q : Nat, s.heap.size ≤ q → (fun q : Nat => s.heap.size ≤ q) q := fun _ h => h
  have hbA : ¬ (fun q : Nat => s.heap.size ≤ q) b := Nat.not_le.mpr hbl
  have hc1 : 100 + 2 * K ≤ 1200 := by omega
  have hc2 : 20000 + 12 * K ≤ 30000 := by omega
  have hc3 : 100 + 2 * K + 1 ≤ 1300 := by omega
  have hc4 : 20000 + 12 * K + 6 ≤ 30100 := by omega
  have hc5 : 100 + 2 * K + 2 ≤ 1400 := by omega
  have hc6 : 20000 + 12 * K + 12 ≤ 30200 := by omega
  obtain ⟨o, o', h1, h2, h3, hR⟩ := R_part hRR m24 m25 (xs (nI i + nI 1).toNatClampNeg) (xs (nI i + nI 2).toNatClampNeg) (xs (nI i + nI 3).toNatClampNeg) (xs (nI i + nI 4).toNatClampNeg)
  refine lv_aload_n hx hb dL_law_664 rfl (lv_at hl 1 rfl) ?_
  refine lv_aload_n hx hb dL_law_665 rfl (lv_at hl 0 rfl) ?_
  refine lv_iload hx hb dL_law_666 (lv_at hl 4 rfl) ?_
  refine lv_iconst (v := nI 1) hx hb dL_law_668 (by decide) ?_
  refine lv_iadd hx hb dL_law_669 ?_
  refine va_sld hx hb hX hbl hbA hS (li_in (j := 1) hi hL (by omega)) dL_law_670 ?_
  refine lv_aload_n hx hb dL_law_671 rfl (lv_at hl 0 rfl) ?_
  refine lv_iload hx hb dL_law_672 (lv_at hl 4 rfl) ?_
  refine lv_iconst (v := nI 2) hx hb dL_law_674 (by decide) ?_
  refine lv_iadd hx hb dL_law_675 ?_
  refine va_sld hx hb hX hbl hbA hS (li_in (j := 2) hi hL (by omega)) dL_law_676 ?_
  refine lv_aload_n hx hb dL_law_677 rfl (lv_at hl 0 rfl) ?_
  refine lv_iload hx hb dL_law_678 (lv_at hl 4 rfl) ?_
  refine lv_iconst (v := nI 3) hx hb dL_law_680 (by decide) ?_
  refine lv_iadd hx hb dL_law_681 ?_
  refine va_sld hx hb hX hbl hbA hS (li_in (j := 3) hi hL (by omega)) dL_law_682 ?_
  refine lv_aload_n hx hb dL_law_683 rfl (lv_at hl 0 rfl) ?_
  refine lv_iload hx hb dL_law_684 (lv_at hl 4 rfl) ?_
  refine lv_iconst (v := nI 4) hx hb dL_law_686 (by decide) ?_
  refine lv_iadd hx hb dL_law_687 ?_
  refine va_sld hx hb hX hbl hbA hS (li_in (j := 4) hi hL (by omega)) dL_law_688 ?_
  refine xIp (va_runV (As := [.int (xs (nI i + nI 1).toNatClampNeg), .int (xs (nI i + nI 2).toNatClampNeg), .int (xs (nI i + nI 3).toNatClampNeg), .int (xs (nI i + nI 4).toNatClampNeg)]) (rest := []) ⟨hx, hb, hml, hown, hts⟩ (c_X2_part l D cI cJ cZ adx adc adn adt gx gc gn gt (xs (nI i + nI 1).toNatClampNeg) (xs (nI i + nI 2).toNatClampNeg) (xs (nI i + nI 3).toNatClampNeg) (xs (nI i + nI 4).toNatClampNeg) o h1 _) (cwV 4 hts gL_law_X2_part rfl rfl rfl (by decide +kernel) ⟨Nat.le_of_ble_eq_true rfl, Nat.le_of_ble_eq_true rfl⟩) ⟨PreW.blind, xRecv (q0 := 0) hK hP rfl rfl, xPrep hK hP hD _⟩ rfl rfl hl.1 rfl (lv_room (Nat.le_of_ble_eq_true rfl)) dL_law_689 ⟨Nat.le_trans (Nat.add_le_add_right hc1 _) (Nat.le_of_ble_eq_true rfl), Nat.le_trans (Nat.add_le_add_right hc2 _) (Nat.le_of_ble_eq_true rfl)⟩) hP hD hS hA (fun H locs hP hD hS => ?_)
  refine W.widen (k := 100 + 2 * K + 1) (n := 20000 + 12 * K + 6) (Nat.add_le_add_left (Nat.le_of_ble_eq_true rfl) _) (Nat.add_le_add_left (Nat.le_of_ble_eq_true rfl) _) ?_
  replace hP := P_perm perm_r hP
  replace hD := D_perm perm_r hD
  refine lv_aload_n hx hb dL_law_692 rfl (lv_at hl 2 rfl) ?_
  refine lv_aload_n hx hb dL_law_693 rfl (lv_at hl 0 rfl) ?_
  refine lv_iload hx hb dL_law_694 (lv_at hl 4 rfl) ?_
  refine lv_iconst (v := nI 1) hx hb dL_law_696 (by decide) ?_
  refine lv_iadd hx hb dL_law_697 ?_
  refine va_sld hx hb hX hbl hbA hS (li_in (j := 1) hi hL (by omega)) dL_law_698 ?_
  refine lv_aload_n hx hb dL_law_699 rfl (lv_at hl 0 rfl) ?_
  refine lv_iload hx hb dL_law_700 (lv_at hl 4 rfl) ?_
  refine lv_iconst (v := nI 2) hx hb dL_law_702 (by decide) ?_
  refine lv_iadd hx hb dL_law_703 ?_
  refine va_sld hx hb hX hbl hbA hS (li_in (j := 2) hi hL (by omega)) dL_law_704 ?_
  refine lv_aload_n hx hb dL_law_705 rfl (lv_at hl 0 rfl) ?_
  refine lv_iload hx hb dL_law_706 (lv_at hl 4 rfl) ?_
  refine lv_iconst (v := nI 3) hx hb dL_law_708 (by decide) ?_
  refine lv_iadd hx hb dL_law_709 ?_
  refine va_sld hx hb hX hbl hbA hS (li_in (j := 3) hi hL (by omega)) dL_law_710 ?_
  refine lv_aload_n hx hb dL_law_711 rfl (lv_at hl 0 rfl) ?_
  refine lv_iload hx hb dL_law_712 (lv_at hl 4 rfl) ?_
  refine lv_iconst (v := nI 4) hx hb dL_law_714 (by decide) ?_
  refine lv_iadd hx hb dL_law_715 ?_
  refine va_sld hx hb hX hbl hbA hS (li_in (j := 4) hi hL (by omega)) dL_law_716 ?_
  refine xIp (va_runV (As := [.int (xs (nI i + nI 1).toNatClampNeg), .int (xs (nI i + nI 2).toNatClampNeg), .int (xs (nI i + nI 3).toNatClampNeg), .int (xs (nI i + nI 4).toNatClampNeg)]) (rest := [.int (o.1)]) ⟨hx, hb, hml, hown, hts⟩ (c_X3_part l D cI cJ cZ adm m0 m1 m2 m3 m4 m5 m6 m7 m8 m9 m10 m11 m12 m13 m14 m15 m16 m17 m18 m19 m20 m21 m22 m23 m24 m25 m26 m27 (xs (nI i + nI 1).toNatClampNeg) (xs (nI i + nI 2).toNatClampNeg) (xs (nI i + nI 3).toNatClampNeg) (xs (nI i + nI 4).toNatClampNeg) o' h2 _) (cwV 4 hts gL_law_X3_part rfl rfl rfl (by decide +kernel) ⟨Nat.le_of_ble_eq_true rfl, Nat.le_of_ble_eq_true rfl⟩) ⟨PreW.blind, xRecv (q0 := 0) hK hP rfl rfl, xPrep hK hP hD _⟩ rfl rfl hl.1 rfl (lv_room (Nat.le_of_ble_eq_true rfl)) dL_law_717 ⟨Nat.le_trans (Nat.add_le_add_right hc3 _) (Nat.le_of_ble_eq_true rfl), Nat.le_trans (Nat.add_le_add_right hc4 _) (Nat.le_of_ble_eq_true rfl)⟩) hP hD hS hA (fun H locs hP hD hS => ?_)
  refine W.widen (k := 100 + 2 * (K + 1)) (n := 20000 + 12 * (K + 1)) (Nat.le_trans (Nat.add_le_add_left (show rmX3_part.cells ≤ 1 from Nat.le_of_ble_eq_true rfl) _) (by omega)) (Nat.le_trans (Nat.add_le_add_left (show rmX3_part.slots ≤ 6 from Nat.le_of_ble_eq_true rfl) _) (by omega)) ?_
  replace hP := P_perm perm_b hP
  replace hD := D_perm perm_b hD
  refine lv_icmp_eq (tgt := 862) hx hb dL_law_720 (by decide) (fun q => ?_) (fun q => absurd h3 q)
  exact next _ _ _ _ _ _ _ _ _ _ _ _ _ _ _ _ _ _ _ _ _ _ _ _ _ _ _ _ _ _ _ _ _ _ _ _ _ _ hR hP hD hS hl
set_option maxHeartbeats 40000000 in
set_option maxRecDepth 100000 in
theorem law_c15 {p : Program} {l : Launch} {e : Env} {s : State} {m : MethodId} {below : List Frame} {meth : Method} {c : Code} {b : Nat} {D : va_G} {cI cJ cZ : ClassId} {adx adc adm : Nat → Nat} {qo : Nat} {L : Nat} {xs : Nat → Int32} {sa sb : Nat} (hC : LCx p l s m meth c b D cI cJ cZ L xs sa sb) {K i : Nat} (hK9 : K ≤ 511) (hi : i + 7 ≤ L) (next : LI p l e s m below meth c b D cI cJ cZ adx adc adm qo 862 (K + 1) (nI i)) : LI p l e s m below meth c b D cI cJ cZ adx adc adm qo 725 K (nI i) := by
  obtain ⟨hx, hb, hr, hml, hown, hts, hX, hbl, hlocks, hK, hTw, hU, hN, hst, hL⟩ := hC
  intro adn adt gx gc gn gt m0 m1 m2 m3 m4 m5 m6 m7 m8 m9 m10 m11 m12 m13 m14 m15 m16 m17 m18 m19 m20 m21 m22 m23 m24 m25 m26 m27 u H locs ls hRR hP hD hS hl
  have hA : ∀ q : Nat, s.heap.size ≤ q → (fun q : Nat => s.heap.size ≤ q) q := fun _ h => h
  have hbA : ¬ (fun q : Nat => s.heap.size ≤ q) b := Nat.not_le.mpr hbl
  have hc1 : 100 + 2 * K ≤ 1200 := by omega
  have hc2 : 20000 + 12 * K ≤ 30000 := by omega
  have hc3 : 100 + 2 * K + 1 ≤ 1300 := by omega
  have hc4 : 20000 + 12 * K + 6 ≤ 30100 := by omega
  have hc5 : 100 + 2 * K + 2 ≤ 1400 := by omega
  have hc6 : 20000 + 12 * K + 12 ≤ 30200 := by omega
  obtain ⟨o, o', h1, h2, h3, hR⟩ := R_measure hRR m24 m25 (xs (nI i + nI 1).toNatClampNeg) (xs (nI i + nI 2).toNatClampNeg)
  refine lv_aload_n hx hb dL_law_725 rfl (lv_at hl 1 rfl) ?_
  refine lv_aload_n hx hb dL_law_726 rfl (lv_at hl 0 rfl) ?_
  refine lv_iload hx hb dL_law_727 (lv_at hl 4 rfl) ?_
  refine lv_iconst (v := nI 1) hx hb dL_law_729 (by decide) ?_
  refine lv_iadd hx hb dL_law_730 ?_
  refine va_sld hx hb hX hbl hbA hS (li_in (j := 1) hi hL (by omega)) dL_law_731 ?_
  refine lv_aload_n hx hb dL_law_732 rfl (lv_at hl 0 rfl) ?_
  refine lv_iload hx hb dL_law_733 (lv_at hl 4 rfl) ?_
  refine lv_iconst (v := nI 2) hx hb dL_law_735 (by decide) ?_
  refine lv_iadd hx hb dL_law_736 ?_
  refine va_sld hx hb hX hbl hbA hS (li_in (j := 2) hi hL (by omega)) dL_law_737 ?_
  refine xIp (va_runV (As := [.int (xs (nI i + nI 1).toNatClampNeg), .int (xs (nI i + nI 2).toNatClampNeg)]) (rest := []) ⟨hx, hb, hml, hown, hts⟩ (c_X2_measure l D cI cJ cZ adx adc adn adt gx gc gn gt (xs (nI i + nI 1).toNatClampNeg) (xs (nI i + nI 2).toNatClampNeg) o h1 _) (cwV 2 hts gL_law_X2_measure rfl rfl rfl (by decide +kernel) ⟨Nat.le_of_ble_eq_true rfl, Nat.le_of_ble_eq_true rfl⟩) ⟨PreW.blind, xRecv (q0 := 0) hK hP rfl rfl, xPrep hK hP hD _⟩ rfl rfl hl.1 rfl (lv_room (Nat.le_of_ble_eq_true rfl)) dL_law_738 ⟨Nat.le_trans (Nat.add_le_add_right hc1 _) (Nat.le_of_ble_eq_true rfl), Nat.le_trans (Nat.add_le_add_right hc2 _) (Nat.le_of_ble_eq_true rfl)⟩) hP hD hS hA (fun H locs hP hD hS => ?_)
  refine W.widen (k := 100 + 2 * K + 1) (n := 20000 + 12 * K + 6) (Nat.add_le_add_left (Nat.le_of_ble_eq_true rfl) _) (Nat.add_le_add_left (Nat.le_of_ble_eq_true rfl) _) ?_
  replace hP := P_perm perm_r hP
  replace hD := D_perm perm_r hD
  refine lv_aload_n hx hb dL_law_741 rfl (lv_at hl 2 rfl) ?_
  refine lv_aload_n hx hb dL_law_742 rfl (lv_at hl 0 rfl) ?_
  refine lv_iload hx hb dL_law_743 (lv_at hl 4 rfl) ?_
  refine lv_iconst (v := nI 1) hx hb dL_law_745 (by decide) ?_
  refine lv_iadd hx hb dL_law_746 ?_
  refine va_sld hx hb hX hbl hbA hS (li_in (j := 1) hi hL (by omega)) dL_law_747 ?_
  refine lv_aload_n hx hb dL_law_748 rfl (lv_at hl 0 rfl) ?_
  refine lv_iload hx hb dL_law_749 (lv_at hl 4 rfl) ?_
  refine lv_iconst (v := nI 2) hx hb dL_law_751 (by decide) ?_
  refine lv_iadd hx hb dL_law_752 ?_
  refine va_sld hx hb hX hbl hbA hS (li_in (j := 2) hi hL (by omega)) dL_law_753 ?_
  refine xIp (va_runV (As := [.int (xs (nI i + nI 1).toNatClampNeg), .int (xs (nI i + nI 2).toNatClampNeg)]) (rest := [.int (o.1)]) ⟨hx, hb, hml, hown, hts⟩ (c_X3_measure l D cI cJ cZ adm m0 m1 m2 m3 m4 m5 m6 m7 m8 m9 m10 m11 m12 m13 m14 m15 m16 m17 m18 m19 m20 m21 m22 m23 m24 m25 m26 m27 (xs (nI i + nI 1).toNatClampNeg) (xs (nI i + nI 2).toNatClampNeg) o' h2 _) (cwV 2 hts gL_law_X3_measure rfl rfl rfl (by decide +kernel) ⟨Nat.le_of_ble_eq_true rfl, Nat.le_of_ble_eq_true rfl⟩) ⟨PreW.blind, xRecv (q0 := 0) hK hP rfl rfl, xPrep hK hP hD _⟩ rfl rfl hl.1 rfl (lv_room (Nat.le_of_ble_eq_true rfl)) dL_law_754 ⟨Nat.le_trans (Nat.add_le_add_right hc3 _) (Nat.le_of_ble_eq_true rfl), Nat.le_trans (Nat.add_le_add_right hc4 _) (Nat.le_of_ble_eq_true rfl)⟩) hP hD hS hA (fun H locs hP hD hS => ?_)
  refine W.widen (k := 100 + 2 * (K + 1)) (n := 20000 + 12 * (K + 1)) (Nat.le_trans (Nat.add_le_add_left (show rmX3_measure.cells ≤ 1 from Nat.le_of_ble_eq_true rfl) _) (by omega)) (Nat.le_trans (Nat.add_le_add_left (show rmX3_measure.slots ≤ 6 from Nat.le_of_ble_eq_true rfl) _) (by omega)) ?_
  replace hP := P_perm perm_b hP
  replace hD := D_perm perm_b hD
  refine lv_icmp_eq (tgt := 862) hx hb dL_law_757 (by decide) (fun q => ?_) (fun q => absurd h3 q)
  exact next _ _ _ _ _ _ _ _ _ _ _ _ _ _ _ _ _ _ _ _ _ _ _ _ _ _ _ _ _ _ _ _ _ _ _ _ _ _ hR hP hD hS hl
set_option maxHeartbeats 40000000 in
set_option maxRecDepth 100000 in
theorem law_c16 {p : Program} {l : Launch} {e : Env} {s : State} {m : MethodId} {below : List Frame} {meth : Method} {c : Code} {b : Nat} {D : va_G} {cI cJ cZ : ClassId} {adx adc adm : Nat → Nat} {qo : Nat} {L : Nat} {xs : Nat → Int32} {sa sb : Nat} (hC : LCx p l s m meth c b D cI cJ cZ L xs sa sb) {K i : Nat} (hK9 : K ≤ 511) (hi : i + 7 ≤ L) (next : LI p l e s m below meth c b D cI cJ cZ adx adc adm qo 862 (K + 1) (nI i)) : LI p l e s m below meth c b D cI cJ cZ adx adc adm qo 762 K (nI i) := by
  obtain ⟨hx, hb, hr, hml, hown, hts, hX, hbl, hlocks, hK, hTw, hU, hN, hst, hL⟩ := hC
  intro adn adt gx gc gn gt m0 m1 m2 m3 m4 m5 m6 m7 m8 m9 m10 m11 m12 m13 m14 m15 m16 m17 m18 m19 m20 m21 m22 m23 m24 m25 m26 m27 u H locs ls hRR hP hD hS hl
  have hA : ∀ q : Nat, s.heap.size ≤ q → (fun q : Nat => s.heap.size ≤ q) q := fun _ h => h
  have hbA : ¬ (fun q : Nat => s.heap.size ≤ q) b := Nat.not_le.mpr hbl
  have hc1 : 100 + 2 * K ≤ 1200 := by omega
  have hc2 : 20000 + 12 * K ≤ 30000 := by omega
  have hc3 : 100 + 2 * K + 1 ≤ 1300 := by omega
  have hc4 : 20000 + 12 * K + 6 ≤ 30100 := by omega
  have hc5 : 100 + 2 * K + 2 ≤ 1400 := by omega
  have hc6 : 20000 + 12 * K + 12 ≤ 30200 := by omega
  obtain ⟨o, o', h1, h2, h3, hR⟩ := R_forget hRR
  refine lv_aload_n hx hb dL_law_762 rfl (lv_at hl 1 rfl) ?_
  refine xIp (va_runV (As := []) (rest := []) ⟨hx, hb, hml, hown, hts⟩ (c_X2_forget l D cI cJ cZ adx adc adn adt gx gc gn gt  o h1 _) (cwV 0 hts gL_law_X2_forget rfl rfl rfl (by decide +kernel) ⟨Nat.le_of_ble_eq_true rfl, Nat.le_of_ble_eq_true rfl⟩) ⟨PreW.blind, xRecv (q0 := 0) hK hP rfl rfl, xPrep hK hP hD _⟩ rfl rfl hl.1 rfl (lv_room (Nat.le_of_ble_eq_true rfl)) dL_law_763 ⟨Nat.le_trans (Nat.add_le_add_right hc1 _) (Nat.le_of_ble_eq_true rfl), Nat.le_trans (Nat.add_le_add_right hc2 _) (Nat.le_of_ble_eq_true rfl)⟩) hP hD hS hA (fun H locs hP hD hS => ?_)
  refine W.widen (k := 100 + 2 * K + 1) (n := 20000 + 12 * K + 6) (Nat.add_le_add_left (Nat.le_of_ble_eq_true rfl) _) (Nat.add_le_add_left (Nat.le_of_ble_eq_true rfl) _) ?_
  replace hP := P_perm perm_r hP
  replace hD := D_perm perm_r hD
  refine lv_aload_n hx hb dL_law_766 rfl (lv_at hl 2 rfl) ?_
  refine xIp (va_runV (As := []) (rest := [.int (o.1)]) ⟨hx, hb, hml, hown, hts⟩ (c_X3_forget l D cI cJ cZ adm m0 m1 m2 m3 m4 m5 m6 m7 m8 m9 m10 m11 m12 m13 m14 m15 m16 m17 m18 m19 m20 m21 m22 m23 m24 m25 m26 m27  o' h2 _) (cwV 0 hts gL_law_X3_forget rfl rfl rfl (by decide +kernel) ⟨Nat.le_of_ble_eq_true rfl, Nat.le_of_ble_eq_true rfl⟩) ⟨PreW.blind, xRecv (q0 := 0) hK hP rfl rfl, xPrep hK hP hD _⟩ rfl rfl hl.1 rfl (lv_room (Nat.le_of_ble_eq_true rfl)) dL_law_767 ⟨Nat.le_trans (Nat.add_le_add_right hc3 _) (Nat.le_of_ble_eq_true rfl), Nat.le_trans (Nat.add_le_add_right hc4 _) (Nat.le_of_ble_eq_true rfl)⟩) hP hD hS hA (fun H locs hP hD hS => ?_)
  refine W.widen (k := 100 + 2 * (K + 1)) (n := 20000 + 12 * (K + 1)) (Nat.le_trans (Nat.add_le_add_left (show rmX3_forget.cells ≤ 1 from Nat.le_of_ble_eq_true rfl) _) (by omega)) (Nat.le_trans (Nat.add_le_add_left (show rmX3_forget.slots ≤ 6 from Nat.le_of_ble_eq_true rfl) _) (by omega)) ?_
  replace hP := P_perm perm_b hP
  replace hD := D_perm perm_b hD
  refine lv_icmp_eq (tgt := 862) hx hb dL_law_770 (by decide) (fun q => ?_) (fun q => absurd h3 q)
  exact next _ _ _ _ _ _ _ _ _ _ _ _ _ _ _ _ _ _ _ _ _ _ _ _ _ _ _ _ _ _ _ _ _ _ _ _ _ _ hR hP hD hS hl
set_option maxHeartbeats 40000000 in
set_option maxRecDepth 100000 in
theorem law_c17 {p : Program} {l : Launch} {e : Env} {s : State} {m : MethodId} {below : List Frame} {meth : Method} {c : Code} {b : Nat} {D : va_G} {cI cJ cZ : ClassId} {adx adc adm : Nat → Nat} {qo : Nat} {L : Nat} {xs : Nat → Int32} {sa sb : Nat} (hC : LCx p l s m meth c b D cI cJ cZ L xs sa sb) {K i : Nat} (hK9 : K ≤ 511) (hi : i + 7 ≤ L) (next : LI p l e s m below meth c b D cI cJ cZ adx adc adm qo 862 (K + 1) (nI i)) : LI p l e s m below meth c b D cI cJ cZ adx adc adm qo 775 K (nI i) := by
  obtain ⟨hx, hb, hr, hml, hown, hts, hX, hbl, hlocks, hK, hTw, hU, hN, hst, hL⟩ := hC
  intro adn adt gx gc gn gt m0 m1 m2 m3 m4 m5 m6 m7 m8 m9 m10 m11 m12 m13 m14 m15 m16 m17 m18 m19 m20 m21 m22 m23 m24 m25 m26 m27 u H locs ls hRR hP hD hS hl
  have hA : ∀ q : Nat, s.heap.size ≤ q → (fun q : Nat => s.heap.size ≤ q) q := fun _ h => h
  have hbA : ¬ (fun q : Nat => s.heap.size ≤ q) b := Nat.not_le.mpr hbl
  have hc1 : 100 + 2 * K ≤ 1200 := by omega
  have hc2 : 20000 + 12 * K ≤ 30000 := by omega
  have hc3 : 100 + 2 * K + 1 ≤ 1300 := by omega
  have hc4 : 20000 + 12 * K + 6 ≤ 30100 := by omega
  have hc5 : 100 + 2 * K + 2 ≤ 1400 := by omega
  have hc6 : 20000 + 12 * K + 12 ≤ 30200 := by omega
  obtain ⟨o, o', h1, h2, h3, hR⟩ := R_faults hRR m8 m9 m24 m25 m26 m27 (xs (nI i + nI 1).toNatClampNeg)
  refine lv_aload_n hx hb dL_law_775 rfl (lv_at hl 1 rfl) ?_
  refine lv_aload_n hx hb dL_law_776 rfl (lv_at hl 0 rfl) ?_
  refine lv_iload hx hb dL_law_777 (lv_at hl 4 rfl) ?_
  refine lv_iconst (v := nI 1) hx hb dL_law_779 (by decide) ?_
  refine lv_iadd hx hb dL_law_780 ?_
  refine va_sld hx hb hX hbl hbA hS (li_in (j := 1) hi hL (by omega)) dL_law_781 ?_
  refine xIp (va_runV (As := [.int (xs (nI i + nI 1).toNatClampNeg)]) (rest := []) ⟨hx, hb, hml, hown, hts⟩ (c_X2_faults l D cI cJ cZ adx adc adn adt gx gc gn gt (xs (nI i + nI 1).toNatClampNeg) o h1 _) (cwV 1 hts gL_law_X2_faults rfl rfl rfl (by decide +kernel) ⟨Nat.le_of_ble_eq_true rfl, Nat.le_of_ble_eq_true rfl⟩) ⟨PreW.blind, xRecv (q0 := 0) hK hP rfl rfl, xPrep hK hP hD _⟩ rfl rfl hl.1 rfl (lv_room (Nat.le_of_ble_eq_true rfl)) dL_law_782 ⟨Nat.le_trans (Nat.add_le_add_right hc1 _) (Nat.le_of_ble_eq_true rfl), Nat.le_trans (Nat.add_le_add_right hc2 _) (Nat.le_of_ble_eq_true rfl)⟩) hP hD hS hA (fun H locs hP hD hS => ?_)
  refine W.widen (k := 100 + 2 * K + 1) (n := 20000 + 12 * K + 6) (Nat.add_le_add_left (Nat.le_of_ble_eq_true rfl) _) (Nat.add_le_add_left (Nat.le_of_ble_eq_true rfl) _) ?_
  replace hP := P_perm perm_r hP
  replace hD := D_perm perm_r hD
  refine lv_aload_n hx hb dL_law_785 rfl (lv_at hl 2 rfl) ?_
  refine lv_aload_n hx hb dL_law_786 rfl (lv_at hl 0 rfl) ?_
  refine lv_iload hx hb dL_law_787 (lv_at hl 4 rfl) ?_
  refine lv_iconst (v := nI 1) hx hb dL_law_789 (by decide) ?_
  refine lv_iadd hx hb dL_law_790 ?_
  refine va_sld hx hb hX hbl hbA hS (li_in (j := 1) hi hL (by omega)) dL_law_791 ?_
  refine xIp (va_runV (As := [.int (xs (nI i + nI 1).toNatClampNeg)]) (rest := [.int (o.1)]) ⟨hx, hb, hml, hown, hts⟩ (c_X3_faults l D cI cJ cZ adm m0 m1 m2 m3 m4 m5 m6 m7 m8 m9 m10 m11 m12 m13 m14 m15 m16 m17 m18 m19 m20 m21 m22 m23 m24 m25 m26 m27 (xs (nI i + nI 1).toNatClampNeg) o' h2 _) (cwV 1 hts gL_law_X3_faults rfl rfl rfl (by decide +kernel) ⟨Nat.le_of_ble_eq_true rfl, Nat.le_of_ble_eq_true rfl⟩) ⟨PreW.blind, xRecv (q0 := 0) hK hP rfl rfl, xPrep hK hP hD _⟩ rfl rfl hl.1 rfl (lv_room (Nat.le_of_ble_eq_true rfl)) dL_law_792 ⟨Nat.le_trans (Nat.add_le_add_right hc3 _) (Nat.le_of_ble_eq_true rfl), Nat.le_trans (Nat.add_le_add_right hc4 _) (Nat.le_of_ble_eq_true rfl)⟩) hP hD hS hA (fun H locs hP hD hS => ?_)
  refine W.widen (k := 100 + 2 * (K + 1)) (n := 20000 + 12 * (K + 1)) (Nat.le_trans (Nat.add_le_add_left (show rmX3_faults.cells ≤ 1 from Nat.le_of_ble_eq_true rfl) _) (by omega)) (Nat.le_trans (Nat.add_le_add_left (show rmX3_faults.slots ≤ 6 from Nat.le_of_ble_eq_true rfl) _) (by omega)) ?_
  replace hP := P_perm perm_b hP
  replace hD := D_perm perm_b hD
  refine lv_icmp_eq (tgt := 862) hx hb dL_law_795 (by decide) (fun q => ?_) (fun q => absurd h3 q)
  exact next _ _ _ _ _ _ _ _ _ _ _ _ _ _ _ _ _ _ _ _ _ _ _ _ _ _ _ _ _ _ _ _ _ _ _ _ _ _ hR hP hD hS hl
set_option maxHeartbeats 40000000 in
set_option maxRecDepth 100000 in
theorem law_c18 {p : Program} {l : Launch} {e : Env} {s : State} {m : MethodId} {below : List Frame} {meth : Method} {c : Code} {b : Nat} {D : va_G} {cI cJ cZ : ClassId} {adx adc adm : Nat → Nat} {qo : Nat} {L : Nat} {xs : Nat → Int32} {sa sb : Nat} (hC : LCx p l s m meth c b D cI cJ cZ L xs sa sb) {K i : Nat} (hK9 : K ≤ 511) (hi : i + 7 ≤ L) (next : LI p l e s m below meth c b D cI cJ cZ adx adc adm qo 862 (K + 1) (nI i)) : LI p l e s m below meth c b D cI cJ cZ adx adc adm qo 800 K (nI i) := by
  obtain ⟨hx, hb, hr, hml, hown, hts, hX, hbl, hlocks, hK, hTw, hU, hN, hst, hL⟩ := hC
  intro adn adt gx gc gn gt m0 m1 m2 m3 m4 m5 m6 m7 m8 m9 m10 m11 m12 m13 m14 m15 m16 m17 m18 m19 m20 m21 m22 m23 m24 m25 m26 m27 u H locs ls hRR hP hD hS hl
  have hA : ∀ q : Nat, s.heap.size ≤ q → (fun q : Nat => s.heap.size ≤ q) q := fun _ h => h
  have hbA : ¬ (fun q : Nat => s.heap.size ≤ q) b := Nat.not_le.mpr hbl
  have hc1 : 100 + 2 * K ≤ 1200 := by omega
  have hc2 : 20000 + 12 * K ≤ 30000 := by omega
  have hc3 : 100 + 2 * K + 1 ≤ 1300 := by omega
  have hc4 : 20000 + 12 * K + 6 ≤ 30100 := by omega
  have hc5 : 100 + 2 * K + 2 ≤ 1400 := by omega
  have hc6 : 20000 + 12 * K + 12 ≤ 30200 := by omega
  obtain ⟨o, o', h1, h2, h3, hR⟩ := R_fault hRR m8 m9 m24 m25 m26 m27 (xs (nI i + nI 1).toNatClampNeg) (xs (nI i + nI 2).toNatClampNeg)
  refine lv_aload_n hx hb dL_law_800 rfl (lv_at hl 1 rfl) ?_
  refine lv_aload_n hx hb dL_law_801 rfl (lv_at hl 0 rfl) ?_
  refine lv_iload hx hb dL_law_802 (lv_at hl 4 rfl) ?_
  refine lv_iconst (v := nI 1) hx hb dL_law_804 (by decide) ?_
  refine lv_iadd hx hb dL_law_805 ?_
  refine va_sld hx hb hX hbl hbA hS (li_in (j := 1) hi hL (by omega)) dL_law_806 ?_
  refine lv_aload_n hx hb dL_law_807 rfl (lv_at hl 0 rfl) ?_
  refine lv_iload hx hb dL_law_808 (lv_at hl 4 rfl) ?_
  refine lv_iconst (v := nI 2) hx hb dL_law_810 (by decide) ?_
  refine lv_iadd hx hb dL_law_811 ?_
  refine va_sld hx hb hX hbl hbA hS (li_in (j := 2) hi hL (by omega)) dL_law_812 ?_
  refine xIp (va_runV (As := [.int (xs (nI i + nI 1).toNatClampNeg), .int (xs (nI i + nI 2).toNatClampNeg)]) (rest := []) ⟨hx, hb, hml, hown, hts⟩ (c_X2_fault l D cI cJ cZ adx adc adn adt gx gc gn gt (xs (nI i + nI 1).toNatClampNeg) (xs (nI i + nI 2).toNatClampNeg) o h1 _) (cwV 2 hts gL_law_X2_fault rfl rfl rfl (by decide +kernel) ⟨Nat.le_of_ble_eq_true rfl, Nat.le_of_ble_eq_true rfl⟩) ⟨PreW.blind, xRecv (q0 := 0) hK hP rfl rfl, xPrep hK hP hD _⟩ rfl rfl hl.1 rfl (lv_room (Nat.le_of_ble_eq_true rfl)) dL_law_813 ⟨Nat.le_trans (Nat.add_le_add_right hc1 _) (Nat.le_of_ble_eq_true rfl), Nat.le_trans (Nat.add_le_add_right hc2 _) (Nat.le_of_ble_eq_true rfl)⟩) hP hD hS hA (fun H locs hP hD hS => ?_)
  refine W.widen (k := 100 + 2 * K + 1) (n := 20000 + 12 * K + 6) (Nat.add_le_add_left (Nat.le_of_ble_eq_true rfl) _) (Nat.add_le_add_left (Nat.le_of_ble_eq_true rfl) _) ?_
  replace hP := P_perm perm_r hP
  replace hD := D_perm perm_r hD
  refine lv_aload_n hx hb dL_law_816 rfl (lv_at hl 2 rfl) ?_
  refine lv_aload_n hx hb dL_law_817 rfl (lv_at hl 0 rfl) ?_
  refine lv_iload hx hb dL_law_818 (lv_at hl 4 rfl) ?_
  refine lv_iconst (v := nI 1) hx hb dL_law_820 (by decide) ?_
  refine lv_iadd hx hb dL_law_821 ?_
  refine va_sld hx hb hX hbl hbA hS (li_in (j := 1) hi hL (by omega)) dL_law_822 ?_
  refine lv_aload_n hx hb dL_law_823 rfl (lv_at hl 0 rfl) ?_
  refine lv_iload hx hb dL_law_824 (lv_at hl 4 rfl) ?_
  refine lv_iconst (v := nI 2) hx hb dL_law_826 (by decide) ?_
  refine lv_iadd hx hb dL_law_827 ?_
  refine va_sld hx hb hX hbl hbA hS (li_in (j := 2) hi hL (by omega)) dL_law_828 ?_
  refine xIp (va_runV (As := [.int (xs (nI i + nI 1).toNatClampNeg), .int (xs (nI i + nI 2).toNatClampNeg)]) (rest := [.int (o.1)]) ⟨hx, hb, hml, hown, hts⟩ (c_X3_fault l D cI cJ cZ adm m0 m1 m2 m3 m4 m5 m6 m7 m8 m9 m10 m11 m12 m13 m14 m15 m16 m17 m18 m19 m20 m21 m22 m23 m24 m25 m26 m27 (xs (nI i + nI 1).toNatClampNeg) (xs (nI i + nI 2).toNatClampNeg) o' h2 _) (cwV 2 hts gL_law_X3_fault rfl rfl rfl (by decide +kernel) ⟨Nat.le_of_ble_eq_true rfl, Nat.le_of_ble_eq_true rfl⟩) ⟨PreW.blind, xRecv (q0 := 0) hK hP rfl rfl, xPrep hK hP hD _⟩ rfl rfl hl.1 rfl (lv_room (Nat.le_of_ble_eq_true rfl)) dL_law_829 ⟨Nat.le_trans (Nat.add_le_add_right hc3 _) (Nat.le_of_ble_eq_true rfl), Nat.le_trans (Nat.add_le_add_right hc4 _) (Nat.le_of_ble_eq_true rfl)⟩) hP hD hS hA (fun H locs hP hD hS => ?_)
  refine W.widen (k := 100 + 2 * (K + 1)) (n := 20000 + 12 * (K + 1)) (Nat.le_trans (Nat.add_le_add_left (show rmX3_fault.cells ≤ 1 from Nat.le_of_ble_eq_true rfl) _) (by omega)) (Nat.le_trans (Nat.add_le_add_left (show rmX3_fault.slots ≤ 6 from Nat.le_of_ble_eq_true rfl) _) (by omega)) ?_
  replace hP := P_perm perm_b hP
  replace hD := D_perm perm_b hD
  refine lv_icmp_eq (tgt := 862) hx hb dL_law_832 (by decide) (fun q => ?_) (fun q => absurd h3 q)
  exact next _ _ _ _ _ _ _ _ _ _ _ _ _ _ _ _ _ _ _ _ _ _ _ _ _ _ _ _ _ _ _ _ _ _ _ _ _ _ hR hP hD hS hl
set_option maxHeartbeats 40000000 in
set_option maxRecDepth 100000 in
theorem law_c19 {p : Program} {l : Launch} {e : Env} {s : State} {m : MethodId} {below : List Frame} {meth : Method} {c : Code} {b : Nat} {D : va_G} {cI cJ cZ : ClassId} {adx adc adm : Nat → Nat} {qo : Nat} {L : Nat} {xs : Nat → Int32} {sa sb : Nat} (hC : LCx p l s m meth c b D cI cJ cZ L xs sa sb) {K i : Nat} (hK9 : K ≤ 511) (hi : i + 7 ≤ L) (next : LI p l e s m below meth c b D cI cJ cZ adx adc adm qo 862 (K + 1) (nI i)) : LI p l e s m below meth c b D cI cJ cZ adx adc adm qo 837 K (nI i) := by
  obtain ⟨hx, hb, hr, hml, hown, hts, hX, hbl, hlocks, hK, hTw, hU, hN, hst, hL⟩ := hC
  intro adn adt gx gc gn gt m0 m1 m2 m3 m4 m5 m6 m7 m8 m9 m10 m11 m12 m13 m14 m15 m16 m17 m18 m19 m20 m21 m22 m23 m24 m25 m26 m27 u H locs ls hRR hP hD hS hl
  have hA : ∀ q : Nat, s.heap.size ≤ q → (fun q : Nat => s.heap.size ≤ q) q := fun _ h => h
  have hbA : ¬ (fun q : Nat => s.heap.size ≤ q) b := Nat.not_le.mpr hbl
  have hc1 : 100 + 2 * K ≤ 1200 := by omega
  have hc2 : 20000 + 12 * K ≤ 30000 := by omega
  have hc3 : 100 + 2 * K + 1 ≤ 1300 := by omega
  have hc4 : 20000 + 12 * K + 6 ≤ 30100 := by omega
  have hc5 : 100 + 2 * K + 2 ≤ 1400 := by omega
  have hc6 : 20000 + 12 * K + 12 ≤ 30200 := by omega
  obtain ⟨o, o', h1, h2, h3, hR⟩ := R_fits hRR m8 m9 m24 m25 m26 m27 (xs (nI i + nI 1).toNatClampNeg)
  refine lv_aload_n hx hb dL_law_837 rfl (lv_at hl 1 rfl) ?_
  refine lv_aload_n hx hb dL_law_838 rfl (lv_at hl 0 rfl) ?_
  refine lv_iload hx hb dL_law_839 (lv_at hl 4 rfl) ?_
  refine lv_iconst (v := nI 1) hx hb dL_law_841 (by decide) ?_
  refine lv_iadd hx hb dL_law_842 ?_
  refine va_sld hx hb hX hbl hbA hS (li_in (j := 1) hi hL (by omega)) dL_law_843 ?_
  refine xIp (va_runV (As := [.int (xs (nI i + nI 1).toNatClampNeg)]) (rest := []) ⟨hx, hb, hml, hown, hts⟩ (c_X2_fits l D cI cJ cZ adx adc adn adt gx gc gn gt (xs (nI i + nI 1).toNatClampNeg) o h1 _) (cwV 1 hts gL_law_X2_fits rfl rfl rfl (by decide +kernel) ⟨Nat.le_of_ble_eq_true rfl, Nat.le_of_ble_eq_true rfl⟩) ⟨PreW.blind, xRecv (q0 := 0) hK hP rfl rfl, xPrep hK hP hD _⟩ rfl rfl hl.1 rfl (lv_room (Nat.le_of_ble_eq_true rfl)) dL_law_844 ⟨Nat.le_trans (Nat.add_le_add_right hc1 _) (Nat.le_of_ble_eq_true rfl), Nat.le_trans (Nat.add_le_add_right hc2 _) (Nat.le_of_ble_eq_true rfl)⟩) hP hD hS hA (fun H locs hP hD hS => ?_)
  refine W.widen (k := 100 + 2 * K + 1) (n := 20000 + 12 * K + 6) (Nat.add_le_add_left (Nat.le_of_ble_eq_true rfl) _) (Nat.add_le_add_left (Nat.le_of_ble_eq_true rfl) _) ?_
  replace hP := P_perm perm_r hP
  replace hD := D_perm perm_r hD
  refine lv_aload_n hx hb dL_law_847 rfl (lv_at hl 2 rfl) ?_
  refine lv_aload_n hx hb dL_law_848 rfl (lv_at hl 0 rfl) ?_
  refine lv_iload hx hb dL_law_849 (lv_at hl 4 rfl) ?_
  refine lv_iconst (v := nI 1) hx hb dL_law_851 (by decide) ?_
  refine lv_iadd hx hb dL_law_852 ?_
  refine va_sld hx hb hX hbl hbA hS (li_in (j := 1) hi hL (by omega)) dL_law_853 ?_
  refine xIp (va_runV (As := [.int (xs (nI i + nI 1).toNatClampNeg)]) (rest := [.int (o.1)]) ⟨hx, hb, hml, hown, hts⟩ (c_X3_fits l D cI cJ cZ adm m0 m1 m2 m3 m4 m5 m6 m7 m8 m9 m10 m11 m12 m13 m14 m15 m16 m17 m18 m19 m20 m21 m22 m23 m24 m25 m26 m27 (xs (nI i + nI 1).toNatClampNeg) o' h2 _) (cwV 1 hts gL_law_X3_fits rfl rfl rfl (by decide +kernel) ⟨Nat.le_of_ble_eq_true rfl, Nat.le_of_ble_eq_true rfl⟩) ⟨PreW.blind, xRecv (q0 := 0) hK hP rfl rfl, xPrep hK hP hD _⟩ rfl rfl hl.1 rfl (lv_room (Nat.le_of_ble_eq_true rfl)) dL_law_854 ⟨Nat.le_trans (Nat.add_le_add_right hc3 _) (Nat.le_of_ble_eq_true rfl), Nat.le_trans (Nat.add_le_add_right hc4 _) (Nat.le_of_ble_eq_true rfl)⟩) hP hD hS hA (fun H locs hP hD hS => ?_)
  refine W.widen (k := 100 + 2 * (K + 1)) (n := 20000 + 12 * (K + 1)) (Nat.le_trans (Nat.add_le_add_left (show rmX3_fits.cells ≤ 1 from Nat.le_of_ble_eq_true rfl) _) (by omega)) (Nat.le_trans (Nat.add_le_add_left (show rmX3_fits.slots ≤ 6 from Nat.le_of_ble_eq_true rfl) _) (by omega)) ?_
  replace hP := P_perm perm_b hP
  replace hD := D_perm perm_b hD
  refine lv_icmp_eq (tgt := 862) hx hb dL_law_857 (by decide) (fun q => ?_) (fun q => absurd h3 q)
  exact next _ _ _ _ _ _ _ _ _ _ _ _ _ _ _ _ _ _ _ _ _ _ _ _ _ _ _ _ _ _ _ _ _ _ _ _ _ _ hR hP hD hS hl
