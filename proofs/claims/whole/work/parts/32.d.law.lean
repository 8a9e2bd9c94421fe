set_option maxHeartbeats 40000000 in
set_option maxRecDepth 100000 in
theorem law_c8 {p : Program} {l : Launch} {e : Env} {s : State} {m : MethodId} {below : List Frame} {meth : Method} {c : Code} {b : Nat} {D : va_G} {cI cJ cZ : ClassId} {adx adc adm : Nat → Nat} {qo : Nat} {L : Nat} {xs : Nat → Int32} {sa sb : Nat} (hC : LCx p l s m meth c b D cI cJ cZ L xs sa sb) {K i : Nat} (hK9 : K ≤ 511) (hi : i + 7 ≤ L) (next : LI p l e s m below meth c b D cI cJ cZ adx adc adm qo 862 (K + 1) (nI i)) : LI p l e s m below meth c b D cI cJ cZ adx adc adm qo 477 K (nI i) := by
  obtain ⟨hx, hb, hr, hml, hown, hts, hX, hbl, hlocks, hK, hTw, hU, hN, hst, hL⟩ := hC
  intro adn adt gx gc gn gt m0 m1 m2 m3 m4 m5 m6 m7 m8 m9 m10 m11 m12 m13 m14 m15 m16 m17 m18 m19 m20 m21 m22 m23 m24 m25 m26 m27 u H locs ls hRR hP hD hS hl
  have hA : ∀ q : Nat, s.heap.size ≤ q → (fun q : Nat => s.heap.size ≤ q) q := fun _ h => h
  have hbA : ¬ (fun q : Nat => s.heap.size ≤ q) b := Nat.not_le.mpr hbl
  have hc1 : 100 + 2 * K ≤ 1200 := by omega
  have hc2 : 20000 + 12 * K ≤ 30000 := by omega
  have hc3 : 100 + 2 * K + 1 ≤ 1300 := by omega
  have hc4 : 20000 + 12 * K + 6 ≤ 30100 := by omega
  have hc5 : 100 + 2 * K + 2 ≤ 1400 := by omega
  have hc6 : 20000 + 12 * K + 12 ≤ 30200 := by omega
  obtain ⟨v, h1, h2⟩ := R_counted hRR (xs (nI i + nI 1).toNatClampNeg)
  refine lv_aload_n hx hb dL_law_477 rfl (lv_at hl 1 rfl) ?_
  refine lv_aload_n hx hb dL_law_478 rfl (lv_at hl 0 rfl) ?_
  refine lv_iload hx hb dL_law_479 (lv_at hl 4 rfl) ?_
  refine lv_iconst (v := nI 1) hx hb dL_law_481 (by decide) ?_
  refine lv_iadd hx hb dL_law_482 ?_
  refine va_sld hx hb hX hbl hbA hS (li_in (j := 1) hi hL (by omega)) dL_law_483 ?_
  refine xIp (va_runV (As := [.int (xs (nI i + nI 1).toNatClampNeg)]) (rest := []) ⟨hx, hb, hml, hown, hts⟩ (c_X2_counted l D cI cJ cZ adx adc adn adt gx gc gn gt (xs (nI i + nI 1).toNatClampNeg) v h1 _) (cwV 1 hts gL_law_X2_counted rfl rfl rfl (by decide +kernel) ⟨Nat.le_of_ble_eq_true rfl, Nat.le_of_ble_eq_true rfl⟩) ⟨PreW.blind, xRecv (q0 := 0) hK hP rfl rfl, xPrep hK hP hD _⟩ rfl rfl hl.1 rfl (lv_room (Nat.le_of_ble_eq_true rfl)) dL_law_484 ⟨Nat.le_trans (Nat.add_le_add_right hc1 _) (Nat.le_of_ble_eq_true rfl), Nat.le_trans (Nat.add_le_add_right hc2 _) (Nat.le_of_ble_eq_true rfl)⟩) hP hD hS hA (fun H locs hP hD hS => ?_)
  refine W.widen (k := 100 + 2 * K + 1) (n := 20000 + 12 * K + 6) (Nat.add_le_add_left (Nat.le_of_ble_eq_true rfl) _) (Nat.add_le_add_left (Nat.le_of_ble_eq_true rfl) _) ?_
  replace hP := P_perm perm_r hP
  replace hD := D_perm perm_r hD
  refine lv_aload_n hx hb dL_law_487 rfl (lv_at hl 2 rfl) ?_
  refine lv_aload_n hx hb dL_law_488 rfl (lv_at hl 0 rfl) ?_
  refine lv_iload hx hb dL_law_489 (lv_at hl 4 rfl) ?_
  refine lv_iconst (v := nI 1) hx hb dL_law_491 (by decide) ?_
  refine lv_iadd hx hb dL_law_492 ?_
  refine va_sld hx hb hX hbl hbA hS (li_in (j := 1) hi hL (by omega)) dL_law_493 ?_
  refine xIp (va_runV (As := [.int (xs (nI i + nI 1).toNatClampNeg)]) (rest := [.int (v)]) ⟨hx, hb, hml, hown, hts⟩ (c_X3_counted l D cI cJ cZ adm m0 m1 m2 m3 m4 m5 m6 m7 m8 m9 m10 m11 m12 m13 m14 m15 m16 m17 m18 m19 m20 m21 m22 m23 m24 m25 m26 m27 (xs (nI i + nI 1).toNatClampNeg) (v, 0) h2 _) (cwV 1 hts gL_law_X3_counted rfl rfl rfl (by decide +kernel) ⟨Nat.le_of_ble_eq_true rfl, Nat.le_of_ble_eq_true rfl⟩) ⟨PreW.blind, xRecv (q0 := 0) hK hP rfl rfl, xPrep hK hP hD _⟩ rfl rfl hl.1 rfl (lv_room (Nat.le_of_ble_eq_true rfl)) dL_law_494 ⟨Nat.le_trans (Nat.add_le_add_right hc3 _) (Nat.le_of_ble_eq_true rfl), Nat.le_trans (Nat.add_le_add_right hc4 _) (Nat.le_of_ble_eq_true rfl)⟩) hP hD hS hA (fun H locs hP hD hS => ?_)
  refine W.widen (k := 100 + 2 * (K + 1)) (n := 20000 + 12 * (K + 1)) (Nat.le_trans (Nat.add_le_add_left (show rmX3_counted.cells ≤ 1 from Nat.le_of_ble_eq_true rfl) _) (by omega)) (Nat.le_trans (Nat.add_le_add_left (show rmX3_counted.slots ≤ 6 from Nat.le_of_ble_eq_true rfl) _) (by omega)) ?_
  replace hP := P_perm perm_b hP
  replace hD := D_perm perm_b hD
  refine lv_icmp_eq (tgt := 862) hx hb dL_law_497 (by decide) (fun q => ?_) (fun q => absurd rfl q)
  exact next _ _ _ _ _ _ _ _ _ _ _ _ _ _ _ _ _ _ _ _ _ _ _ _ _ _ _ _ _ _ _ _ _ _ _ _ _ _ hRR.mono hP hD hS hl
set_option maxHeartbeats 40000000 in
set_option maxRecDepth 100000 in
theorem law_c9 {p : Program} {l : Launch} {e : Env} {s : State} {m : MethodId} {below : List Frame} {meth : Method} {c : Code} {b : Nat} {D : va_G} {cI cJ cZ : ClassId} {adx adc adm : Nat → Nat} {qo : Nat} {L : Nat} {xs : Nat → Int32} {sa sb : Nat} (hC : LCx p l s m meth c b D cI cJ cZ L xs sa sb) {K i : Nat} (hK9 : K ≤ 511) (hi : i + 7 ≤ L) (next : LI p l e s m below meth c b D cI cJ cZ adx adc adm qo 862 (K + 1) (nI i)) : LI p l e s m below meth c b D cI cJ cZ adx adc adm qo 502 K (nI i) := by
  obtain ⟨hx, hb, hr, hml, hown, hts, hX, hbl, hlocks, hK, hTw, hU, hN, hst, hL⟩ := hC
  intro adn adt gx gc gn gt m0 m1 m2 m3 m4 m5 m6 m7 m8 m9 m10 m11 m12 m13 m14 m15 m16 m17 m18 m19 m20 m21 m22 m23 m24 m25 m26 m27 u H locs ls hRR hP hD hS hl
  have hA : ∀ q : Nat, s.heap.size ≤ q → (fun q : Nat => s.heap.size ≤ q) q := fun _ h => h
  have hbA : ¬ (fun q : Nat => s.heap.size ≤ q) b := Nat.not_le.mpr hbl
  have hc1 : 100 + 2 * K ≤ 1200 := by omega
  have hc2 : 20000 + 12 * K ≤ 30000 := by omega
  have hc3 : 100 + 2 * K + 1 ≤ 1300 := by omega
  have hc4 : 20000 + 12 * K + 6 ≤ 30100 := by omega
  have hc5 : 100 + 2 * K + 2 ≤ 1400 := by omega
  have hc6 : 20000 + 12 * K + 12 ≤ 30200 := by omega
  obtain ⟨v, h1, h2⟩ := R_event hRR (by omega) (xs (nI i + nI 1).toNatClampNeg) (xs (nI i + nI 2).toNatClampNeg)
  refine lv_aload_n hx hb dL_law_502 rfl (lv_at hl 1 rfl) ?_
  refine lv_aload_n hx hb dL_law_503 rfl (lv_at hl 0 rfl) ?_
  refine lv_iload hx hb dL_law_504 (lv_at hl 4 rfl) ?_
  refine lv_iconst (v := nI 1) hx hb dL_law_506 (by decide) ?_
  refine lv_iadd hx hb dL_law_507 ?_
  refine va_sld hx hb hX hbl hbA hS (li_in (j := 1) hi hL (by omega)) dL_law_508 ?_
  refine lv_aload_n hx hb dL_law_509 rfl (lv_at hl 0 rfl) ?_
  refine lv_iload hx hb dL_law_510 (lv_at hl 4 rfl) ?_
  refine lv_iconst (v := nI 2) hx hb dL_law_512 (by decide) ?_
  refine lv_iadd hx hb dL_law_513 ?_
  refine va_sld hx hb hX hbl hbA hS (li_in (j := 2) hi hL (by omega)) dL_law_514 ?_
  refine xIp (va_runV (As := [.int (xs (nI i + nI 1).toNatClampNeg), .int (xs (nI i + nI 2).toNatClampNeg)]) (rest := []) ⟨hx, hb, hml, hown, hts⟩ (c_X2_event l D cI cJ cZ adx adc adn adt gx gc gn gt (xs (nI i + nI 1).toNatClampNeg) (xs (nI i + nI 2).toNatClampNeg) v h1 _) (cwV 2 hts gL_law_X2_event rfl rfl rfl (by decide +kernel) ⟨Nat.le_of_ble_eq_true rfl, Nat.le_of_ble_eq_true rfl⟩) ⟨PreW.blind, xRecv (q0 := 0) hK hP rfl rfl, xPrep hK hP hD _⟩ rfl rfl hl.1 rfl (lv_room (Nat.le_of_ble_eq_true rfl)) dL_law_515 ⟨Nat.le_trans (Nat.add_le_add_right hc1 _) (Nat.le_of_ble_eq_true rfl), Nat.le_trans (Nat.add_le_add_right hc2 _) (Nat.le_of_ble_eq_true rfl)⟩) hP hD hS hA (fun H locs hP hD hS => ?_)
  refine W.widen (k := 100 + 2 * K + 1) (n := 20000 + 12 * K + 6) (Nat.add_le_add_left (Nat.le_of_ble_eq_true rfl) _) (Nat.add_le_add_left (Nat.le_of_ble_eq_true rfl) _) ?_
  replace hP := P_perm perm_r hP
  replace hD := D_perm perm_r hD
  refine lv_aload_n hx hb dL_law_518 rfl (lv_at hl 2 rfl) ?_
  refine lv_aload_n hx hb dL_law_519 rfl (lv_at hl 0 rfl) ?_
  refine lv_iload hx hb dL_law_520 (lv_at hl 4 rfl) ?_
  refine lv_iconst (v := nI 1) hx hb dL_law_522 (by decide) ?_
  refine lv_iadd hx hb dL_law_523 ?_
  refine va_sld hx hb hX hbl hbA hS (li_in (j := 1) hi hL (by omega)) dL_law_524 ?_
  refine lv_aload_n hx hb dL_law_525 rfl (lv_at hl 0 rfl) ?_
  refine lv_iload hx hb dL_law_526 (lv_at hl 4 rfl) ?_
  refine lv_iconst (v := nI 2) hx hb dL_law_528 (by decide) ?_
  refine lv_iadd hx hb dL_law_529 ?_
  refine va_sld hx hb hX hbl hbA hS (li_in (j := 2) hi hL (by omega)) dL_law_530 ?_
  refine xIp (va_runV (As := [.int (xs (nI i + nI 1).toNatClampNeg), .int (xs (nI i + nI 2).toNatClampNeg)]) (rest := [.int (v)]) ⟨hx, hb, hml, hown, hts⟩ (c_X3_event l D cI cJ cZ adm m0 m1 m2 m3 m4 m5 m6 m7 m8 m9 m10 m11 m12 m13 m14 m15 m16 m17 m18 m19 m20 m21 m22 m23 m24 m25 m26 m27 (xs (nI i + nI 1).toNatClampNeg) (xs (nI i + nI 2).toNatClampNeg) (v, 0) h2 _) (cwV 2 hts gL_law_X3_event rfl rfl rfl (by decide +kernel) ⟨Nat.le_of_ble_eq_true rfl, Nat.le_of_ble_eq_true rfl⟩) ⟨PreW.blind, xRecv (q0 := 0) hK hP rfl rfl, xPrep hK hP hD _⟩ rfl rfl hl.1 rfl (lv_room (Nat.le_of_ble_eq_true rfl)) dL_law_531 ⟨Nat.le_trans (Nat.add_le_add_right hc3 _) (Nat.le_of_ble_eq_true rfl), Nat.le_trans (Nat.add_le_add_right hc4 _) (Nat.le_of_ble_eq_true rfl)⟩) hP hD hS hA (fun H locs hP hD hS => ?_)
  refine W.widen (k := 100 + 2 * (K + 1)) (n := 20000 + 12 * (K + 1)) (Nat.le_trans (Nat.add_le_add_left (show rmX3_event.cells ≤ 1 from Nat.le_of_ble_eq_true rfl) _) (by omega)) (Nat.le_trans (Nat.add_le_add_left (show rmX3_event.slots ≤ 6 from Nat.le_of_ble_eq_true rfl) _) (by omega)) ?_
  replace hP := P_perm perm_b hP
  replace hD := D_perm perm_b hD
  refine lv_icmp_eq (tgt := 862) hx hb dL_law_534 (by decide) (fun q => ?_) (fun q => absurd rfl q)
  exact next _ _ _ _ _ _ _ _ _ _ _ _ _ _ _ _ _ _ _ _ _ _ _ _ _ _ _ _ _ _ _ _ _ _ _ _ _ _ hRR.mono hP hD hS hl
set_option maxHeartbeats 40000000 in
set_option maxRecDepth 100000 in
theorem law_c10 {p : Program} {l : Launch} {e : Env} {s : State} {m : MethodId} {below : List Frame} {meth : Method} {c : Code} {b : Nat} {D : va_G} {cI cJ cZ : ClassId} {adx adc adm : Nat → Nat} {qo : Nat} {L : Nat} {xs : Nat → Int32} {sa sb : Nat} (hC : LCx p l s m meth c b D cI cJ cZ L xs sa sb) {K i : Nat} (hK9 : K ≤ 511) (hi : i + 7 ≤ L) (next : LI p l e s m below meth c b D cI cJ cZ adx adc adm qo 862 (K + 1) (nI i)) : LI p l e s m below meth c b D cI cJ cZ adx adc adm qo 539 K (nI i) := by
  obtain ⟨hx, hb, hr, hml, hown, hts, hX, hbl, hlocks, hK, hTw, hU, hN, hst, hL⟩ := hC
  intro adn adt gx gc gn gt m0 m1 m2 m3 m4 m5 m6 m7 m8 m9 m10 m11 m12 m13 m14 m15 m16 m17 m18 m19 m20 m21 m22 m23 m24 m25 m26 m27 u H locs ls hRR hP hD hS hl
  have hA : ∀ q : Nat, s.heap.size ≤ q → (fun q : Nat => s.heap.size ≤ q) q := fun _ h => h
  have hbA : ¬ (fun q : Nat => s.heap.size ≤ q) b := Nat.not_le.mpr hbl
  have hc1 : 100 + 2 * K ≤ 1200 := by omega
  have hc2 : 20000 + 12 * K ≤ 30000 := by omega
  have hc3 : 100 + 2 * K + 1 ≤ 1300 := by omega
  have hc4 : 20000 + 12 * K + 6 ≤ 30100 := by omega
  have hc5 : 100 + 2 * K + 2 ≤ 1400 := by omega
  have hc6 : 20000 + 12 * K + 12 ≤ 30200 := by omega
  obtain ⟨o, o', h1, h2, h3, hR⟩ := R_ring hRR m8 m9 m15 m24 m25 m26 m27 (xs (nI i + nI 1).toNatClampNeg)
  refine lv_aload_n hx hb dL_law_539 rfl (lv_at hl 1 rfl) ?_
  refine lv_aload_n hx hb dL_law_540 rfl (lv_at hl 0 rfl) ?_
  refine lv_iload hx hb dL_law_541 (lv_at hl 4 rfl) ?_
  refine lv_iconst (v := nI 1) hx hb dL_law_543 (by decide) ?_
  refine lv_iadd hx hb dL_law_544 ?_
  refine va_sld hx hb hX hbl hbA hS (li_in (j := 1) hi hL (by omega)) dL_law_545 ?_
  refine xIp (va_runV (As := [.int (xs (nI i + nI 1).toNatClampNeg)]) (rest := []) ⟨hx, hb, hml, hown, hts⟩ (c_X2_ring l D cI cJ cZ adx adc adn adt gx gc gn gt (xs (nI i + nI 1).toNatClampNeg) o h1 _) (cwV 1 hts gL_law_X2_ring rfl rfl rfl (by decide +kernel) ⟨Nat.le_of_ble_eq_true rfl, Nat.le_of_ble_eq_true rfl⟩) ⟨PreW.blind, xRecv (q0 := 0) hK hP rfl rfl, xPrep hK hP hD _⟩ rfl rfl hl.1 rfl (lv_room (Nat.le_of_ble_eq_true rfl)) dL_law_546 ⟨Nat.le_trans (Nat.add_le_add_right hc1 _) (Nat.le_of_ble_eq_true rfl), Nat.le_trans (Nat.add_le_add_right hc2 _) (Nat.le_of_ble_eq_true rfl)⟩) hP hD hS hA (fun H locs hP hD hS => ?_)
  refine W.widen (k := 100 + 2 * K + 1) (n := 20000 + 12 * K + 6) (Nat.add_le_add_left (Nat.le_of_ble_eq_true rfl) _) (Nat.add_le_add_left (Nat.le_of_ble_eq_true rfl) _) ?_
  replace hP := P_perm perm_r hP
  replace hD := D_perm perm_r hD
  refine lv_aload_n hx hb dL_law_549 rfl (lv_at hl 2 rfl) ?_
  refine lv_aload_n hx hb dL_law_550 rfl (lv_at hl 0 rfl) ?_
  refine lv_iload hx hb dL_law_551 (lv_at hl 4 rfl) ?_
  refine lv_iconst (v := nI 1) hx hb dL_law_553 (by decide) ?_
  refine lv_iadd hx hb dL_law_554 ?_
  refine va_sld hx hb hX hbl hbA hS (li_in (j := 1) hi hL (by omega)) dL_law_555 ?_
  refine xIp (va_runV (As := [.int (xs (nI i + nI 1).toNatClampNeg)]) (rest := [.int (o.1)]) ⟨hx, hb, hml, hown, hts⟩ (c_X3_ring l D cI cJ cZ adm m0 m1 m2 m3 m4 m5 m6 m7 m8 m9 m10 m11 m12 m13 m14 m15 m16 m17 m18 m19 m20 m21 m22 m23 m24 m25 m26 m27 (xs (nI i + nI 1).toNatClampNeg) o' h2 _) (cwV 1 hts gL_law_X3_ring rfl rfl rfl (by decide +kernel) ⟨Nat.le_of_ble_eq_true rfl, Nat.le_of_ble_eq_true rfl⟩) ⟨PreW.blind, xRecv (q0 := 0) hK hP rfl rfl, xPrep hK hP hD _⟩ rfl rfl hl.1 rfl (lv_room (Nat.le_of_ble_eq_true rfl)) dL_law_556 ⟨Nat.le_trans (Nat.add_le_add_right hc3 _) (Nat.le_of_ble_eq_true rfl), Nat.le_trans (Nat.add_le_add_right hc4 _) (Nat.le_of_ble_eq_true rfl)⟩) hP hD hS hA (fun H locs hP hD hS => ?_)
  refine W.widen (k := 100 + 2 * (K + 1)) (n := 20000 + 12 * (K + 1)) (Nat.le_trans (Nat.add_le_add_left (show rmX3_ring.cells ≤ 1 from Nat.le_of_ble_eq_true rfl) _) (by omega)) (Nat.le_trans (Nat.add_le_add_left (show rmX3_ring.slots ≤ 6 from Nat.le_of_ble_eq_true rfl) _) (by omega)) ?_
  replace hP := P_perm perm_b hP
  replace hD := D_perm perm_b hD
  refine lv_icmp_eq (tgt := 862) hx hb dL_law_559 (by decide) (fun q => ?_) (fun q => absurd h3 q)
  exact next _ _ _ _ _ _ _ _ _ _ _ _ _ _ _ _ _ _ _ _ _ _ _ _ _ _ _ _ _ _ _ _ _ _ _ _ _ _ hR hP hD hS hl
set_option maxHeartbeats 40000000 in
set_option maxRecDepth 100000 in
theorem law_c11 {p : Program} {l : Launch} {e : Env} {s : State} {m : MethodId} {below : List Frame} {meth : Method} {c : Code} {b : Nat} {D : va_G} {cI cJ cZ : ClassId} {adx adc adm : Nat → Nat} {qo : Nat} {L : Nat} {xs : Nat → Int32} {sa sb : Nat} (hC : LCx p l s m meth c b D cI cJ cZ L xs sa sb) {K i : Nat} (hK9 : K ≤ 511) (hi : i + 7 ≤ L) (next : LI p l e s m below meth c b D cI cJ cZ adx adc adm qo 862 (K + 1) (nI i)) : LI p l e s m below meth c b D cI cJ cZ adx adc adm qo 564 K (nI i) := by
  obtain ⟨hx, hb, hr, hml, hown, hts, hX, hbl, hlocks, hK, hTw, hU, hN, hst, hL⟩ := hC
  intro adn adt gx gc gn gt m0 m1 m2 m3 m4 m5 m6 m7 m8 m9 m10 m11 m12 m13 m14 m15 m16 m17 m18 m19 m20 m21 m22 m23 m24 m25 m26 m27 u H locs ls hRR hP hD hS hl
  have hA : ∀ q : Nat, s.heap.size ≤ q → (fun q : Nat => s.heap.size ≤ q) q := fun _ h => h
  have hbA : ¬ (fun q : Nat => s.heap.size ≤ q) b := Nat.not_le.mpr hbl
  have hc1 : 100 + 2 * K ≤ 1200 := by omega
  have hc2 : 20000 + 12 * K ≤ 30000 := by omega
  have hc3 : 100 + 2 * K + 1 ≤ 1300 := by omega
  have hc4 : 20000 + 12 * K + 6 ≤ 30100 := by omega
  have hc5 : 100 + 2 * K + 2 ≤ 1400 := by omega
  have hc6 : 20000 + 12 * K + 12 ≤ 30200 := by omega
  obtain ⟨v, h1, h2⟩ := R_ringed hRR (xs (nI i + nI 1).toNatClampNeg)
  refine lv_aload_n hx hb dL_law_564 rfl (lv_at hl 1 rfl) ?_
  refine lv_aload_n hx hb dL_law_565 rfl (lv_at hl 0 rfl) ?_
  refine lv_iload hx hb dL_law_566 (lv_at hl 4 rfl) ?_
  refine lv_iconst (v := nI 1) hx hb dL_law_568 (by decide) ?_
  refine lv_iadd hx hb dL_law_569 ?_
  refine va_sld hx hb hX hbl hbA hS (li_in (j := 1) hi hL (by omega)) dL_law_570 ?_
  refine xLp (va_runV (As := [.int (xs (nI i + nI 1).toNatClampNeg)]) (rest := []) ⟨hx, hb, hml, hown, hts⟩ (c_X2_ringed l D cI cJ cZ adx adc adn adt gx gc gn gt (xs (nI i + nI 1).toNatClampNeg) v h1 _) (cwV 1 hts gL_law_X2_ringed rfl rfl rfl (by decide +kernel) ⟨Nat.le_of_ble_eq_true rfl, Nat.le_of_ble_eq_true rfl⟩) ⟨PreW.blind, xRecv (q0 := 0) hK hP rfl rfl, xPrep hK hP hD _⟩ rfl rfl hl.1 rfl (lv_room (Nat.le_of_ble_eq_true rfl)) dL_law_571 ⟨Nat.le_trans (Nat.add_le_add_right hc1 _) (Nat.le_of_ble_eq_true rfl), Nat.le_trans (Nat.add_le_add_right hc2 _) (Nat.le_of_ble_eq_true rfl)⟩) hP hD hS hA (fun H locs hP hD hS => ?_)
  refine W.widen (k := 100 + 2 * K + 1) (n := 20000 + 12 * K + 6) (Nat.add_le_add_left (Nat.le_of_ble_eq_true rfl) _) (Nat.add_le_add_left (Nat.le_of_ble_eq_true rfl) _) ?_
  replace hP := P_perm perm_r hP
  replace hD := D_perm perm_r hD
  refine lv_aload_n hx hb dL_law_574 rfl (lv_at hl 2 rfl) ?_
  refine lv_aload_n hx hb dL_law_575 rfl (lv_at hl 0 rfl) ?_
  refine lv_iload hx hb dL_law_576 (lv_at hl 4 rfl) ?_
  refine lv_iconst (v := nI 1) hx hb dL_law_578 (by decide) ?_
  refine lv_iadd hx hb dL_law_579 ?_
  refine va_sld hx hb hX hbl hbA hS (li_in (j := 1) hi hL (by omega)) dL_law_580 ?_
  refine xLp (va_runV (As := [.int (xs (nI i + nI 1).toNatClampNeg)]) (rest := [.long (v)]) ⟨hx, hb, hml, hown, hts⟩ (c_X3_ringed l D cI cJ cZ adm m0 m1 m2 m3 m4 m5 m6 m7 m8 m9 m10 m11 m12 m13 m14 m15 m16 m17 m18 m19 m20 m21 m22 m23 m24 m25 m26 m27 (xs (nI i + nI 1).toNatClampNeg) (v, 0) h2 _) (cwV 1 hts gL_law_X3_ringed rfl rfl rfl (by decide +kernel) ⟨Nat.le_of_ble_eq_true rfl, Nat.le_of_ble_eq_true rfl⟩) ⟨PreW.blind, xRecv (q0 := 0) hK hP rfl rfl, xPrep hK hP hD _⟩ rfl rfl hl.1 rfl (lv_room (Nat.le_of_ble_eq_true rfl)) dL_law_581 ⟨Nat.le_trans (Nat.add_le_add_right hc3 _) (Nat.le_of_ble_eq_true rfl), Nat.le_trans (Nat.add_le_add_right hc4 _) (Nat.le_of_ble_eq_true rfl)⟩) hP hD hS hA (fun H locs hP hD hS => ?_)
  refine W.widen (k := 100 + 2 * (K + 1)) (n := 20000 + 12 * (K + 1)) (Nat.le_trans (Nat.add_le_add_left (show rmX3_ringed.cells ≤ 1 from Nat.le_of_ble_eq_true rfl) _) (by omega)) (Nat.le_trans (Nat.add_le_add_left (show rmX3_ringed.slots ≤ 6 from Nat.le_of_ble_eq_true rfl) _) (by omega)) ?_
  replace hP := P_perm perm_b hP
  replace hD := D_perm perm_b hD
  refine W.lcmp hx hb dL_law_584 ?_
  refine lv_if_eq (tgt := 862) hx hb dL_law_585 (by decide) (fun q => ?_) (fun q => absurd ((lg_cmp_eq _ _).mpr rfl) q)
  exact next _ _ _ _ _ _ _ _ _ _ _ _ _ _ _ _ _ _ _ _ _ _ _ _ _ _ _ _ _ _ _ _ _ _ _ _ _ _ hRR.mono hP hD hS hl
set_option maxHeartbeats 40000000 in
set_option maxRecDepth 100000 in
theorem law_c12 {p : Program} {l : Launch} {e : Env} {s : State} {m : MethodId} {below : List Frame} {meth : Method} {c : Code} {b : Nat} {D : va_G} {cI cJ cZ : ClassId} {adx adc adm : Nat → Nat} {qo : Nat} {L : Nat} {xs : Nat → Int32} {sa sb : Nat} (hC : LCx p l s m meth c b D cI cJ cZ L xs sa sb) {K i : Nat} (hK9 : K ≤ 511) (hi : i + 7 ≤ L) (next : LI p l e s m below meth c b D cI cJ cZ adx adc adm qo 862 (K + 1) (nI i)) : LI p l e s m below meth c b D cI cJ cZ adx adc adm qo 590 K (nI i) := by
  obtain ⟨hx, hb, hr, hml, hown, hts, hX, hbl, hlocks, hK, hTw, hU, hN, hst, hL⟩ := hC
  intro adn adt gx gc gn gt m0 m1 m2 m3 m4 m5 m6 m7 m8 m9 m10 m11 m12 m13 m14 m15 m16 m17 m18 m19 m20 m21 m22 m23 m24 m25 m26 m27 u H locs ls hRR hP hD hS hl
  have hA : ∀ q : Nat, s.heap.size ≤ q → (fun q : Nat => s.heap.size ≤ q) q := fun _ h => h
  have hbA : ¬ (fun q : Nat => s.heap.size ≤ q) b := Nat.not_le.mpr hbl
  have hc1 : 100 + 2 * K ≤ 1200 := by omega
  have hc2 : 20000 + 12 * K ≤ 30000 := by omega
  have hc3 : 100 + 2 * K + 1 ≤ 1300 := by omega
  have hc4 : 20000 + 12 * K + 6 ≤ 30100 := by omega
  have hc5 : 100 + 2 * K + 2 ≤ 1400 := by omega
  have hc6 : 20000 + 12 * K + 12 ≤ 30200 := by omega
  obtain ⟨o, o', h1, h2, h3, hR⟩ := R_drawer hRR (xs (nI i + nI 1).toNatClampNeg)
  refine lv_aload_n hx hb dL_law_590 rfl (lv_at hl 1 rfl) ?_
  refine lv_aload_n hx hb dL_law_591 rfl (lv_at hl 0 rfl) ?_
  refine lv_iload hx hb dL_law_592 (lv_at hl 4 rfl) ?_
  refine lv_iconst (v := nI 1) hx hb dL_law_594 (by decide) ?_
  refine lv_iadd hx hb dL_law_595 ?_
  refine va_sld hx hb hX hbl hbA hS (li_in (j := 1) hi hL (by omega)) dL_law_596 ?_
  refine xIp (va_runV (As := [.int (xs (nI i + nI 1).toNatClampNeg)]) (rest := []) ⟨hx, hb, hml, hown, hts⟩ (c_X2_drawer l D cI cJ cZ adx adc adn adt gx gc gn gt (xs (nI i + nI 1).toNatClampNeg) o h1 _) (cwV 1 hts gL_law_X2_drawer rfl rfl rfl (by decide +kernel) ⟨Nat.le_of_ble_eq_true rfl, Nat.le_of_ble_eq_true rfl⟩) ⟨PreW.blind, xRecv (q0 := 0) hK hP rfl rfl, xPrep hK hP hD _⟩ rfl rfl hl.1 rfl (lv_room (Nat.le_of_ble_eq_true rfl)) dL_law_597 ⟨Nat.le_trans (Nat.add_le_add_right hc1 _) (Nat.le_of_ble_eq_true rfl), Nat.le_trans (Nat.add_le_add_right hc2 _) (Nat.le_of_ble_eq_true rfl)⟩) hP hD hS hA (fun H locs hP hD hS => ?_)
  refine W.widen (k := 100 + 2 * K + 1) (n := 20000 + 12 * K + 6) (Nat.add_le_add_left (Nat.le_of_ble_eq_true rfl) _) (Nat.add_le_add_left (Nat.le_of_ble_eq_true rfl) _) ?_
  replace hP := P_perm perm_r hP
  replace hD := D_perm perm_r hD
  refine lv_aload_n hx hb dL_law_600 rfl (lv_at hl 2 rfl) ?_
  refine lv_aload_n hx hb dL_law_601 rfl (lv_at hl 0 rfl) ?_
  refine lv_iload hx hb dL_law_602 (lv_at hl 4 rfl) ?_
  refine lv_iconst (v := nI 1) hx hb dL_law_604 (by decide) ?_
  refine lv_iadd hx hb dL_law_605 ?_
  refine va_sld hx hb hX hbl hbA hS (li_in (j := 1) hi hL (by omega)) dL_law_606 ?_
  refine xIp (va_runV (As := [.int (xs (nI i + nI 1).toNatClampNeg)]) (rest := [.int (o.1)]) ⟨hx, hb, hml, hown, hts⟩ (c_X3_drawer l D cI cJ cZ adm m0 m1 m2 m3 m4 m5 m6 m7 m8 m9 m10 m11 m12 m13 m14 m15 m16 m17 m18 m19 m20 m21 m22 m23 m24 m25 m26 m27 (xs (nI i + nI 1).toNatClampNeg) o' h2 _) (cwV 1 hts gL_law_X3_drawer rfl rfl rfl (by decide +kernel) ⟨Nat.le_of_ble_eq_true rfl, Nat.le_of_ble_eq_true rfl⟩) ⟨PreW.blind, xRecv (q0 := 0) hK hP rfl rfl, xPrep hK hP hD _⟩ rfl rfl hl.1 rfl (lv_room (Nat.le_of_ble_eq_true rfl)) dL_law_607 ⟨Nat.le_trans (Nat.add_le_add_right hc3 _) (Nat.le_of_ble_eq_true rfl), Nat.le_trans (Nat.add_le_add_right hc4 _) (Nat.le_of_ble_eq_true rfl)⟩) hP hD hS hA (fun H locs hP hD hS => ?_)
  refine W.widen (k := 100 + 2 * (K + 1)) (n := 20000 + 12 * (K + 1)) (Nat.le_trans (Nat.add_le_add_left (show rmX3_drawer.cells ≤ 1 from Nat.le_of_ble_eq_true rfl) _) (by omega)) (Nat.le_trans (Nat.add_le_add_left (show rmX3_drawer.slots ≤ 6 from Nat.le_of_ble_eq_true rfl) _) (by omega)) ?_
  replace hP := P_perm perm_b hP
  replace hD := D_perm perm_b hD
  refine lv_icmp_eq (tgt := 862) hx hb dL_law_610 (by decide) (fun q => ?_) (fun q => absurd h3 q)
  exact next _ _ _ _ _ _ _ _ _ _ _ _ _ _ _ _ _ _ _ _ _ _ _ _ _ _ _ _ _ _ _ _ _ _ _ _ _ _ hR hP hD hS hl
set_option maxHeartbeats 40000000 in
set_option maxRecDepth 100000 in
theorem law_c13 {p : Program} {l : Launch} {e : Env} {s : State} {m : MethodId} {below : List Frame} {meth : Method} {c : Code} {b : Nat} {D : va_G} {cI cJ cZ : ClassId} {adx adc adm : Nat → Nat} {qo : Nat} {L : Nat} {xs : Nat → Int32} {sa sb : Nat} (hC : LCx p l s m meth c b D cI cJ cZ L xs sa sb) {K i : Nat} (hK9 : K ≤ 511) (hi : i + 7 ≤ L) (next : LI p l e s m below meth c b D cI cJ cZ adx adc adm qo 862 (K + 1) (nI i)) : LI p l e s m below meth c b D cI cJ cZ adx adc adm qo 615 K (nI i) := by
  obtain ⟨hx, hb, hr, hml, hown, hts, hX, hbl, hlocks, hK, hTw, hU, hN, hst, hL⟩ := hC
  intro adn adt gx gc gn gt m0 m1 m2 m3 m4 m5 m6 m7 m8 m9 m10 m11 m12 m13 m14 m15 m16 m17 m18 m19 m20 m21 m22 m23 m24 m25 m26 m27 u H locs ls hRR hP hD hS hl
  have hA : ∀ q : Nat, s.heap.size ≤ q → (fun q : Nat => s.heap.size ≤ q) q := fun _ h => h
  have hbA : ¬ (fun q : Nat => s.heap.size ≤ q) b := Nat.not_le.mpr hbl
  have hc1 : 100 + 2 * K ≤ 1200 := by omega
  have hc2 : 20000 + 12 * K ≤ 30000 := by omega
  have hc3 : 100 + 2 * K + 1 ≤ 1300 := by omega
  have hc4 : 20000 + 12 * K + 6 ≤ 30100 := by omega
  have hc5 : 100 + 2 * K + 2 ≤ 1400 := by omega
  have hc6 : 20000 + 12 * K + 12 ≤ 30200 := by omega
  obtain ⟨o, o', h1, h2, h3, hR⟩ := R_parts hRR m24 m25 (xs (nI i + nI 1).toNatClampNeg) (xs (nI i + nI 2).toNatClampNeg) (xs (nI i + nI 3).toNatClampNeg)
  refine lv_aload_n hx hb dL_law_615 rfl (lv_at hl 1 rfl) ?_
  refine lv_aload_n hx hb dL_law_616 rfl (lv_at hl 0 rfl) ?_
  refine lv_iload hx hb dL_law_617 (lv_at hl 4 rfl) ?_
  refine lv_iconst (v := nI 1) hx hb dL_law_619 (by decide) ?_
  refine lv_iadd hx hb dL_law_620 ?_
  refine va_sld hx hb hX hbl hbA hS (li_in (j := 1) hi hL (by omega)) dL_law_621 ?_
  refine lv_aload_n hx hb dL_law_622 rfl (lv_at hl 0 rfl) ?_
  refine lv_iload hx hb dL_law_623 (lv_at hl 4 rfl) ?_
  refine lv_iconst (v := nI 2) hx hb dL_law_625 (by decide) ?_
  refine lv_iadd hx hb dL_law_626 ?_
  refine va_sld hx hb hX hbl hbA hS (li_in (j := 2) hi hL (by omega)) dL_law_627 ?_
  refine lv_aload_n hx hb dL_law_628 rfl (lv_at hl 0 rfl) ?_
  refine lv_iload hx hb dL_law_629 (lv_at hl 4 rfl) ?_
  refine lv_iconst (v := nI 3) hx hb dL_law_631 (by decide) ?_
  refine lv_iadd hx hb dL_law_632 ?_
  refine va_sld hx hb hX hbl hbA hS (li_in (j := 3) hi hL (by omega)) dL_law_633 ?_
  refine xIp (va_runV (As := [.int (xs (nI i + nI 1).toNatClampNeg), .int (xs (nI i + nI 2).toNatClampNeg), .int (xs (nI i + nI 3).toNatClampNeg)]) (rest := []) ⟨hx, hb, hml, hown, hts⟩ (c_X2_parts l D cI cJ cZ adx adc adn adt gx gc gn gt (xs (nI i + nI 1).toNatClampNeg) (xs (nI i + nI 2).toNatClampNeg) (xs (nI i + nI 3).toNatClampNeg) o h1 _) (cwV 3 hts gL_law_X2_parts rfl rfl rfl (by decide +kernel) ⟨Nat.le_of_ble_eq_true rfl, Nat.le_of_ble_eq_true rfl⟩) ⟨PreW.blind, xRecv (q0 := 0) hK hP rfl rfl, xPrep hK hP hD _⟩ rfl rfl hl.1 rfl (lv_room (Nat.le_of_ble_eq_true rfl)) dL_law_634 ⟨Nat.le_trans (Nat.add_le_add_right hc1 _) (Nat.le_of_ble_eq_true rfl), Nat.le_trans (Nat.add_le_add_right hc2 _) (Nat.le_of_ble_eq_true rfl)⟩) hP hD hS hA (fun H locs hP hD hS => ?_)
  refine W.widen (k := 100 + 2 * K + 1) (n := 20000 + 12 * K + 6) (Nat.add_le_add_left (Nat.le_of_ble_eq_true rfl) _) (Nat.add_le_add_left (Nat.le_of_ble_eq_true rfl) _) ?_
  replace hP := P_perm perm_r hP
  replace hD := D_perm perm_r hD
  refine lv_aload_n hx hb dL_law_637 rfl (lv_at hl 2 rfl) ?_
  refine lv_aload_n hx hb dL_law_638 rfl (lv_at hl 0 rfl) ?_
  refine lv_iload hx hb dL_law_639 (lv_at hl 4 rfl) ?_
  refine lv_iconst (v := nI 1) hx hb dL_law_641 (by decide) ?_
  refine lv_iadd hx hb dL_law_642 ?_
  refine va_sld hx hb hX hbl hbA hS (li_in (j := 1) hi hL (by omega)) dL_law_643 ?_
  refine lv_aload_n hx hb dL_law_644 rfl (lv_at hl 0 rfl) ?_
  refine lv_iload hx hb dL_law_645 (lv_at hl 4 rfl) ?_
  refine lv_iconst (v := nI 2) hx hb dL_law_647 (by decide) ?_
  refine lv_iadd hx hb dL_law_648 ?_
  refine va_sld hx hb hX hbl hbA hS (li_in (j := 2) hi hL (by omega)) dL_law_649 ?_
  refine lv_aload_n hx hb dL_law_650 rfl (lv_at hl 0 rfl) ?_
  refine lv_iload hx hb dL_law_651 (lv_at hl 4 rfl) ?_
  refine lv_iconst (v := nI 3) hx hb dL_law_653 (by decide) ?_
  refine lv_iadd hx hb dL_law_654 ?_
  refine va_sld hx hb hX hbl hbA hS (li_in (j := 3) hi hL (by omega)) dL_law_655 ?_
  refine xIp (va_runV (As := [.int (xs (nI i + nI 1).toNatClampNeg), .int (xs (nI i + nI 2).toNatClampNeg), .int (xs (nI i + nI 3).toNatClampNeg)]) (rest := [.int (o.1)]) ⟨hx, hb, hml, hown, hts⟩ (c_X3_parts l D cI cJ cZ adm m0 m1 m2 m3 m4 m5 m6 m7 m8 m9 m10 m11 m12 m13 m14 m15 m16 m17 m18 m19 m20 m21 m22 m23 m24 m25 m26 m27 (xs (nI i + nI 1).toNatClampNeg) (xs (nI i + nI 2).toNatClampNeg) (xs (nI i + nI 3).toNatClampNeg) o' h2 _) (cwV 3 hts gL_law_X3_parts rfl rfl rfl (by decide +kernel) ⟨Nat.le_of_ble_eq_true rfl, Nat.le_of_ble_eq_true rfl⟩) ⟨PreW.blind, xRecv (q0 := 0) hK hP rfl rfl, xPrep hK hP hD _⟩ rfl rfl hl.1 rfl (lv_room (Nat.le_of_ble_eq_true rfl)) dL_law_656 ⟨Nat.le_trans (Nat.add_le_add_right hc3 _) (Nat.le_of_ble_eq_true rfl), Nat.le_trans (Nat.add_le_add_right hc4 _) (Nat.le_of_ble_eq_true rfl)⟩) hP hD hS hA (fun H locs hP hD hS => ?_)
  refine W.widen (k := 100 + 2 * (K + 1)) (n := 20000 + 12 * (K + 1)) (Nat.le_trans (Nat.add_le_add_left (show rmX3_parts.cells ≤ 1 from Nat.le_of_ble_eq_true rfl) _) (by omega)) (Nat.le_trans (Nat.add_le_add_left (show rmX3_parts.slots ≤ 6 from Nat.le_of_ble_eq_true rfl) _) (by omega)) ?_
  replace hP := P_perm perm_b hP
  replace hD := D_perm perm_b hD
  refine lv_icmp_eq (tgt := 862) hx hb dL_law_659 (by decide) (fun q => ?_) (fun q => absurd h3 q)
  exact next _ _ _ _ _ _ _ _ _ _ _ _ _ _ _ _ _ _ _ _ _ _ _ _ _ _ _ _ _ _ _ _ _ _ _ _ _ _ hR hP hD hS hl
