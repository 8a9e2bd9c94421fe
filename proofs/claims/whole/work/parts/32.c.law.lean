set_option maxHeartbeats 40000000 in
set_option maxRecDepth 100000 in
theorem law_c7 {p : Program} {l : Launch} {e : Env} {s : State} {m : MethodId} {below : List Frame} {meth : Method} {c : Code} {b : Nat} {D : va_G} {cI cJ cZ : ClassId} {adx adc adm : Nat → Nat} {qo : Nat} {L : Nat} {xs : Nat → Int32} {sa sb : Nat} (hC : LCx p l s m meth c b D cI cJ cZ L xs sa sb) {K i : Nat} (hK9 : K ≤ 511) (hi : i + 7 ≤ L) (next : LI p l e s m below meth c b D cI cJ cZ adx adc adm qo 862 (K + 1) (nI i)) : LI p l e s m below meth c b D cI cJ cZ adx adc adm qo 409 K (nI i) := by
  obtain ⟨hx, hb, hr, hml, hown, hts, hX, hbl, hlocks, hK, hTw, hU, hN, hst, hL⟩ := hC
  intro adn adt gx gc gn gt m0 m1 m2 m3 m4 m5 m6 m7 m8 m9 m10 m11 m12 m13 m14 m15 m16 m17 m18 m19 m20 m21 m22 m23 m24 m25 m26 m27 u H locs ls hRR hP hD hS hl
  have hA : ∀ q : Nat, s.heap.size ≤ q → (fun q : Nat => s.heap.size ≤ q) q := fun _ h => h
  have hbA : ¬ (fun q : Nat => s.heap.size ≤ q) b := Nat.not_le.mpr hbl
  have hc1 : 100 + 2 * K ≤ 1200 := by omega
  have hc2 : 20000 + 12 * K ≤ 30000 := by omega
  have hc3 : 100 + 2 * K + 1 ≤ 1300 := by omega
  have hc4 : 20000 + 12 * K + 6 ≤ 30100 := by omega
  have hc5 : 100 + 2 * K + 2 ≤ 1400 := by omega
  have hc6 : 20000 + 12 * K + 12 ≤ 30200 := by omega
  obtain ⟨o, v, w, x, y, h1, h2, h3⟩ := R_of hRR m24 m25 (xs (nI i + nI 1).toNatClampNeg) (xs (nI i + nI 2).toNatClampNeg)
  refine lv_aload_n hx hb dL_law_409 rfl (lv_at hl 1 rfl) ?_
  refine lv_aload_n hx hb dL_law_410 rfl (lv_at hl 0 rfl) ?_
  refine lv_iload hx hb dL_law_411 (lv_at hl 4 rfl) ?_
  refine lv_iconst (v := nI 1) hx hb dL_law_413 (by decide) ?_
  refine lv_iadd hx hb dL_law_414 ?_
  refine va_sld hx hb hX hbl hbA hS (li_in (j := 1) hi hL (by omega)) dL_law_415 ?_
  refine lv_aload_n hx hb dL_law_416 rfl (lv_at hl 0 rfl) ?_
  refine lv_iload hx hb dL_law_417 (lv_at hl 4 rfl) ?_
  refine lv_iconst (v := nI 2) hx hb dL_law_419 (by decide) ?_
  refine lv_iadd hx hb dL_law_420 ?_
  refine va_sld hx hb hX hbl hbA hS (li_in (j := 2) hi hL (by omega)) dL_law_421 ?_
  refine lv_aload_n hx hb dL_law_422 rfl (lv_at hl 3 rfl) ?_
  replace hP := P_perm perm_s hP
  replace hD := D_perm perm_s hD
  have hFc := pfx_free hD hS hA
  refine vx_calli (vx_runSX (As := [.ref (adx 0), .int (xs (nI i + nI 1).toNatClampNeg), .int (xs (nI i + nI 2).toNatClampNeg), .ref qo]) (rest := []) ⟨hx, hb, hml, hown, hts⟩ (c_L_of l hst D cI cJ cZ adx adc adn adt gx gc gn gt qo u (xs (nI i + nI 1).toNatClampNeg) (xs (nI i + nI 2).toNatClampNeg) sa sb o h1 _) (vx_cwSW 4 hts gL_law_L_of rfl rfl rfl (by decide +kernel) ⟨Nat.le_of_ble_eq_true rfl, Nat.le_of_ble_eq_true rfl⟩) ⟨PreT.blind, xPreTp hK hP hD hS hFc hTw hU hN _⟩ rfl rfl hl.1 rfl (lv_room (Nat.le_of_ble_eq_true rfl)) dL_law_423 ⟨Nat.le_trans (Nat.add_le_add_right hc1 _) (Nat.le_of_ble_eq_true rfl), Nat.le_trans (Nat.add_le_add_right hc2 _) (Nat.le_of_ble_eq_true rfl)⟩) hS (fun q _ h => hFc q h) hFc (fun q _ h => hFc q h) (fun E ce q9 u9 t H locs ht hvm hw => hw.elim) (fun r u9 t H locs ht hvm hw hB hz1 hk1 hS => ?_)
  subst hw
  obtain ⟨hP1, hD1⟩ := hB
  rw [ht] at hP1
  obtain ⟨hP2, hD2⟩ := pfx_join hP hD hFc hk1 hP1 hD1
  replace hP := P_perm perm_r (P_perm perm_s.symm hP2)
  replace hD := D_perm perm_r (D_perm perm_s.symm hD2)
  refine W.widen (k := 100 + 2 * K + 1) (n := 20000 + 12 * K + 6) (Nat.add_le_add_left (Nat.le_of_ble_eq_true rfl) _) (Nat.add_le_add_left (Nat.le_of_ble_eq_true rfl) _) ?_
  refine lv_istore (lv' := [(5, .int (oT o)), (0, .ref b), (1, .ref (adx 0)), (2, .ref (adm 0)), (3, .ref qo), (4, .int (nI i))]) hx hb dL_law_426 hl (by decide) rfl (fun ls hl => ?_)
  refine lv_aload_n hx hb dL_law_428 rfl (lv_at hl 3 rfl) ?_
  refine lv_aload_n hx hb dL_law_429 rfl (lv_at hl 1 rfl) ?_
  refine lv_iload hx hb dL_law_430 (lv_at hl 5 rfl) ?_
  refine lv_iconst (v := nI 1) hx hb dL_law_432 (by decide) ?_
  refine lv_iadd hx hb dL_law_433 ?_
  refine va_sld hx hb hX hbl hbA hS (li_in (j := 1) hi hL (by omega)) dL_law_434 ?_
  refine lv_aload_n hx hb dL_law_435 rfl (lv_at hl 1 rfl) ?_
  refine lv_iload hx hb dL_law_436 (lv_at hl 5 rfl) ?_
  refine lv_iconst (v := nI 2) hx hb dL_law_438 (by decide) ?_
  refine lv_iadd hx hb dL_law_439 ?_
  refine va_sld hx hb hX hbl hbA hS (li_in (j := 2) hi hL (by omega)) dL_law_440 ?_
  refine xIp (va_runV (As := [.int (xs (nI i + nI 1).toNatClampNeg), .int (xs (nI i + nI 2).toNatClampNeg)]) (rest := []) ⟨hx, hb, hml, hown, hts⟩ (c_X3_of l D cI cJ cZ adm m0 m1 m2 m3 m4 m5 m6 m7 m8 m9 m10 m11 m12 m13 m14 m15 m16 m17 m18 m19 m20 m21 m22 m23 m24 m25 m26 m27 (xs (nI i + nI 1).toNatClampNeg) (xs (nI i + nI 2).toNatClampNeg) (v, w, x, y) h2 _) (cwV 2 hts gL_law_X3_of rfl rfl rfl (by decide +kernel) ⟨Nat.le_of_ble_eq_true rfl, Nat.le_of_ble_eq_true rfl⟩) ⟨PreW.blind, xRecv (q0 := 0) hK hP rfl rfl, xPrep hK hP hD _⟩ rfl rfl hl.1 rfl (lv_room (Nat.le_of_ble_eq_true rfl)) dL_law_441 ⟨Nat.le_trans (Nat.add_le_add_right hc3 _) (Nat.le_of_ble_eq_true rfl), Nat.le_trans (Nat.add_le_add_right hc4 _) (Nat.le_of_ble_eq_true rfl)⟩) hP hD hS hA (fun H locs hP hD hS => ?_)
  refine W.widen (k := 100 + 2 * K + 2) (n := 20000 + 12 * K + 12) (Nat.le_trans (Nat.add_le_add_left (show rmX3_of.cells ≤ 1 from Nat.le_of_ble_eq_true rfl) _) (by omega)) (Nat.le_trans (Nat.add_le_add_left (show rmX3_of.slots ≤ 6 from Nat.le_of_ble_eq_true rfl) _) (by omega)) ?_
  refine lv_istore (lv' := [(6, .int v), (5, .int (oT o)), (0, .ref b), (1, .ref (adx 0)), (2, .ref (adm 0)), (3, .ref qo), (4, .int (nI i))]) hx hb dL_law_444 hl (by decide) rfl (fun ls hl => ?_)
  refine lv_aload_n hx hb dL_law_446 rfl (lv_at hl 4 rfl) ?_
  refine xIp (va_runV (As := []) (rest := []) ⟨hx, hb, hml, hown, hts⟩ (c_X3_thrown l D cI cJ cZ adm m0 m1 m2 m3 m4 m5 m6 m7 m8 m9 m10 m11 m12 m13 m14 m15 m16 m17 m18 m19 m20 m21 m22 w x y m26 m27 w rfl _) (cwV 0 hts gL_law_X3_thrown rfl rfl rfl (by decide +kernel) ⟨Nat.le_of_ble_eq_true rfl, Nat.le_of_ble_eq_true rfl⟩) ⟨PreW.blind, xRecv (q0 := 0) hK hP rfl rfl, xPrep hK hP hD _⟩ rfl rfl hl.1 rfl (lv_room (Nat.le_of_ble_eq_true rfl)) dL_law_447 ⟨Nat.le_trans (Nat.add_le_add_right hc5 _) (Nat.le_of_ble_eq_true rfl), Nat.le_trans (Nat.add_le_add_right hc6 _) (Nat.le_of_ble_eq_true rfl)⟩) hP hD hS hA (fun H locs hP hD hS => ?_)
  refine W.widen (k := 100 + 2 * (K + 1)) (n := 20000 + 12 * (K + 1)) (Nat.le_trans (Nat.add_le_add_left (show rmX3_thrown.cells ≤ 0 from Nat.le_of_ble_eq_true rfl) _) (by omega)) (Nat.le_trans (Nat.add_le_add_left (show rmX3_thrown.slots ≤ 0 from Nat.le_of_ble_eq_true rfl) _) (by omega)) ?_
  refine lv_iload hx hb dL_law_450 (lv_at hl 1 rfl) ?_
  have hwo : w = oT o := by
    rcases h3 with ⟨e1, e2⟩ | ⟨e1, e2⟩
    · rw [e1, e2]; rfl
    · rw [e1, e2]; rfl
  refine lv_icmp_eq (tgt := 457) hx hb dL_law_452 (by decide) (fun q => ?_) (fun q => absurd hwo q)
  refine lv_iload hx hb dL_law_457 (lv_at hl 1 rfl) ?_
  refine lv_if_ne (tgt := 474) hx hb dL_law_459 (by decide) (fun q1 => ?_) (fun q1 => ?_)
  · replace hP := P_perm perm_b hP
    replace hD := D_perm perm_b hD
    refine lv_goto (tgt := 862) hx hb dL_law_474 (by decide) ?_
    exact next _ _ _ _ _ _ _ _ _ _ _ _ _ _ _ _ _ _ _ _ _ _ _ _ _ _ _ _ _ _ _ _ _ _ _ _ _ _ hRR.mono hP hD hS (lv_sub hl [2, 3, 4, 5, 6] rfl)
  · rcases h3 with ⟨e1, e2⟩ | ⟨e1, e2⟩
    · exact absurd q1 (by rw [e1]; decide)
    · refine lv_aload_n hx hb dL_law_462 rfl (lv_at hl 5 rfl) ?_
      refine lv_iconst (v := nI 0) hx hb dL_law_463 (by decide) ?_
      replace hP := P_perm perm_r hP
      replace hD := D_perm perm_r hD
      refine va_lald hx hb hK.1 hP 0 1 rfl rfl (ib_in (show ib (nI 0) 1 = true by decide)) dL_law_464 ?_
      refine lv_iload hx hb dL_law_465 (lv_at hl 0 rfl) ?_
      refine lv_i2l hx hb dL_law_467 rfl ?_
      refine W.lcmp hx hb dL_law_468 ?_
      refine lv_if_eq (tgt := 474) hx hb dL_law_469 (by decide) (fun q2 => ?_) (fun q2 => absurd ((lg_cmp_eq _ _).mpr (by rw [e1]; rfl)) q2)
      replace hP := P_perm perm_r hP
      replace hD := D_perm perm_r hD
      refine lv_goto (tgt := 862) hx hb dL_law_474 (by decide) ?_
      exact next _ _ _ _ _ _ _ _ _ _ _ _ _ _ _ _ _ _ _ _ _ _ _ _ _ _ _ _ _ _ _ _ _ _ _ _ _ _ hRR.mono hP hD hS (lv_sub hl [2, 3, 4, 5, 6] rfl)
