set_option maxHeartbeats 40000000 in
set_option maxRecDepth 100000 in
theorem law_c1 {p : Program} {l : Launch} {e : Env} {s : State} {m : MethodId} {below : List Frame} {meth : Method} {c : Code} {b : Nat} {D : va_G} {cI cJ cZ : ClassId} {adx adc adm : Nat → Nat} {qo : Nat} {L : Nat} {xs : Nat → Int32} {sa sb : Nat} (hC : LCx p l s m meth c b D cI cJ cZ L xs sa sb) {K i : Nat} (hK9 : K ≤ 511) (hi : i + 7 ≤ L) (next : LI p l e s m below meth c b D cI cJ cZ adx adc adm qo 862 (K + 1) (nI i)) : LI p l e s m below meth c b D cI cJ cZ adx adc adm qo 197 K (nI i) := by
  obtain ⟨hx, hb, hr, hml, hown, hts, hX, hbl, hlocks, hK, hTw, hU, hN, hst, hL⟩ := hC
  intro adn adt gx gc gn gt m0 m1 m2 m3 m4 m5 m6 m7 m8 m9 m10 m11 m12 m13 m14 m15 m16 m17 m18 m19 m20 m21 m22 m23 m24 m25 m26 m27 u H locs ls hRR hP hD hS hl
  have hA : ∀ q : Nat, s.heap.size ≤ q → (fun q : Nat => s.heap.size ≤ q) q := fun _ h => h
  have hbA : ¬ (fun q : Nat => s.heap.size ≤ q) b := Nat.not_le.mpr hbl
  have hc1 : 100 + 2 * K ≤ 1200 := by omega
  have hc2 : 20000 + 12 * K ≤ 30000 := by omega
  have hc3 : 100 + 2 * K + 1 ≤ 1300 := by omega
  have hc4 : 20000 + 12 * K + 6 ≤ 30100 := by omega
  have hc5 : 100 + 2 * K + 2 ≤ 1400 := by omega
  have hc6 : 20000 + 12 * K + 12 ≤ 30200 := by omega
  obtain ⟨o, o', h1, h2, h3, hR⟩ := R_link hRR (xs (nI i + nI 1).toNatClampNeg) (xs (nI i + nI 2).toNatClampNeg) (xs (nI i + nI 3).toNatClampNeg) (xs (nI i + nI 4).toNatClampNeg) (xs (nI i + nI 5).toNatClampNeg) (xs (nI i + nI 6).toNatClampNeg)
  refine lv_aload_n hx hb dL_law_197 rfl (lv_at hl 1 rfl) ?_
  refine lv_aload_n hx hb dL_law_198 rfl (lv_at hl 0 rfl) ?_
  refine lv_iload hx hb dL_law_199 (lv_at hl 4 rfl) ?_
  refine lv_iconst (v := nI 1) hx hb dL_law_201 (by decide) ?_
  refine lv_iadd hx hb dL_law_202 ?_
  refine va_sld hx hb hX hbl hbA hS (li_in (j := 1) hi hL (by omega)) dL_law_203 ?_
  refine lv_aload_n hx hb dL_law_204 rfl (lv_at hl 0 rfl) ?_
  refine lv_iload hx hb dL_law_205 (lv_at hl 4 rfl) ?_
  refine lv_iconst (v := nI 2) hx hb dL_law_207 (by decide) ?_
  refine lv_iadd hx hb dL_law_208 ?_
  refine va_sld hx hb hX hbl hbA hS (li_in (j := 2) hi hL (by omega)) dL_law_209 ?_
  refine lv_aload_n hx hb dL_law_210 rfl (lv_at hl 0 rfl) ?_
  refine lv_iload hx hb dL_law_211 (lv_at hl 4 rfl) ?_
  refine lv_iconst (v := nI 3) hx hb dL_law_213 (by decide) ?_
  refine lv_iadd hx hb dL_law_214 ?_
  refine va_sld hx hb hX hbl hbA hS (li_in (j := 3) hi hL (by omega)) dL_law_215 ?_
  refine lv_aload_n hx hb dL_law_216 rfl (lv_at hl 0 rfl) ?_
  refine lv_iload hx hb dL_law_217 (lv_at hl 4 rfl) ?_
  refine lv_iconst (v := nI 4) hx hb dL_law_219 (by decide) ?_
  refine lv_iadd hx hb dL_law_220 ?_
  refine va_sld hx hb hX hbl hbA hS (li_in (j := 4) hi hL (by omega)) dL_law_221 ?_
  refine lv_aload_n hx hb dL_law_222 rfl (lv_at hl 0 rfl) ?_
  refine lv_iload hx hb dL_law_223 (lv_at hl 4 rfl) ?_
  refine lv_iconst (v := nI 5) hx hb dL_law_225 (by decide) ?_
  refine lv_iadd hx hb dL_law_226 ?_
  refine va_sld hx hb hX hbl hbA hS (li_in (j := 5) hi hL (by omega)) dL_law_227 ?_
  refine lv_aload_n hx hb dL_law_228 rfl (lv_at hl 0 rfl) ?_
  refine lv_iload hx hb dL_law_229 (lv_at hl 4 rfl) ?_
  refine lv_bipush (v := nI 6) hx hb dL_law_231 (by decide) ?_
  refine lv_iadd hx hb dL_law_233 ?_
  refine va_sld hx hb hX hbl hbA hS (li_in (j := 6) hi hL (by omega)) dL_law_234 ?_
  refine xIp (va_runV (As := [.int (xs (nI i + nI 1).toNatClampNeg), .int (xs (nI i + nI 2).toNatClampNeg), .int (xs (nI i + nI 3).toNatClampNeg), .int (xs (nI i + nI 4).toNatClampNeg), .int (xs (nI i + nI 5).toNatClampNeg), .int (xs (nI i + nI 6).toNatClampNeg)]) (rest := []) ⟨hx, hb, hml, hown, hts⟩ (c_X2_link l D cI cJ cZ adx adc adn adt gx gc gn gt (xs (nI i + nI 1).toNatClampNeg) (xs (nI i + nI 2).toNatClampNeg) (xs (nI i + nI 3).toNatClampNeg) (xs (nI i + nI 4).toNatClampNeg) (xs (nI i + nI 5).toNatClampNeg) (xs (nI i + nI 6).toNatClampNeg) o h1 _) (cwV 6 hts gL_law_X2_link rfl rfl rfl (by decide +kernel) ⟨Nat.le_of_ble_eq_true rfl, Nat.le_of_ble_eq_true rfl⟩) ⟨PreW.blind, xRecv (q0 := 0) hK hP rfl rfl, xPrep hK hP hD _⟩ rfl rfl hl.1 rfl (lv_room (Nat.le_of_ble_eq_true rfl)) dL_law_235 ⟨Nat.le_trans (Nat.add_le_add_right hc1 _) (Nat.le_of_ble_eq_true rfl), Nat.le_trans (Nat.add_le_add_right hc2 _) (Nat.le_of_ble_eq_true rfl)⟩) hP hD hS hA (fun H locs hP hD hS => ?_)
  refine W.widen (k := 100 + 2 * K + 1) (n := 20000 + 12 * K + 6) (Nat.add_le_add_left (Nat.le_of_ble_eq_true rfl) _) (Nat.add_le_add_left (Nat.le_of_ble_eq_true rfl) _) ?_
  replace hP := P_perm perm_r hP
  replace hD := D_perm perm_r hD
  refine lv_aload_n hx hb dL_law_238 rfl (lv_at hl 2 rfl) ?_
  refine lv_aload_n hx hb dL_law_239 rfl (lv_at hl 0 rfl) ?_
  refine lv_iload hx hb dL_law_240 (lv_at hl 4 rfl) ?_
  refine lv_iconst (v := nI 1) hx hb dL_law_242 (by decide) ?_
  refine lv_iadd hx hb dL_law_243 ?_
  refine va_sld hx hb hX hbl hbA hS (li_in (j := 1) hi hL (by omega)) dL_law_244 ?_
  refine lv_aload_n hx hb dL_law_245 rfl (lv_at hl 0 rfl) ?_
  refine lv_iload hx hb dL_law_246 (lv_at hl 4 rfl) ?_
  refine lv_iconst (v := nI 2) hx hb dL_law_248 (by decide) ?_
  refine lv_iadd hx hb dL_law_249 ?_
  refine va_sld hx hb hX hbl hbA hS (li_in (j := 2) hi hL (by omega)) dL_law_250 ?_
  refine lv_aload_n hx hb dL_law_251 rfl (lv_at hl 0 rfl) ?_
  refine lv_iload hx hb dL_law_252 (lv_at hl 4 rfl) ?_
  refine lv_iconst (v := nI 3) hx hb dL_law_254 (by decide) ?_
  refine lv_iadd hx hb dL_law_255 ?_
  refine va_sld hx hb hX hbl hbA hS (li_in (j := 3) hi hL (by omega)) dL_law_256 ?_
  refine lv_aload_n hx hb dL_law_257 rfl (lv_at hl 0 rfl) ?_
  refine lv_iload hx hb dL_law_258 (lv_at hl 4 rfl) ?_
  refine lv_iconst (v := nI 4) hx hb dL_law_260 (by decide) ?_
  refine lv_iadd hx hb dL_law_261 ?_
  refine va_sld hx hb hX hbl hbA hS (li_in (j := 4) hi hL (by omega)) dL_law_262 ?_
  refine lv_aload_n hx hb dL_law_263 rfl (lv_at hl 0 rfl) ?_
  refine lv_iload hx hb dL_law_264 (lv_at hl 4 rfl) ?_
  refine lv_iconst (v := nI 5) hx hb dL_law_266 (by decide) ?_
  refine lv_iadd hx hb dL_law_267 ?_
  refine va_sld hx hb hX hbl hbA hS (li_in (j := 5) hi hL (by omega)) dL_law_268 ?_
  refine lv_aload_n hx hb dL_law_269 rfl (lv_at hl 0 rfl) ?_
  refine lv_iload hx hb dL_law_270 (lv_at hl 4 rfl) ?_
  refine lv_bipush (v := nI 6) hx hb dL_law_272 (by decide) ?_
  refine lv_iadd hx hb dL_law_274 ?_
  refine va_sld hx hb hX hbl hbA hS (li_in (j := 6) hi hL (by omega)) dL_law_275 ?_
  refine xIp (va_runV (As := [.int (xs (nI i + nI 1).toNatClampNeg), .int (xs (nI i + nI 2).toNatClampNeg), .int (xs (nI i + nI 3).toNatClampNeg), .int (xs (nI i + nI 4).toNatClampNeg), .int (xs (nI i + nI 5).toNatClampNeg), .int (xs (nI i + nI 6).toNatClampNeg)]) (rest := [.int (o.1)]) ⟨hx, hb, hml, hown, hts⟩ (c_X3_link l D cI cJ cZ adm m0 m1 m2 m3 m4 m5 m6 m7 m8 m9 m10 m11 m12 m13 m14 m15 m16 m17 m18 m19 m20 m21 m22 m23 m24 m25 m26 m27 (xs (nI i + nI 1).toNatClampNeg) (xs (nI i + nI 2).toNatClampNeg) (xs (nI i + nI 3).toNatClampNeg) (xs (nI i + nI 4).toNatClampNeg) (xs (nI i + nI 5).toNatClampNeg) (xs (nI i + nI 6).toNatClampNeg) o' h2 _) (cwV 6 hts gL_law_X3_link rfl rfl rfl (by decide +kernel) ⟨Nat.le_of_ble_eq_true rfl, Nat.le_of_ble_eq_true rfl⟩) ⟨PreW.blind, xRecv (q0 := 0) hK hP rfl rfl, xPrep hK hP hD _⟩ rfl rfl hl.1 rfl (lv_room (Nat.le_of_ble_eq_true rfl)) dL_law_276 ⟨Nat.le_trans (Nat.add_le_add_right hc3 _) (Nat.le_of_ble_eq_true rfl), Nat.le_trans (Nat.add_le_add_right hc4 _) (Nat.le_of_ble_eq_true rfl)⟩) hP hD hS hA (fun H locs hP hD hS => ?_)
  refine W.widen (k := 100 + 2 * (K + 1)) (n := 20000 + 12 * (K + 1)) (Nat.le_trans (Nat.add_le_add_left (show rmX3_link.cells ≤ 1 from Nat.le_of_ble_eq_true rfl) _) (by omega)) (Nat.le_trans (Nat.add_le_add_left (show rmX3_link.slots ≤ 6 from Nat.le_of_ble_eq_true rfl) _) (by omega)) ?_
  replace hP := P_perm perm_b hP
  replace hD := D_perm perm_b hD
  refine lv_icmp_eq (tgt := 862) hx hb dL_law_279 (by decide) (fun q => ?_) (fun q => absurd h3 q)
  exact next _ _ _ _ _ _ _ _ _ _ _ _ _ _ _ _ _ _ _ _ _ _ _ _ _ _ _ _ _ _ _ _ _ _ _ _ _ _ hR hP hD hS hl
set_option maxHeartbeats 40000000 in
set_option maxRecDepth 100000 in
theorem law_c3 {p : Program} {l : Launch} {e : Env} {s : State} {m : MethodId} {below : List Frame} {meth : Method} {c : Code} {b : Nat} {D : va_G} {cI cJ cZ : ClassId} {adx adc adm : Nat → Nat} {qo : Nat} {L : Nat} {xs : Nat → Int32} {sa sb : Nat} (hC : LCx p l s m meth c b D cI cJ cZ L xs sa sb) {K i : Nat} (hK9 : K ≤ 511) (hi : i + 7 ≤ L) (next : LI p l e s m below meth c b D cI cJ cZ adx adc adm qo 862 (K + 1) (nI i)) : LI p l e s m below meth c b D cI cJ cZ adx adc adm qo 297 K (nI i) := by
  obtain ⟨hx, hb, hr, hml, hown, hts, hX, hbl, hlocks, hK, hTw, hU, hN, hst, hL⟩ := hC
  intro adn adt gx gc gn gt m0 m1 m2 m3 m4 m5 m6 m7 m8 m9 m10 m11 m12 m13 m14 m15 m16 m17 m18 m19 m20 m21 m22 m23 m24 m25 m26 m27 u H locs ls hRR hP hD hS hl
  have hA : ∀ q : Nat, s.heap.size ≤ q → (fun q : Nat => s.heap.size ≤ q) q := fun _ h => h
  have hbA : ¬ (fun q : Nat => s.heap.size ≤ q) b := Nat.not_le.mpr hbl
  have hc1 : 100 + 2 * K ≤ 1200 := by omega
  have hc2 : 20000 + 12 * K ≤ 30000 := by omega
  have hc3 : 100 + 2 * K + 1 ≤ 1300 := by omega
  have hc4 : 20000 + 12 * K + 6 ≤ 30100 := by omega
  have hc5 : 100 + 2 * K + 2 ≤ 1400 := by omega
  have hc6 : 20000 + 12 * K + 12 ≤ 30200 := by omega
  obtain ⟨o, o', h1, h2, h3, hR⟩ := R_reset hRR
  refine lv_aload_n hx hb dL_law_297 rfl (lv_at hl 1 rfl) ?_
  refine xIp (va_runV (As := []) (rest := []) ⟨hx, hb, hml, hown, hts⟩ (c_X2_reset l D cI cJ cZ adx adc adn adt gx gc gn gt  o h1 _) (cwV 0 hts gL_law_X2_reset rfl rfl rfl (by decide +kernel) ⟨Nat.le_of_ble_eq_true rfl, Nat.le_of_ble_eq_true rfl⟩) ⟨PreW.blind, xRecv (q0 := 0) hK hP rfl rfl, xPrep hK hP hD _⟩ rfl rfl hl.1 rfl (lv_room (Nat.le_of_ble_eq_true rfl)) dL_law_298 ⟨Nat.le_trans (Nat.add_le_add_right hc1 _) (Nat.le_of_ble_eq_true rfl), Nat.le_trans (Nat.add_le_add_right hc2 _) (Nat.le_of_ble_eq_true rfl)⟩) hP hD hS hA (fun H locs hP hD hS => ?_)
  refine W.widen (k := 100 + 2 * K + 1) (n := 20000 + 12 * K + 6) (Nat.add_le_add_left (Nat.le_of_ble_eq_true rfl) _) (Nat.add_le_add_left (Nat.le_of_ble_eq_true rfl) _) ?_
  replace hP := P_perm perm_r hP
  replace hD := D_perm perm_r hD
  refine lv_aload_n hx hb dL_law_301 rfl (lv_at hl 2 rfl) ?_
  refine xIp (va_runV (As := []) (rest := [.int (o.1)]) ⟨hx, hb, hml, hown, hts⟩ (c_X3_reset l D cI cJ cZ adm m0 m1 m2 m3 m4 m5 m6 m7 m8 m9 m10 m11 m12 m13 m14 m15 m16 m17 m18 m19 m20 m21 m22 m23 m24 m25 m26 m27  o' h2 _) (cwV 0 hts gL_law_X3_reset rfl rfl rfl (by decide +kernel) ⟨Nat.le_of_ble_eq_true rfl, Nat.le_of_ble_eq_true rfl⟩) ⟨PreW.blind, xRecv (q0 := 0) hK hP rfl rfl, xPrep hK hP hD _⟩ rfl rfl hl.1 rfl (lv_room (Nat.le_of_ble_eq_true rfl)) dL_law_302 ⟨Nat.le_trans (Nat.add_le_add_right hc3 _) (Nat.le_of_ble_eq_true rfl), Nat.le_trans (Nat.add_le_add_right hc4 _) (Nat.le_of_ble_eq_true rfl)⟩) hP hD hS hA (fun H locs hP hD hS => ?_)
  refine W.widen (k := 100 + 2 * (K + 1)) (n := 20000 + 12 * (K + 1)) (Nat.le_trans (Nat.add_le_add_left (show rmX3_reset.cells ≤ 1 from Nat.le_of_ble_eq_true rfl) _) (by omega)) (Nat.le_trans (Nat.add_le_add_left (show rmX3_reset.slots ≤ 6 from Nat.le_of_ble_eq_true rfl) _) (by omega)) ?_
  replace hP := P_perm perm_b hP
  replace hD := D_perm perm_b hD
  refine lv_icmp_eq (tgt := 862) hx hb dL_law_305 (by decide) (fun q => ?_) (fun q => absurd h3 q)
  exact next _ _ _ _ _ _ _ _ _ _ _ _ _ _ _ _ _ _ _ _ _ _ _ _ _ _ _ _ _ _ _ _ _ _ _ _ _ _ hR hP hD hS hl
set_option maxHeartbeats 40000000 in
set_option maxRecDepth 100000 in
theorem law_c4 {p : Program} {l : Launch} {e : Env} {s : State} {m : MethodId} {below : List Frame} {meth : Method} {c : Code} {b : Nat} {D : va_G} {cI cJ cZ : ClassId} {adx adc adm : Nat → Nat} {qo : Nat} {L : Nat} {xs : Nat → Int32} {sa sb : Nat} (hC : LCx p l s m meth c b D cI cJ cZ L xs sa sb) {K i : Nat} (hK9 : K ≤ 511) (hi : i + 7 ≤ L) (next : LI p l e s m below meth c b D cI cJ cZ adx adc adm qo 862 (K + 1) (nI i)) : LI p l e s m below meth c b D cI cJ cZ adx adc adm qo 310 K (nI i) := by
  obtain ⟨hx, hb, hr, hml, hown, hts, hX, hbl, hlocks, hK, hTw, hU, hN, hst, hL⟩ := hC
  intro adn adt gx gc gn gt m0 m1 m2 m3 m4 m5 m6 m7 m8 m9 m10 m11 m12 m13 m14 m15 m16 m17 m18 m19 m20 m21 m22 m23 m24 m25 m26 m27 u H locs ls hRR hP hD hS hl
  have hA : ∀ q : Nat, s.heap.size ≤ q → (fun q : Nat => s.heap.size ≤ q) q := fun _ h => h
  have hbA : ¬ (fun q : Nat => s.heap.size ≤ q) b := Nat.not_le.mpr hbl
  have hc1 : 100 + 2 * K ≤ 1200 := by omega
  have hc2 : 20000 + 12 * K ≤ 30000 := by omega
  have hc3 : 100 + 2 * K + 1 ≤ 1300 := by omega
  have hc4 : 20000 + 12 * K + 6 ≤ 30100 := by omega
  have hc5 : 100 + 2 * K + 2 ≤ 1400 := by omega
  have hc6 : 20000 + 12 * K + 12 ≤ 30200 := by omega
  obtain ⟨o, o', h1, h2, h3, hR⟩ := R_set hRR (xs (nI i + nI 1).toNatClampNeg) (xs (nI i + nI 2).toNatClampNeg) (xs (nI i + nI 3).toNatClampNeg)
  refine lv_aload_n hx hb dL_law_310 rfl (lv_at hl 1 rfl) ?_
  refine lv_aload_n hx hb dL_law_311 rfl (lv_at hl 0 rfl) ?_
  refine lv_iload hx hb dL_law_312 (lv_at hl 4 rfl) ?_
  refine lv_iconst (v := nI 1) hx hb dL_law_314 (by decide) ?_
  refine lv_iadd hx hb dL_law_315 ?_
  refine va_sld hx hb hX hbl hbA hS (li_in (j := 1) hi hL (by omega)) dL_law_316 ?_
  refine lv_aload_n hx hb dL_law_317 rfl (lv_at hl 0 rfl) ?_
  refine lv_iload hx hb dL_law_318 (lv_at hl 4 rfl) ?_
  refine lv_iconst (v := nI 2) hx hb dL_law_320 (by decide) ?_
  refine lv_iadd hx hb dL_law_321 ?_
  refine va_sld hx hb hX hbl hbA hS (li_in (j := 2) hi hL (by omega)) dL_law_322 ?_
  refine lv_aload_n hx hb dL_law_323 rfl (lv_at hl 0 rfl) ?_
  refine lv_iload hx hb dL_law_324 (lv_at hl 4 rfl) ?_
  refine lv_iconst (v := nI 3) hx hb dL_law_326 (by decide) ?_
  refine lv_iadd hx hb dL_law_327 ?_
  refine va_sld hx hb hX hbl hbA hS (li_in (j := 3) hi hL (by omega)) dL_law_328 ?_
  refine xIp (va_runV (As := [.int (xs (nI i + nI 1).toNatClampNeg), .int (xs (nI i + nI 2).toNatClampNeg), .int (xs (nI i + nI 3).toNatClampNeg)]) (rest := []) ⟨hx, hb, hml, hown, hts⟩ (c_X2_set l D cI cJ cZ adx adc adn adt gx gc gn gt (xs (nI i + nI 1).toNatClampNeg) (xs (nI i + nI 2).toNatClampNeg) (xs (nI i + nI 3).toNatClampNeg) o h1 _) (cwV 3 hts gL_law_X2_set rfl rfl rfl (by decide +kernel) ⟨Nat.le_of_ble_eq_true rfl, Nat.le_of_ble_eq_true rfl⟩) ⟨PreW.blind, xRecv (q0 := 0) hK hP rfl rfl, xPrep hK hP hD _⟩ rfl rfl hl.1 rfl (lv_room (Nat.le_of_ble_eq_true rfl)) dL_law_329 ⟨Nat.le_trans (Nat.add_le_add_right hc1 _) (Nat.le_of_ble_eq_true rfl), Nat.le_trans (Nat.add_le_add_right hc2 _) (Nat.le_of_ble_eq_true rfl)⟩) hP hD hS hA (fun H locs hP hD hS => ?_)
  refine W.widen (k := 100 + 2 * K + 1) (n := 20000 + 12 * K + 6) (Nat.add_le_add_left (Nat.le_of_ble_eq_true rfl) _) (Nat.add_le_add_left (Nat.le_of_ble_eq_true rfl) _) ?_
  replace hP := P_perm perm_r hP
  replace hD := D_perm perm_r hD
  refine lv_aload_n hx hb dL_law_332 rfl (lv_at hl 2 rfl) ?_
  refine lv_aload_n hx hb dL_law_333 rfl (lv_at hl 0 rfl) ?_
  refine lv_iload hx hb dL_law_334 (lv_at hl 4 rfl) ?_
  refine lv_iconst (v := nI 1) hx hb dL_law_336 (by decide) ?_
  refine lv_iadd hx hb dL_law_337 ?_
  refine va_sld hx hb hX hbl hbA hS (li_in (j := 1) hi hL (by omega)) dL_law_338 ?_
  refine lv_aload_n hx hb dL_law_339 rfl (lv_at hl 0 rfl) ?_
  refine lv_iload hx hb dL_law_340 (lv_at hl 4 rfl) ?_
  refine lv_iconst (v := nI 2) hx hb dL_law_342 (by decide) ?_
  refine lv_iadd hx hb dL_law_343 ?_
  refine va_sld hx hb hX hbl hbA hS (li_in (j := 2) hi hL (by omega)) dL_law_344 ?_
  refine lv_aload_n hx hb dL_law_345 rfl (lv_at hl 0 rfl) ?_
  refine lv_iload hx hb dL_law_346 (lv_at hl 4 rfl) ?_
  refine lv_iconst (v := nI 3) hx hb dL_law_348 (by decide) ?_
  refine lv_iadd hx hb dL_law_349 ?_
  refine va_sld hx hb hX hbl hbA hS (li_in (j := 3) hi hL (by omega)) dL_law_350 ?_
  refine xIp (va_runV (As := [.int (xs (nI i + nI 1).toNatClampNeg), .int (xs (nI i + nI 2).toNatClampNeg), .int (xs (nI i + nI 3).toNatClampNeg)]) (rest := [.int (o.1)]) ⟨hx, hb, hml, hown, hts⟩ (c_X3_set l D cI cJ cZ adm m0 m1 m2 m3 m4 m5 m6 m7 m8 m9 m10 m11 m12 m13 m14 m15 m16 m17 m18 m19 m20 m21 m22 m23 m24 m25 m26 m27 (xs (nI i + nI 1).toNatClampNeg) (xs (nI i + nI 2).toNatClampNeg) (xs (nI i + nI 3).toNatClampNeg) o' h2 _) (cwV 3 hts gL_law_X3_set rfl rfl rfl (by decide +kernel) ⟨Nat.le_of_ble_eq_true rfl, Nat.le_of_ble_eq_true rfl⟩) ⟨PreW.blind, xRecv (q0 := 0) hK hP rfl rfl, xPrep hK hP hD _⟩ rfl rfl hl.1 rfl (lv_room (Nat.le_of_ble_eq_true rfl)) dL_law_351 ⟨Nat.le_trans (Nat.add_le_add_right hc3 _) (Nat.le_of_ble_eq_true rfl), Nat.le_trans (Nat.add_le_add_right hc4 _) (Nat.le_of_ble_eq_true rfl)⟩) hP hD hS hA (fun H locs hP hD hS => ?_)
  refine W.widen (k := 100 + 2 * (K + 1)) (n := 20000 + 12 * (K + 1)) (Nat.le_trans (Nat.add_le_add_left (show rmX3_set.cells ≤ 1 from Nat.le_of_ble_eq_true rfl) _) (by omega)) (Nat.le_trans (Nat.add_le_add_left (show rmX3_set.slots ≤ 6 from Nat.le_of_ble_eq_true rfl) _) (by omega)) ?_
  replace hP := P_perm perm_b hP
  replace hD := D_perm perm_b hD
  refine lv_icmp_eq (tgt := 862) hx hb dL_law_354 (by decide) (fun q => ?_) (fun q => absurd h3 q)
  exact next _ _ _ _ _ _ _ _ _ _ _ _ _ _ _ _ _ _ _ _ _ _ _ _ _ _ _ _ _ _ _ _ _ _ _ _ _ _ hR hP hD hS hl
set_option maxHeartbeats 40000000 in
set_option maxRecDepth 100000 in
theorem law_c5 {p : Program} {l : Launch} {e : Env} {s : State} {m : MethodId} {below : List Frame} {meth : Method} {c : Code} {b : Nat} {D : va_G} {cI cJ cZ : ClassId} {adx adc adm : Nat → Nat} {qo : Nat} {L : Nat} {xs : Nat → Int32} {sa sb : Nat} (hC : LCx p l s m meth c b D cI cJ cZ L xs sa sb) {K i : Nat} (hK9 : K ≤ 511) (hi : i + 7 ≤ L) (next : LI p l e s m below meth c b D cI cJ cZ adx adc adm qo 862 (K + 1) (nI i)) : LI p l e s m below meth c b D cI cJ cZ adx adc adm qo 359 K (nI i) := by
  obtain ⟨hx, hb, hr, hml, hown, hts, hX, hbl, hlocks, hK, hTw, hU, hN, hst, hL⟩ := hC
  intro adn adt gx gc gn gt m0 m1 m2 m3 m4 m5 m6 m7 m8 m9 m10 m11 m12 m13 m14 m15 m16 m17 m18 m19 m20 m21 m22 m23 m24 m25 m26 m27 u H locs ls hRR hP hD hS hl
  have hA : ∀ q : Nat, s.heap.size ≤ q → (fun q : Nat => s.heap.size ≤ q) q := fun _ h => h
  have hbA : ¬ (fun q : Nat => s.heap.size ≤ q) b := Nat.not_le.mpr hbl
  have hc1 : 100 + 2 * K ≤ 1200 := by omega
  have hc2 : 20000 + 12 * K ≤ 30000 := by omega
  have hc3 : 100 + 2 * K + 1 ≤ 1300 := by omega
  have hc4 : 20000 + 12 * K + 6 ≤ 30100 := by omega
  have hc5 : 100 + 2 * K + 2 ≤ 1400 := by omega
  have hc6 : 20000 + 12 * K + 12 ≤ 30200 := by omega
  obtain ⟨o, o', h1, h2, h3, -, hR⟩ := R_run hRR (by omega) trivial m8 adn adt m24 m25 m26 m27 (xs (nI i + nI 1).toNatClampNeg)
  refine lv_aload_n hx hb dL_law_359 rfl (lv_at hl 1 rfl) ?_
  refine lv_aload_n hx hb dL_law_360 rfl (lv_at hl 0 rfl) ?_
  refine lv_iload hx hb dL_law_361 (lv_at hl 4 rfl) ?_
  refine lv_iconst (v := nI 1) hx hb dL_law_363 (by decide) ?_
  refine lv_iadd hx hb dL_law_364 ?_
  refine va_sld hx hb hX hbl hbA hS (li_in (j := 1) hi hL (by omega)) dL_law_365 ?_
  refine xIp (va_runV (As := [.int (xs (nI i + nI 1).toNatClampNeg)]) (rest := []) ⟨hx, hb, hml, hown, hts⟩ (c_X2_run l D cI cJ cZ adx adc adn adt gx gc gn gt (xs (nI i + nI 1).toNatClampNeg) o h1 _) (cwV 1 hts gL_law_X2_run rfl rfl rfl (by decide +kernel) ⟨Nat.le_of_ble_eq_true rfl, Nat.le_of_ble_eq_true rfl⟩) ⟨PreW.blind, xRecv (q0 := 0) hK hP rfl rfl, xPrep hK hP hD _⟩ rfl rfl hl.1 rfl (lv_room (Nat.le_of_ble_eq_true rfl)) dL_law_366 ⟨Nat.le_trans (Nat.add_le_add_right hc1 _) (Nat.le_of_ble_eq_true rfl), Nat.le_trans (Nat.add_le_add_right hc2 _) (Nat.le_of_ble_eq_true rfl)⟩) hP hD hS hA (fun H locs hP hD hS => ?_)
  refine W.widen (k := 100 + 2 * K + 1) (n := 20000 + 12 * K + 6) (Nat.add_le_add_left (Nat.le_of_ble_eq_true rfl) _) (Nat.add_le_add_left (Nat.le_of_ble_eq_true rfl) _) ?_
  replace hP := P_perm perm_r hP
  replace hD := D_perm perm_r hD
  refine lv_aload_n hx hb dL_law_369 rfl (lv_at hl 2 rfl) ?_
  refine lv_aload_n hx hb dL_law_370 rfl (lv_at hl 0 rfl) ?_
  refine lv_iload hx hb dL_law_371 (lv_at hl 4 rfl) ?_
  refine lv_iconst (v := nI 1) hx hb dL_law_373 (by decide) ?_
  refine lv_iadd hx hb dL_law_374 ?_
  refine va_sld hx hb hX hbl hbA hS (li_in (j := 1) hi hL (by omega)) dL_law_375 ?_
  refine xIp (va_runV (As := [.int (xs (nI i + nI 1).toNatClampNeg)]) (rest := [.int (o.1)]) ⟨hx, hb, hml, hown, hts⟩ (c_X3_run l D cI cJ cZ adm m0 m1 m2 m3 m4 m5 m6 m7 m8 m9 m10 m11 m12 m13 m14 m15 m16 m17 m18 m19 m20 m21 m22 m23 m24 m25 m26 m27 (xs (nI i + nI 1).toNatClampNeg) o' h2 _) (cwV 1 hts gL_law_X3_run rfl rfl rfl (by decide +kernel) ⟨Nat.le_of_ble_eq_true rfl, Nat.le_of_ble_eq_true rfl⟩) ⟨PreW.blind, xRecv (q0 := 0) hK hP rfl rfl, xPrep hK hP hD _⟩ rfl rfl hl.1 rfl (lv_room (Nat.le_of_ble_eq_true rfl)) dL_law_376 ⟨Nat.le_trans (Nat.add_le_add_right hc3 _) (Nat.le_of_ble_eq_true rfl), Nat.le_trans (Nat.add_le_add_right hc4 _) (Nat.le_of_ble_eq_true rfl)⟩) hP hD hS hA (fun H locs hP hD hS => ?_)
  refine W.widen (k := 100 + 2 * (K + 1)) (n := 20000 + 12 * (K + 1)) (Nat.le_trans (Nat.add_le_add_left (show rmX3_run.cells ≤ 1 from Nat.le_of_ble_eq_true rfl) _) (by omega)) (Nat.le_trans (Nat.add_le_add_left (show rmX3_run.slots ≤ 6 from Nat.le_of_ble_eq_true rfl) _) (by omega)) ?_
  replace hP := P_perm perm_b hP
  replace hD := D_perm perm_b hD
  refine lv_icmp_eq (tgt := 862) hx hb dL_law_379 (by decide) (fun q => ?_) (fun q => absurd h3 q)
  exact next _ _ _ _ _ _ _ _ _ _ _ _ _ _ _ _ _ _ _ _ _ _ _ _ _ _ _ _ _ _ _ _ _ _ _ _ _ _ hR hP hD hS hl
set_option maxHeartbeats 40000000 in
set_option maxRecDepth 100000 in
theorem law_c6 {p : Program} {l : Launch} {e : Env} {s : State} {m : MethodId} {below : List Frame} {meth : Method} {c : Code} {b : Nat} {D : va_G} {cI cJ cZ : ClassId} {adx adc adm : Nat → Nat} {qo : Nat} {L : Nat} {xs : Nat → Int32} {sa sb : Nat} (hC : LCx p l s m meth c b D cI cJ cZ L xs sa sb) {K i : Nat} (hK9 : K ≤ 511) (hi : i + 7 ≤ L) (next : LI p l e s m below meth c b D cI cJ cZ adx adc adm qo 862 (K + 1) (nI i)) : LI p l e s m below meth c b D cI cJ cZ adx adc adm qo 384 K (nI i) := by
  obtain ⟨hx, hb, hr, hml, hown, hts, hX, hbl, hlocks, hK, hTw, hU, hN, hst, hL⟩ := hC
  intro adn adt gx gc gn gt m0 m1 m2 m3 m4 m5 m6 m7 m8 m9 m10 m11 m12 m13 m14 m15 m16 m17 m18 m19 m20 m21 m22 m23 m24 m25 m26 m27 u H locs ls hRR hP hD hS hl
  have hA : ∀ q : Nat, s.heap.size ≤ q → (fun q : Nat => s.heap.size ≤ q) q := fun _ h => h
  have hbA : ¬ (fun q : Nat => s.heap.size ≤ q) b := Nat.not_le.mpr hbl
  have hc1 : 100 + 2 * K ≤ 1200 := by omega
  have hc2 : 20000 + 12 * K ≤ 30000 := by omega
  have hc3 : 100 + 2 * K + 1 ≤ 1300 := by omega
  have hc4 : 20000 + 12 * K + 6 ≤ 30100 := by omega
  have hc5 : 100 + 2 * K + 2 ≤ 1400 := by omega
  have hc6 : 20000 + 12 * K + 12 ≤ 30200 := by omega
  obtain ⟨o, o', h1, h2, h3, hR⟩ := R_count hRR m8 m9 m24 m25 m26 m27 (xs (nI i + nI 1).toNatClampNeg)
  refine lv_aload_n hx hb dL_law_384 rfl (lv_at hl 1 rfl) ?_
  refine lv_aload_n hx hb dL_law_385 rfl (lv_at hl 0 rfl) ?_
  refine lv_iload hx hb dL_law_386 (lv_at hl 4 rfl) ?_
  refine lv_iconst (v := nI 1) hx hb dL_law_388 (by decide) ?_
  refine lv_iadd hx hb dL_law_389 ?_
  refine va_sld hx hb hX hbl hbA hS (li_in (j := 1) hi hL (by omega)) dL_law_390 ?_
  refine xIp (va_runV (As := [.int (xs (nI i + nI 1).toNatClampNeg)]) (rest := []) ⟨hx, hb, hml, hown, hts⟩ (c_X2_count l D cI cJ cZ adx adc adn adt gx gc gn gt (xs (nI i + nI 1).toNatClampNeg) o h1 _) (cwV 1 hts gL_law_X2_count rfl rfl rfl (by decide +kernel) ⟨Nat.le_of_ble_eq_true rfl, Nat.le_of_ble_eq_true rfl⟩) ⟨PreW.blind, xRecv (q0 := 0) hK hP rfl rfl, xPrep hK hP hD _⟩ rfl rfl hl.1 rfl (lv_room (Nat.le_of_ble_eq_true rfl)) dL_law_391 ⟨Nat.le_trans (Nat.add_le_add_right hc1 _) (Nat.le_of_ble_eq_true rfl), Nat.le_trans (Nat.add_le_add_right hc2 _) (Nat.le_of_ble_eq_true rfl)⟩) hP hD hS hA (fun H locs hP hD hS => ?_)
  refine W.widen (k := 100 + 2 * K + 1) (n := 20000 + 12 * K + 6) (Nat.add_le_add_left (Nat.le_of_ble_eq_true rfl) _) (Nat.add_le_add_left (Nat.le_of_ble_eq_true rfl) _) ?_
  replace hP := P_perm perm_r hP
  replace hD := D_perm perm_r hD
  refine lv_aload_n hx hb dL_law_394 rfl (lv_at hl 2 rfl) ?_
  refine lv_aload_n hx hb dL_law_395 rfl (lv_at hl 0 rfl) ?_
  refine lv_iload hx hb dL_law_396 (lv_at hl 4 rfl) ?_
  refine lv_iconst (v := nI 1) hx hb dL_law_398 (by decide) ?_
  refine lv_iadd hx hb dL_law_399 ?_
  refine va_sld hx hb hX hbl hbA hS (li_in (j := 1) hi hL (by omega)) dL_law_400 ?_
  refine xIp (va_runV (As := [.int (xs (nI i + nI 1).toNatClampNeg)]) (rest := [.int (o.1)]) ⟨hx, hb, hml, hown, hts⟩ (c_X3_count l D cI cJ cZ adm m0 m1 m2 m3 m4 m5 m6 m7 m8 m9 m10 m11 m12 m13 m14 m15 m16 m17 m18 m19 m20 m21 m22 m23 m24 m25 m26 m27 (xs (nI i + nI 1).toNatClampNeg) o' h2 _) (cwV 1 hts gL_law_X3_count rfl rfl rfl (by decide +kernel) ⟨Nat.le_of_ble_eq_true rfl, Nat.le_of_ble_eq_true rfl⟩) ⟨PreW.blind, xRecv (q0 := 0) hK hP rfl rfl, xPrep hK hP hD _⟩ rfl rfl hl.1 rfl (lv_room (Nat.le_of_ble_eq_true rfl)) dL_law_401 ⟨Nat.le_trans (Nat.add_le_add_right hc3 _) (Nat.le_of_ble_eq_true rfl), Nat.le_trans (Nat.add_le_add_right hc4 _) (Nat.le_of_ble_eq_true rfl)⟩) hP hD hS hA (fun H locs hP hD hS => ?_)
  refine W.widen (k := 100 + 2 * (K + 1)) (n := 20000 + 12 * (K + 1)) (Nat.le_trans (Nat.add_le_add_left (show rmX3_count.cells ≤ 1 from Nat.le_of_ble_eq_true rfl) _) (by omega)) (Nat.le_trans (Nat.add_le_add_left (show rmX3_count.slots ≤ 6 from Nat.le_of_ble_eq_true rfl) _) (by omega)) ?_
  replace hP := P_perm perm_b hP
  replace hD := D_perm perm_b hD
  refine lv_icmp_eq (tgt := 862) hx hb dL_law_404 (by decide) (fun q => ?_) (fun q => absurd h3 q)
  exact next _ _ _ _ _ _ _ _ _ _ _ _ _ _ _ _ _ _ _ _ _ _ _ _ _ _ _ _ _ _ _ _ _ _ _ _ _ _ hR hP hD hS hl
