theorem perm_i {M X O : va_W} : ((M ++ (X ++ [])) ++ O).Perm (X ++ (M ++ O)) := by
  rw [List.append_nil, ← List.append_assoc]
  exact List.Perm.append_right O List.perm_append_comm
theorem str_at {args : Array Value} {s : State} {own : String} {k : Nat} (h : (Cond.exactly (.string own k) "java/lang/String").before args s = true) : ∃ a : Nat, (Term.string own k).eval args s none [] s = some (.ref a) := by
  obtain ⟨a, c, cell, k, h1, -⟩ := Cond.exactly_spec h
  exact ⟨a, h1⟩
theorem arr_of {args : Array Value} {s : State} {ty : FieldType} (h : (Cond.arrayClass ty).before args s = true) : ∃ cA : ClassId, ArrOfT s cA ty ∧ s.vm.findClass ("[" ++ ty.toString) = some cA := by
  obtain ⟨cA, k, comp, h1, h2, h3⟩ := Cond.arrayClass_spec h
  exact ⟨cA, fun n z => ⟨fun k h => (by cases h), k, h2, comp, h3⟩, h1⟩
set_option maxHeartbeats 40000000 in
set_option maxRecDepth 100000 in
theorem whole_start {p : Program} {e : Env} {s : State} {m : MethodId} {below : List Frame} {meth : Method} {c : Code} (l : Launch) (hst : l.stackTraces = false) {b L : Nat} {xs : Nat → Int32} (hL : L ≤ 3584) (C0 : lw_At p s m meth c b L xs) : W p l e room_1 s m #[Value.ref b] below meth c s.heap [] 0 0 (lw_Z below #[Value.ref b] s) (entryFrame m ([Value.ref b] : List Value).toArray 7) := by
  obtain ⟨hx, hb, hr, hml, hown, hts0, hX, hbl, hlocks, hgv⟩ := C0
  have hts : ∀ w ∈ wsL_law, w.before #[Value.ref b] s = true := fun w h => hts0 w (wsL_law_in w h)
  have hs9 := flat_of_before _ hgv
  have hA : ∀ q : Nat, s.heap.size ≤ q → (fun q : Nat => s.heap.size ≤ q) q := fun _ h => h
  have hAn : ∀ a : Nat, a < s.heap.size → ¬ (fun q : Nat => s.heap.size ≤ q) a := fun a h => Nat.not_le.mpr h
  have hiX0 : (Cond.instantiable RX0 12).before #[Value.ref b] s = true := (hts0 (Cond.instantiable RX0 12) (List.mem_of_getElem? (i := 60) (by decide +kernel)))
  obtain ⟨cX0, iX0, hKnX0⟩ := u_known (C := RX0) (T := TX0) (N := 12) (n := 12) hts0 inX0 hiX0
  have hiX1 : (Cond.instantiable RX1 10).before #[Value.ref b] s = true := (hts0 (Cond.instantiable RX1 10) (List.mem_of_getElem? (i := 128) (by decide +kernel)))
  obtain ⟨cX1, iX1, hKnX1⟩ := u_known (C := RX1) (T := TX1) (N := 10) (n := 10) hts0 inX1 hiX1
  have hiX2 : (Cond.instantiable RX2 17).before #[Value.ref b] s = true := (hts0 (Cond.instantiable RX2 17) (List.mem_of_getElem? (i := 52) (by decide +kernel)))
  obtain ⟨cX2, iX2, hKnX2⟩ := u_known (C := RX2) (T := TX2) (N := 17) (n := 17) hts0 inX2 hiX2
  have hiX3 : (Cond.instantiable RX3 28).before #[Value.ref b] s = true := (hts0 (Cond.instantiable RX3 28) (List.mem_of_getElem? (i := 538) (by decide +kernel)))
  obtain ⟨cX3, iX3, hKnX3⟩ := u_known (C := RX3) (T := TX3) (N := 28) (n := 28) hts0 inX3 hiX3
  obtain ⟨D, hKc⟩ : ∃ D : va_G, ∀ (k : Nat) (q : vw_C), vwCl[k]? = some q → u_Kn s q.1 q.2.1 q.2.2 (D.1 k) (D.2 k) := by
    refine ⟨(fun k => if k = 0 then cX0 else if k = 1 then cX1 else if k = 2 then cX2 else cX3, fun k => if k = 0 then iX0 else if k = 1 then iX1 else if k = 2 then iX2 else iX3), ?_⟩
    intro k q hq
    match k, hq with
    | 0, hq => cases hq; exact hKnX0
    | 1, hq => cases hq; exact hKnX1
    | 2, hq => cases hq; exact hKnX2
    | 3, hq => cases hq; exact hKnX3
    | k + 4, hq => simp [vwCl] at hq
  have hwI : (Cond.arrayClass .int).before #[Value.ref b] s = true := (hts0 (Cond.arrayClass .int) (List.mem_of_getElem? (i := 126) (by decide +kernel)))
  obtain ⟨cI, haI, hfI⟩ := arr_of hwI
  have hwJ : (Cond.arrayClass .long).before #[Value.ref b] s = true := (hts0 (Cond.arrayClass .long) (List.mem_of_getElem? (i := 172) (by decide +kernel)))
  obtain ⟨cJ, haJ, hfJ⟩ := arr_of hwJ
  have hwZ : (Cond.arrayClass .boolean).before #[Value.ref b] s = true := (hts0 (Cond.arrayClass .boolean) (List.mem_of_getElem? (i := 173) (by decide +kernel)))
  obtain ⟨cZ, haZ, hfZ⟩ := arr_of hwZ
  have hKa : va_K D vwCl [(cI, .int), (cJ, .long), (cZ, .boolean)] s := ⟨hKc, fun k q hq => by
    match k, hq with
    | 0, hq => cases hq; exact ⟨haI, hfI⟩
    | 1, hq => cases hq; exact ⟨haJ, hfJ⟩
    | 2, hq => cases hq; exact ⟨haZ, hfZ⟩
    | k + 3, hq => simp at hq⟩
  have hK : Kw D cI cJ cZ s := ⟨hKa, va_Nw.of rfl (hts0 (Cond.methodLinkNest RX1 77 yX2_commonOf RX2) (List.mem_of_getElem? (i := 288) (by decide +kernel))), va_Nw.of rfl (hts0 (Cond.methodLinkNest RX1 117 yX2_packed RX2) (List.mem_of_getElem? (i := 323) (by decide +kernel))), va_Nw.of rfl (hts0 (Cond.methodLinkNest RX2 11 yX0_init RX2) (List.mem_of_getElem? (i := 61) (by decide +kernel))), va_Nw.of rfl (hts0 (Cond.methodLinkNest RX2 18 yX1_init RX2) (List.mem_of_getElem? (i := 129) (by decide +kernel)))⟩
  obtain ⟨sa, hsa⟩ := str_at (args := #[Value.ref b]) (s := s) (own := "SwingCircuits") (k := 150) (hs9 _ (by decide +kernel))
  obtain ⟨sb, hsb⟩ := str_at (args := #[Value.ref b]) (s := s) (own := "SwingCircuits") (k := 169) (hs9 _ (by decide +kernel))
  have hTw : TwV sa sb s := ⟨va_Nw.of rfl (hts0 (Cond.declares (Bundle.initS ne_RE)) (List.mem_of_getElem? (i := 470) (by decide +kernel))), va_Nw.of rfl (hts0 (Cond.declares (Bundle.initS ne_EX)) (List.mem_of_getElem? (i := 472) (by decide +kernel))), va_Nw.of rfl (hts0 (Cond.declares (Bundle.initS Bundle.tN)) (List.mem_of_getElem? (i := 474) (by decide +kernel))), va_Nw.of rfl (hts0 (Cond.castable ne_NE ne_NE) (List.mem_of_getElem? (i := 468) (by decide +kernel))), vk_R.of (hts0 (Cond.stringRef RX2 150 "no such cell") (List.mem_of_getElem? (i := 505) (by decide +kernel))) hsa, vk_R.of (hts0 (Cond.stringRef RX2 169 "a cell has no such number") (List.mem_of_getElem? (i := 536) (by decide +kernel))) hsb⟩
  have hU : vx_Zq Bundle.tN "UNASSIGNED_STACK" Bundle.steD (fun q : Nat => s.heap.size ≤ q) s s.heap := vx_Zqof (hts0 (Cond.laysStatic Bundle.tN "UNASSIGNED_STACK" Bundle.steD) (List.mem_of_getElem? (i := 493) (by decide +kernel))) (hts0 (Cond.initialized Bundle.tN) (List.mem_of_getElem? (i := 47) (by decide +kernel))) (hs9 _ (by decide +kernel)) hAn
  have hN : vx_Zq Bundle.tN "SUPPRESSED_SENTINEL" Bundle.listD (fun q : Nat => s.heap.size ≤ q) s s.heap := vx_Zqof (hts0 (Cond.laysStatic Bundle.tN "SUPPRESSED_SENTINEL" Bundle.listD) (List.mem_of_getElem? (i := 495) (by decide +kernel))) (hts0 (Cond.initialized Bundle.tN) (List.mem_of_getElem? (i := 47) (by decide +kernel))) (hs9 _ (by decide +kernel)) hAn
  have hC : LCx p l s m meth c b D cI cJ cZ L xs sa sb := ⟨hx, hb, hr, hml, hown, hts, hX, hbl, hlocks, hK, hTw, hU, hN, hst, hL⟩
  have hS : va_S (fun q : Nat => s.heap.size ≤ q) s.heap s.heap [] := va_S.rf
  have hP : va_P D vwCl [] s.heap := fun k q h => by simp at h
  have hD : va_D (fun q : Nat => s.heap.size ≤ q) [] := ⟨fun i j p q h => by simp at h, fun k q h => by simp at h⟩
  have hl := lv_entry ([.ref b]) (n := 7) (Nat.le_of_ble_eq_true rfl)
  rw [lg_entry_eq]
  generalize (lg_sl ([.ref b]) ++ List.replicate (7 - (lg_sl ([.ref b])).length) Slot.unset).toArray = ls at hl ⊢
  replace hl : lv_has ls 7 [(0, .ref b)] := hl
  refine va_new (ci := 2) (fs := [.null, .null, .null, .int 0, .null, .null, .null, .null, .null, .int 0, .null, .int 0, .null, .null, .int 0, .null, .null]) (C := RX2) (T := TX2) (N := 17) hx hb hts inlX2 tyX2 tyX2_ok hown (hts0 (Cond.classLink RL 8 RX2) (List.mem_of_getElem? (i := 51) (by decide +kernel))) hiX2 (hts0 (Cond.initialized RX2) (List.mem_of_getElem? (i := 42) (by decide +kernel))) hK.1 hP hD hS hA rfl (fun j hj => by rcases (show j = 0 ∨ j = 1 ∨ j = 2 ∨ j = 3 ∨ j = 4 ∨ j = 5 ∨ j = 6 ∨ j = 7 ∨ j = 8 ∨ j = 9 ∨ j = 10 ∨ j = 11 ∨ j = 12 ∨ j = 13 ∨ j = 14 ∨ j = 15 ∨ j = 16 by omega) with rfl | rfl | rfl | rfl | rfl | rfl | rfl | rfl | rfl | rfl | rfl | rfl | rfl | rfl | rfl | rfl | rfl <;> rfl) (Nat.le_of_ble_eq_true rfl) (Nat.le_of_ble_eq_true rfl) dL_law_0 (fun q1 H hP hD hS => ?_)
  replace hP : va_P D vwCl ([(q1, .inr (2, [.null, .null, .null, .int 0, .null, .null, .null, .null, .null, .int 0, .null, .int 0, .null, .null, .int 0, .null, .null]))] ++ []) H := hP
  replace hD : va_D (fun q : Nat => s.heap.size ≤ q) ([(q1, .inr (2, [.null, .null, .null, .int 0, .null, .null, .null, .null, .null, .int 0, .null, .int 0, .null, .null, .int 0, .null, .null]))] ++ []) := hD
  refine lv_dup hx hb dL_law_3 rfl ?_
  have hFc := pfx_free hD hS hA
  refine va_callv (va_runI (As := []) (rest := [.ref q1]) ⟨hx, hb, hml, hown, hts⟩ (c_X2_init l D cI cJ cZ q1 _) (cwI 0 hts gL_law_X2_init rfl rfl rfl (hts0 (Cond.initialized RX2) (List.mem_of_getElem? (i := 42) (by decide +kernel))) (hts0 (Cond.methodLink RL 15 yX2_init) (List.mem_of_getElem? (i := 53) (by decide +kernel))) (hts0 (Cond.instanceMethod yX2_init) (List.mem_of_getElem? (i := 54) (by decide +kernel))) rfl (by decide +kernel) ⟨Nat.le_of_ble_eq_true rfl, Nat.le_of_ble_eq_true rfl⟩) ⟨PreW.blind, xPrep hK hP hD _⟩ rfl rfl hl.1 rfl (lv_room (Nat.le_of_ble_eq_true rfl)) dL_law_4 ⟨Nat.le_of_ble_eq_true rfl, Nat.le_of_ble_eq_true rfl⟩) hS (fun q _ h => hFc q h) hFc (fun a t H locs ht hvm hw hB hz1 hk1 hS => ?_)
  obtain ⟨adx, adc, adn, adt⟩ := a
  obtain ⟨hP1, hD1⟩ := hB
  rw [ht] at hP1
  obtain ⟨hP2, hD2⟩ := pfx_join hP hD hFc hk1 hP1 hD1
  clear hP1 hD1 hFc hk1 hz1 hP hD ht hvm
  have hP := hP2
  have hD := hD2
  clear hP2 hD2
  replace hw : adx 0 = q1 := hw
  subst hw
  refine W.widen (k := 60) (n := 6000) (Nat.le_of_ble_eq_true rfl) (Nat.le_of_ble_eq_true rfl) ?_
  refine lv_astore_n (lv' := [(1, .ref (adx 0)), (0, .ref b)]) hx hb dL_law_7 rfl hl (by decide) rfl (fun ls hl => ?_)
  refine va_new (ci := 3) (fs := [.null, .null, .null, .null, .int 0, .null, .int 0, .null, .null, .null, .null, .null, .null, .null, .int 0, .null, .int 0, .null, .null, .int 0, .null, .null, .int 0, .int 0, .long 0, .long 0, .int 0, .int 0]) (C := RX3) (T := TX3) (N := 28) hx hb hts inlX3 tyX3 tyX3_ok hown (hts0 (Cond.classLink RL 16 RX3) (List.mem_of_getElem? (i := 537) (by decide +kernel))) hiX3 (hts0 (Cond.initialized RX3) (List.mem_of_getElem? (i := 45) (by decide +kernel))) hK.1 hP hD hS hA rfl (fun j hj => by rcases (show j = 0 ∨ j = 1 ∨ j = 2 ∨ j = 3 ∨ j = 4 ∨ j = 5 ∨ j = 6 ∨ j = 7 ∨ j = 8 ∨ j = 9 ∨ j = 10 ∨ j = 11 ∨ j = 12 ∨ j = 13 ∨ j = 14 ∨ j = 15 ∨ j = 16 ∨ j = 17 ∨ j = 18 ∨ j = 19 ∨ j = 20 ∨ j = 21 ∨ j = 22 ∨ j = 23 ∨ j = 24 ∨ j = 25 ∨ j = 26 ∨ j = 27 by omega) with rfl | rfl | rfl | rfl | rfl | rfl | rfl | rfl | rfl | rfl | rfl | rfl | rfl | rfl | rfl | rfl | rfl | rfl | rfl | rfl | rfl | rfl | rfl | rfl | rfl | rfl | rfl | rfl <;> rfl) (Nat.le_of_ble_eq_true rfl) (Nat.le_of_ble_eq_true rfl) dL_law_8 (fun q2 H hP hD hS => ?_)
  replace hP := P_perm List.perm_append_comm hP
  replace hD := D_perm List.perm_append_comm hD
  refine lv_dup hx hb dL_law_11 rfl ?_
  have hFc := pfx_free hD hS hA
  refine va_callv (va_runI (As := []) (rest := [.ref q2]) ⟨hx, hb, hml, hown, hts⟩ (c_X3_init l D cI cJ cZ q2 _) (cwI 0 hts gL_law_X3_init rfl rfl rfl (hts0 (Cond.initialized RX3) (List.mem_of_getElem? (i := 45) (by decide +kernel))) (hts0 (Cond.methodLink RL 18 yX3_init) (List.mem_of_getElem? (i := 539) (by decide +kernel))) (hts0 (Cond.instanceMethod yX3_init) (List.mem_of_getElem? (i := 540) (by decide +kernel))) rfl (by decide +kernel) ⟨Nat.le_of_ble_eq_true rfl, Nat.le_of_ble_eq_true rfl⟩) ⟨PreW.blind, xPrep hK hP hD _⟩ rfl rfl hl.1 rfl (lv_room (Nat.le_of_ble_eq_true rfl)) dL_law_12 ⟨Nat.le_of_ble_eq_true rfl, Nat.le_of_ble_eq_true rfl⟩) hS (fun q _ h => hFc q h) hFc (fun a t H locs ht hvm hw hB hz1 hk1 hS => ?_)
  obtain ⟨adm, r⟩ := a
  obtain ⟨hP1, hD1⟩ := hB
  rw [ht] at hP1
  obtain ⟨hP2, hD2⟩ := pfx_join hP hD hFc hk1 hP1 hD1
  clear hP1 hD1 hFc hk1 hz1 hP hD ht hvm
  have hP := hP2
  have hD := hD2
  clear hP2 hD2
  obtain ⟨hw, hr9⟩ := hw
  replace hw : adm 0 = q2 := hw
  replace hr9 : f_X3_resetAll (fun _ => 0) (fun _ => 0) = some r := hr9
  subst hw
  refine W.widen (k := 90) (n := 19000) (Nat.le_of_ble_eq_true rfl) (Nat.le_of_ble_eq_true rfl) ?_
  refine lv_astore_n (lv' := [(2, .ref (adm 0)), (1, .ref (adx 0)), (0, .ref b)]) hx hb dL_law_15 rfl hl (by decide) rfl (fun ls hl => ?_)
  refine lv_iconst (v := 1) hx hb dL_law_16 (by decide) ?_
  refine va_newa (atype := .long) (ty := .long) (a0 := (1, .inr (.inl (fun _ => 0)))) hx hb hwJ rfl hK.1 hP hD hS hA (fun _ => rfl) (by decide) (by decide) (by decide) (Nat.le_of_ble_eq_true rfl) (Nat.le_of_ble_eq_true rfl) dL_law_17 (fun qo cA H hK9 hP hD hS => ?_)
  obtain rfl : cJ = cA := (arr_oneJ hK.1 hK9 1 3 rfl rfl).symm
  clear hK9
  replace hP := P_perm perm_i hP
  replace hD := D_perm perm_i hD
  refine lv_astore_n (lv' := [(3, .ref qo), (2, .ref (adm 0)), (1, .ref (adx 0)), (0, .ref b)]) hx hb dL_law_19 rfl hl (by decide) rfl (fun ls hl => ?_)
  refine lv_iconst (v := nI (7 * 0)) hx hb dL_law_20 (by decide) ?_
  refine lv_istore (lv' := [(4, .int (nI (7 * 0))), (3, .ref qo), (2, .ref (adm 0)), (1, .ref (adx 0)), (0, .ref b)]) hx hb dL_law_21 hl (by decide) rfl (fun ls hl => ?_)
  refine W.widen (k := 100 + 2 * 0) (n := 20000 + 12 * 0) (Nat.le_of_ble_eq_true rfl) (Nat.le_of_ble_eq_true rfl) ?_
  exact law_loop hC 513 0 (by omega) (by omega) _ _ _ _ _ _ _ _ _ _ _ _ _ _ _ _ _ _ _ _ _ _ _ _ _ _ _ _ _ _ _ _ _ _ _ _ _ _ (R_init hr9) hP hD hS (lv_sub hl [4, 3, 2, 1, 0] rfl)
