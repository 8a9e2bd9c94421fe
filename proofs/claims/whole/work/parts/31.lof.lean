/-! the law's own of: it calls the class's, and catches what that throws -/
section LOF
def oT (o : Option Int32) : Int32 := match o with
  | some _ => 0
  | none => 1
def oU (u : Al) (o : Option Int32) : Al := match o with
  | some v => vp_updL u 0 v.toInt64
  | none => u
theorem xPreT {s : State} {H : Heap} {locs : List Loc} {D : va_G} {cI cJ cZ : ClassId} {ws wc : va_W} {A0 : Nat → Prop} {sa sb : Nat} (hK : Kw D cI cJ cZ s) (hP : va_P D vwCl ws H) (hD : va_D A0 ws) (hS : va_S A0 s.heap H locs) (isC : List Nat) (hC : isC.map (fun i => ws[i]?) = wc.map some) (hn : va_nd isC = true)
    (hFc : ∀ q, va_A wc H.size q → A0 q) (hTw : TwV sa sb s) (hU : vx_Zq Bundle.tN "UNASSIGNED_STACK" Bundle.steD A0 s s.heap) (hN : vx_Zq Bundle.tN "SUPPRESSED_SENTINEL" Bundle.listD A0 s s.heap) (av : List Value) :
    ∀ U : State, U.heap = H → s.WarmedH U.vm → va_Pc av (PreT D cI cJ cZ wc H.size sa sb) av.toArray U := fun U hUH hW =>
  ⟨rfl, (xPre hK hP hD isC hC hn av U hUH hW).2, hTw.warm hW, by rw [hUH]; exact vx_Zq.moved hW.alike ((hU.kept hS.2.1).narrow hFc), by rw [hUH]; exact vx_Zq.moved hW.alike ((hN.kept hS.2.1).narrow hFc)⟩
abbrev rmL_of : Room := { frames := 7, cells := 1, slots := 6, locals := 104 }
set_option maxHeartbeats 40000000 in
set_option maxRecDepth 100000 in
theorem c_L_of (l : Launch) (hst : l.stackTraces = false) (D : va_G) (cI cJ cZ : ClassId) (adx adc adn adt : Nat → Nat) (gx : Xo) (gc : Ci) (gn gt : Sw) (qo : Nat) (u : Al) (p1 p2 : Int32) (sa sb : Nat) (o : Option Int32) (hf : f_X2_of gx gc gn p1 p2 = some o) : ∀ sz : Nat,
    vx_Met l yL_of wsL_of rmL_of (va_Pc [.ref (adx 0), .int p1, .int p2, .ref qo] (PreT D cI cJ cZ (wX cI cJ adx adc adn adt gx ++ wCi cI adc gc ++ wSw cI cJ cZ adn gn ++ wSw cI cJ cZ adt gt ++ [(qo, .inl (cJ, 1, .inr (.inl u)))]) sz sa sb)) (va_Qi (fun x (_ : Unit) => x = oT o) (fun _ t => PostW D (va_A (wX cI cJ adx adc adn adt gx ++ wCi cI adc gc ++ wSw cI cJ cZ adn gn ++ wSw cI cJ cZ adt gt ++ [(qo, .inl (cJ, 1, .inr (.inl u)))]) sz) (wX cI cJ adx adc adn adt gx ++ wCi cI adc gc ++ wSw cI cJ cZ adn gn ++ wSw cI cJ cZ adt gt ++ [(qo, .inl (cJ, 1, .inr (.inl (oU u o))))]) t) (va_A (wX cI cJ adx adc adn adt gx ++ wCi cI adc gc ++ wSw cI cJ cZ adn gn ++ wSw cI cJ cZ adt gt ++ [(qo, .inl (cJ, 1, .inr (.inl u)))]) sz)) (vx_X (fun _ : Unit => False) (fun _ _ _ => True) (va_A (wX cI cJ adx adc adn adt gx ++ wCi cI adc gc ++ wSw cI cJ cZ adn gn ++ wSw cI cJ cZ adt gt ++ [(qo, .inl (cJ, 1, .inr (.inl u)))]) sz)) 1 6 (va_A (wX cI cJ adx adc adn adt gx ++ wCi cI adc gc ++ wSw cI cJ cZ adn gn ++ wSw cI cJ cZ adt gt ++ [(qo, .inl (cJ, 1, .inr (.inl u)))]) sz) := by
  intro sz
  refine vx_ofWH (cc := cL_of) (maxL := 5) (ret := (some .int)) (hh := [(0, 10, 13, 13)]) (by decide) rfl ?_
  intro p e s m args below meth c s₁ B hml hv
  obtain ⟨rfl, ⟨hsz, hP, hK, hD0⟩, hTw, hU, hN⟩ := hv
  have hx := B.exec
  have hb := B.bytes
  have hr := B.returns
  have hts := atoms_spec (ws := wsL_of) B.pre
  have hown : s.vm.findClass RL = some m.cls := findClass_of_methodNamed B.named
  have hlocks := B.notSynchronized
  have htab : c.exceptionTable.toList = tableOf [(0, 10, 13, 13)] := vx_table (x := yL_of) B (hts _ List.mem_cons_self)
  subst hsz
  have hD := hD0.self (sz := s.heap.size)
  clear hD0
  generalize hAe : va_A (wX cI cJ adx adc adn adt gx ++ wCi cI adc gc ++ wSw cI cJ cZ adn gn ++ wSw cI cJ cZ adt gt ++ [(qo, .inl (cJ, 1, .inr (.inl u)))]) s.heap.size = A at hD hU hN ⊢
  have hA : ∀ q : Nat, s.heap.size ≤ q → A q := fun q h => by rw [← hAe]; exact Or.inr h
  have hS : va_S A s.heap s.heap [] := va_S.rf
  have hw0 : (Cond.classLink RL 13 ne_NE).before _ s = true := hts _ (List.mem_of_getElem? (i := 1) rfl)
  have hl := lv_entry ([.ref (adx 0), .int p1, .int p2, .ref qo]) (n := 5) (Nat.le_of_ble_eq_true rfl)
  rw [lg_entry_eq]
  generalize (lg_sl ([.ref (adx 0), .int p1, .int p2, .ref qo]) ++ List.replicate (5 - (lg_sl ([.ref (adx 0), .int p1, .int p2, .ref qo])).length) Slot.unset).toArray = ls at hl ⊢
  replace hl : lv_has ls 5 [(0, .ref (adx 0)), (1, .int p1), (2, .int p2), (3, .ref qo)] := hl
  refine lv_aload_n hx hb dL_of_0 rfl (lv_at hl 3 rfl) ?_
  refine lv_iconst (v := 0) hx hb dL_of_1 (by decide) ?_
  refine lv_aload_n hx hb dL_of_2 rfl (lv_at hl 0 rfl) ?_
  refine lv_iload_n hx hb dL_of_3 rfl (lv_at hl 1 rfl) ?_
  refine lv_iload_n hx hb dL_of_4 rfl (lv_at hl 2 rfl) ?_
  have hFc := va_free (wc := (wX cI cJ adx adc adn adt gx ++ wCi cI adc gc ++ wSw cI cJ cZ adn gn ++ wSw cI cJ cZ adt gt)) hD hS hA [0, 1, 2, 3, 4, 5, 6, 7, 8, 9, 10, 11, 12, 13, 14, 15, 16, 17, 18, 19, 20, 21, 22, 23, 24, 25, 26, 27, 28, 29, 30, 31] rfl
  refine vx_calli (vx_runV (As := [.int p1, .int p2]) (rest := [.int 0, .ref qo]) ⟨hx, hb, hml, hown, hts⟩ (c_X2_of l hst D cI cJ cZ adx adc adn adt gx gc gn gt p1 p2 sa sb o hf _) (cwV 2 hts gL_of_X2_of rfl rfl rfl (by decide +kernel) ⟨Nat.le_of_ble_eq_true rfl, Nat.le_of_ble_eq_true rfl⟩) ⟨PreT.blind, xRecv (q0 := 0) hK hP rfl rfl, xPreT hK hP hD hS [0, 1, 2, 3, 4, 5, 6, 7, 8, 9, 10, 11, 12, 13, 14, 15, 16, 17, 18, 19, 20, 21, 22, 23, 24, 25, 26, 27, 28, 29, 30, 31] rfl (by decide) hFc hTw hU hN _⟩ rfl rfl hl.1 rfl (lv_room (Nat.le_of_ble_eq_true rfl)) dL_of_5 ⟨Nat.le_of_ble_eq_true rfl, Nat.le_of_ble_eq_true rfl⟩) hS (fun q _ h => hFc q h) hFc (fun q _ h => hFc q h) (fun E ce q9 u9 t H locs ht hvm hw hB hz1 hk1 hS hce hcv hcl => ?_) (fun r u9 t H locs ht hvm hw hB hz1 hk1 hS => ?_)
  · subst hw
    obtain ⟨hE, hP1, hD1⟩ := hB
    subst hE
    rw [ht] at hP1
    obtain ⟨hP2, hD2⟩ := xW (wr := [(qo, .inl (cJ, 1, .inr (.inl u)))]) (w2 := (wX cI cJ adx adc adn adt gx ++ wCi cI adc gc ++ wSw cI cJ cZ adn gn ++ wSw cI cJ cZ adt gt ++ [(qo, .inl (cJ, 1, .inr (.inl u)))])) hP hD hFc [0, 1, 2, 3, 4, 5, 6, 7, 8, 9, 10, 11, 12, 13, 14, 15, 16, 17, 18, 19, 20, 21, 22, 23, 24, 25, 26, 27, 28, 29, 30, 31] [32] rfl rfl (by decide) (by decide) [1, 2, 3, 4, 5, 6, 7, 8, 9, 10, 11, 12, 13, 14, 15, 16, 17, 18, 19, 20, 21, 22, 23, 24, 25, 26, 27, 28, 29, 30, 31, 32, 0] rfl (by decide) hk1 hP1 hD1
    refine vx_catch (name := ne_NE) hown ⟨0, 10, 13, 13⟩ [] htab (by decide) (by decide) hw0 (va_Nw.use rfl hTw.2.2.2.1) hce hcv hcl ?_
    refine lv_astore (lv' := [(4, .ref q9), (0, .ref (adx 0)), (1, .int p1), (2, .int p2), (3, .ref qo)]) hx hb dL_of_13 hl (by decide) rfl (fun ls hl => ?_)
    refine lv_iconst (v := 1) hx hb dL_of_15 (by decide) ?_
    refine vx_ret ?_
    refine W.widen (k := 1) (n := 6) (Nat.le_of_ble_eq_true rfl) (Nat.le_of_ble_eq_true rfl) ?_
    exact W.iret hx hb hr (fun t ht _ => ⟨⟨_, (), rfl, rfl, by rw [ht]; exact hP2, hD2⟩, hS.F ht⟩) hS.2.2 dL_of_16 hlocks
  · subst hw
    obtain ⟨hP1, hD1⟩ := hB
    rw [ht] at hP1
    obtain ⟨hP2, hD2⟩ := xW (wr := [(qo, .inl (cJ, 1, .inr (.inl u)))]) (w2 := (wX cI cJ adx adc adn adt gx ++ wCi cI adc gc ++ wSw cI cJ cZ adn gn ++ wSw cI cJ cZ adt gt ++ [(qo, .inl (cJ, 1, .inr (.inl u)))])) hP hD hFc [0, 1, 2, 3, 4, 5, 6, 7, 8, 9, 10, 11, 12, 13, 14, 15, 16, 17, 18, 19, 20, 21, 22, 23, 24, 25, 26, 27, 28, 29, 30, 31] [32] rfl rfl (by decide) (by decide) [1, 2, 3, 4, 5, 6, 7, 8, 9, 10, 11, 12, 13, 14, 15, 16, 17, 18, 19, 20, 21, 22, 23, 24, 25, 26, 27, 28, 29, 30, 31, 32, 0] rfl (by decide) hk1 hP1 hD1
    refine lv_i2l hx hb dL_of_8 rfl ?_
    refine va_last hx hb hK.1 hP2 hD2 hS 32 1 rfl rfl (ib_in (show ib 0 1 = true by decide)) dL_of_9 (fun H locs hP hD hS => ?_)
    replace hP : va_P D vwCl (wX cI cJ adx adc adn adt gx ++ wCi cI adc gc ++ wSw cI cJ cZ adn gn ++ wSw cI cJ cZ adt gt ++ [(qo, .inl (cJ, 1, .inr (.inl (vp_updL u 0 r.toInt64))))]) H := hP
    replace hD : va_D A (wX cI cJ adx adc adn adt gx ++ wCi cI adc gc ++ wSw cI cJ cZ adn gn ++ wSw cI cJ cZ adt gt ++ [(qo, .inl (cJ, 1, .inr (.inl (vp_updL u 0 r.toInt64))))]) := hD
    refine lv_goto (tgt := 17) hx hb dL_of_10 (by decide) ?_
    refine lv_iconst (v := 0) hx hb dL_of_17 (by decide) ?_
    refine vx_ret ?_
    refine W.widen (k := 1) (n := 6) (Nat.le_of_ble_eq_true rfl) (Nat.le_of_ble_eq_true rfl) ?_
    exact W.iret hx hb hr (fun t ht _ => ⟨⟨_, (), rfl, rfl, by rw [ht]; exact hP, hD⟩, hS.F ht⟩) hS.2.2 dL_of_18 hlocks
end LOF
