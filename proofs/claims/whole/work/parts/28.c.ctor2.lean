abbrev rmX2_init : Room := { frames := 2, cells := 31, slots := 2664, locals := 32 }
set_option maxHeartbeats 40000000 in
set_option maxRecDepth 100000 in
theorem c_X2_init (l : Launch) (D : va_G) (cI cJ cZ : ClassId) (h : Nat) : ∀ sz : Nat, Met l yX2_init wsX2_init rmX2_init (va_Pc [.ref h] (PreW D cI cJ cZ ([(h, .inr (2, [.null, .null, .null, .int 0, .null, .null, .null, .null, .null, .int 0, .null, .int 0, .null, .null, .int 0, .null, .null]))]) sz)) (va_Qv (fun a : (Nat → Nat) × (Nat → Nat) × (Nat → Nat) × (Nat → Nat) => a.1 0 = h) (fun a t => PostW D (va_A ([(h, .inr (2, [.null, .null, .null, .int 0, .null, .null, .null, .null, .null, .int 0, .null, .int 0, .null, .null, .int 0, .null, .null]))]) sz) (wX cI cJ a.1 a.2.1 a.2.2.1 a.2.2.2 xo0 ++ wCi cI a.2.1 ci0 ++ wSw cI cJ cZ a.2.2.1 sw0 ++ wSw cI cJ cZ a.2.2.2 sw0) t) (va_A ([(h, .inr (2, [.null, .null, .null, .int 0, .null, .null, .null, .null, .null, .int 0, .null, .int 0, .null, .null, .int 0, .null, .null]))]) sz)) 31 2664 (va_A ([(h, .inr (2, [.null, .null, .null, .int 0, .null, .null, .null, .null, .null, .int 0, .null, .int 0, .null, .null, .int 0, .null, .null]))]) sz) := by
  intro sz
  refine Met.ofW (cc := cX2_init) (maxL := 1) (ret := none) (by decide) rfl ?_
  intro p e s m args below meth c s₁ B hml hv
  obtain ⟨rfl, hsz, hP, hK, hD0⟩ := hv
  have hx := B.exec
  have hb := B.bytes
  have hr := B.returns
  have hts := atoms_spec (ws := wsX2_init) B.pre
  have hown : s.vm.findClass RX2 = some m.cls := findClass_of_methodNamed B.named
  have hlocks := B.notSynchronized
  have hin : meth.name = "<init>" := (name_of_methodNamed B.named B.method).1
  subst hsz
  have hD := hD0.self (sz := s.heap.size)
  clear hD0
  generalize hAe : va_A ([(h, .inr (2, [.null, .null, .null, .int 0, .null, .null, .null, .null, .null, .int 0, .null, .int 0, .null, .null, .int 0, .null, .null]))]) s.heap.size = A at hD ⊢
  have hA : ∀ q : Nat, s.heap.size ≤ q → A q := fun q h => by rw [← hAe]; exact Or.inr h
  have hS : va_S A s.heap s.heap [] := va_S.rf
  have hinX0 : ∀ w ∈ wsX00, w ∈ wsX2_init := by decide +kernel
  have hinX1 : ∀ w ∈ wsX10, w ∈ wsX2_init := by decide +kernel
  have hinX2 : ∀ w ∈ wsX20, w ∈ wsX2_init := by decide +kernel
  have hw0 : (Cond.methodLink RX2 3 objectInit).before _ s = true := hts _ (by decide +kernel)
  have hw1 : (Cond.instanceMethod objectInit).before _ s = true := hts _ (by decide +kernel)
  have hw2 : (Cond.code objectInit ⟨#[0xb1]⟩ 1 none).before _ s = true := hts _ (by decide +kernel)
  have hw3 : (Cond.classLink RX2 9 RX0).before _ s = true := hts _ (by decide +kernel)
  have hw4 : (Cond.instantiable RX0 12).before _ s = true := hts _ (by decide +kernel)
  have hw5 : (Cond.initialized RX0).before _ s = true := hts _ (by decide +kernel)
  have hw6 : (Cond.instanceMethod yX0_init).before _ s = true := hts _ (by decide +kernel)
  have hw7 : (Cond.fieldLink RX2 12 "SwingCircuits" "circuit" "LSwingCircuits$Circuit;").before _ s = true := hts _ (by decide +kernel)
  have hw8 : (Cond.classLink RX2 16 RX1).before _ s = true := hts _ (by decide +kernel)
  have hw9 : (Cond.instantiable RX1 10).before _ s = true := hts _ (by decide +kernel)
  have hw10 : (Cond.initialized RX1).before _ s = true := hts _ (by decide +kernel)
  have hw11 : (Cond.instanceMethod yX1_init).before _ s = true := hts _ (by decide +kernel)
  have hw12 : (Cond.fieldLink RX2 19 "SwingCircuits" "now" "LSwingCircuits$Swing;").before _ s = true := hts _ (by decide +kernel)
  have hw13 : (Cond.fieldLink RX2 23 "SwingCircuits" "trial" "LSwingCircuits$Swing;").before _ s = true := hts _ (by decide +kernel)
  have hw14 : (Cond.fieldLink RX2 26 "SwingCircuits" "happened" "I").before _ s = true := hts _ (by decide +kernel)
  have hw15 : (Cond.arrayClass .int).before _ s = true := hts _ (by decide +kernel)
  have hw16 : (Cond.fieldLink RX2 30 "SwingCircuits" "tops" "[I").before _ s = true := hts _ (by decide +kernel)
  have hw17 : (Cond.fieldLink RX2 34 "SwingCircuits" "bottoms" "[I").before _ s = true := hts _ (by decide +kernel)
  have hw18 : (Cond.arrayClass .long).before _ s = true := hts _ (by decide +kernel)
  have hw19 : (Cond.fieldLink RX2 37 "SwingCircuits" "kept" "[J").before _ s = true := hts _ (by decide +kernel)
  have hw20 : (Cond.fieldLink RX2 41 "SwingCircuits" "trail" "[J").before _ s = true := hts _ (by decide +kernel)
  have hw21 : (Cond.fieldLink RX2 44 "SwingCircuits" "ringAnswers" "[J").before _ s = true := hts _ (by decide +kernel)
  have hw22 : (Cond.fieldLink RX2 47 "SwingCircuits" "ringFound" "Z").before _ s = true := hts _ (by decide +kernel)
  have hw23 : (Cond.fieldLink RX2 51 "SwingCircuits" "stock" "[I").before _ s = true := hts _ (by decide +kernel)
  have hw24 : (Cond.fieldLink RX2 54 "SwingCircuits" "stocked" "I").before _ s = true := hts _ (by decide +kernel)
  have hw25 : (Cond.fieldLink RX2 57 "SwingCircuits" "measuredNum" "[I").before _ s = true := hts _ (by decide +kernel)
  have hw26 : (Cond.fieldLink RX2 60 "SwingCircuits" "measuredDen" "[I").before _ s = true := hts _ (by decide +kernel)
  have hw27 : (Cond.fieldLink RX2 63 "SwingCircuits" "measures" "I").before _ s = true := hts _ (by decide +kernel)
  have hw28 : (Cond.fieldLink RX2 66 "SwingCircuits" "waysFound" "[I").before _ s = true := hts _ (by decide +kernel)
  have hw29 : (Cond.fieldLink RX2 69 "SwingCircuits" "faultsFound" "[I").before _ s = true := hts _ (by decide +kernel)
  have hl := lv_entry ([.ref h]) (n := 1) (Nat.le_of_ble_eq_true rfl)
  rw [lg_entry_eq]
  generalize (lg_sl ([.ref h]) ++ List.replicate (1 - (lg_sl ([.ref h])).length) Slot.unset).toArray = ls at hl ⊢
  replace hl : lv_has ls 1 [(0, .ref h)] := hl
  refine lv_aload_n hx hb dX2_init_0 rfl (lv_at hl 0 rfl) ?_
  refine W.objInit hx hb hown hw0 hw1 hw2 rfl (by rw [hml]; exact hl.1) rfl dX2_init_1 (Nat.le_of_ble_eq_true rfl) (Nat.le_of_ble_eq_true rfl) ?_
  refine W.eq (g2 := F0 m 4 ls []) rfl ?_
  refine lv_aload_n hx hb dX2_init_4 rfl (lv_at hl 0 rfl) ?_
  refine va_new (ci := 0) (fs := [.int 0, .null, .null, .null, .null, .int 0, .null, .null, .null, .null, .null, .null]) (C := RX0) (T := TX0) (N := 12) hx hb hts hinX0 tyX0 tyX0_ok hown hw3 hw4 hw5 hK.1 hP hD hS hA rfl (fun j hj => by rcases (show j = 0 ∨ j = 1 ∨ j = 2 ∨ j = 3 ∨ j = 4 ∨ j = 5 ∨ j = 6 ∨ j = 7 ∨ j = 8 ∨ j = 9 ∨ j = 10 ∨ j = 11 by omega) with rfl | rfl | rfl | rfl | rfl | rfl | rfl | rfl | rfl | rfl | rfl | rfl <;> rfl) (Nat.le_of_ble_eq_true rfl) (Nat.le_of_ble_eq_true rfl) dX2_init_5 (fun q1 H hP hD hS => ?_)
  refine W.widen (k := 1) (n := 12) (Nat.le_of_ble_eq_true rfl) (Nat.le_of_ble_eq_true rfl) ?_
  replace hP : va_P D vwCl ([(h, .inr (2, [.null, .null, .null, .int 0, .null, .null, .null, .null, .null, .int 0, .null, .int 0, .null, .null, .int 0, .null, .null])), (q1, .inr (0, [.int 0, .null, .null, .null, .null, .int 0, .null, .null, .null, .null, .null, .null]))]) H := hP
  replace hD : va_D A ([(h, .inr (2, [.null, .null, .null, .int 0, .null, .null, .null, .null, .null, .int 0, .null, .int 0, .null, .null, .int 0, .null, .null])), (q1, .inr (0, [.int 0, .null, .null, .null, .null, .int 0, .null, .null, .null, .null, .null, .null]))]) := hD
  refine lv_dup hx hb dX2_init_8 rfl ?_
  have hPc := P_subm (w2 := [(q1, .inr (0, [.int 0, .null, .null, .null, .null, .int 0, .null, .null, .null, .null, .null, .null]))]) hP [1] rfl
  have hDc := hD.sub (ws' := [(q1, .inr (0, [.int 0, .null, .null, .null, .null, .int 0, .null, .null, .null, .null, .null, .null]))]) [1] (by decide) rfl
  have hFc := va_free (wc := [(q1, .inr (0, [.int 0, .null, .null, .null, .null, .int 0, .null, .null, .null, .null, .null, .null]))]) hD hS hA [1] rfl
  refine va_callv (va_runIN (As := []) (rest := [.ref q1, .ref h]) ⟨hx, hb, hml, hown, hts⟩ (c_X0_init l D cI cJ cZ q1 _) ⟨va_cnB 0 hts gX2_init_X0_init_n11 rfl rfl rfl hK.2.2.2.1 hw5 (by decide +kernel) ⟨Nat.le_of_ble_eq_true rfl, Nat.le_of_ble_eq_true rfl⟩, rfl, hw6⟩ ⟨PreW.blind, xPrew hK hPc hDc _⟩ rfl rfl hl.1 rfl (lv_room (Nat.le_of_ble_eq_true rfl)) dX2_init_9 ⟨Nat.le_of_ble_eq_true rfl, Nat.le_of_ble_eq_true rfl⟩) hS (fun q _ h => hFc q h) hFc (fun a2 t H locs ht hvm hw hB hz1 hk1 hS => ?_)
  obtain ⟨hP1, hD1⟩ := hB
  rw [ht] at hP1
  obtain ⟨hP2, hD2⟩ := va_join (wr := ([(h, .inr (2, [.null, .null, .null, .int 0, .null, .null, .null, .null, .null, .int 0, .null, .int 0, .null, .null, .int 0, .null, .null]))])) (w1 := wCi cI a2 ci0) hP hD [1] [0] rfl rfl (by decide) (by decide) hk1 hFc hP1 hD1
  clear hP1 hD1 hPc hDc hFc hk1 hz1 hP hD
  have hP := hP2
  have hD := hD2
  clear hP2 hD2
  refine W.widen (k := 11) (n := 76) (Nat.le_of_ble_eq_true rfl) (Nat.le_of_ble_eq_true rfl) ?_
  replace hP : va_P D vwCl ([(h, .inr (2, [.null, .null, .null, .int 0, .null, .null, .null, .null, .null, .int 0, .null, .int 0, .null, .null, .int 0, .null, .null]))] ++ wCi cI a2 ci0) H := hP
  replace hD : va_D A ([(h, .inr (2, [.null, .null, .null, .int 0, .null, .null, .null, .null, .null, .int 0, .null, .int 0, .null, .null, .int 0, .null, .null]))] ++ wCi cI a2 ci0) := hD
  obtain rfl : q1 = a2 0 := hw.symm
  clear hw
  refine va_putF (D := D) (ci := 2) (v := .ref (a2 0)) (ty := .object "SwingCircuits$Circuit") (C := RX2) (T := TX2) (N := 17) hx hb hts hinX2 tyX2 tyX2_ok nmX2 hown hK.1 hP hD hS 0 rfl rfl 0 (by decide) hw7 (fun _ h9 => h9) rfl hin rfl (by decide +kernel) rfl rfl (Nat.le_of_ble_eq_true rfl) dX2_init_12 (fun H locs hP hD hS => ?_)
  replace hP : va_P D vwCl ([(h, .inr (2, [.ref (a2 0), .null, .null, .int 0, .null, .null, .null, .null, .null, .int 0, .null, .int 0, .null, .null, .int 0, .null, .null]))] ++ wCi cI a2 ci0) H := hP
  replace hD : va_D A ([(h, .inr (2, [.ref (a2 0), .null, .null, .int 0, .null, .null, .null, .null, .null, .int 0, .null, .int 0, .null, .null, .int 0, .null, .null]))] ++ wCi cI a2 ci0) := hD
  refine lv_aload_n hx hb dX2_init_15 rfl (lv_at hl 0 rfl) ?_
  refine va_new (ci := 1) (fs := [.long 0, .long 0, .null, .null, .null, .null, .int 0, .int 0, .long 0, .long 0]) (C := RX1) (T := TX1) (N := 10) hx hb hts hinX1 tyX1 tyX1_ok hown hw8 hw9 hw10 hK.1 hP hD hS hA rfl (fun j hj => by rcases (show j = 0 ∨ j = 1 ∨ j = 2 ∨ j = 3 ∨ j = 4 ∨ j = 5 ∨ j = 6 ∨ j = 7 ∨ j = 8 ∨ j = 9 by omega) with rfl | rfl | rfl | rfl | rfl | rfl | rfl | rfl | rfl | rfl <;> rfl) (Nat.le_of_ble_eq_true rfl) (Nat.le_of_ble_eq_true rfl) dX2_init_16 (fun q3 H hP hD hS => ?_)
  refine W.widen (k := 12) (n := 86) (Nat.le_of_ble_eq_true rfl) (Nat.le_of_ble_eq_true rfl) ?_
  replace hP : va_P D vwCl ([(h, .inr (2, [.ref (a2 0), .null, .null, .int 0, .null, .null, .null, .null, .null, .int 0, .null, .int 0, .null, .null, .int 0, .null, .null]))] ++ wCi cI a2 ci0 ++ [(q3, .inr (1, [.long 0, .long 0, .null, .null, .null, .null, .int 0, .int 0, .long 0, .long 0]))]) H := hP
  replace hD : va_D A ([(h, .inr (2, [.ref (a2 0), .null, .null, .int 0, .null, .null, .null, .null, .null, .int 0, .null, .int 0, .null, .null, .int 0, .null, .null]))] ++ wCi cI a2 ci0 ++ [(q3, .inr (1, [.long 0, .long 0, .null, .null, .null, .null, .int 0, .int 0, .long 0, .long 0]))]) := hD
  refine lv_dup hx hb dX2_init_19 rfl ?_
  have hPc := P_subm (w2 := [(q3, .inr (1, [.long 0, .long 0, .null, .null, .null, .null, .int 0, .int 0, .long 0, .long 0]))]) hP [12] rfl
  have hDc := hD.sub (ws' := [(q3, .inr (1, [.long 0, .long 0, .null, .null, .null, .null, .int 0, .int 0, .long 0, .long 0]))]) [12] (by decide) rfl
  have hFc := va_free (wc := [(q3, .inr (1, [.long 0, .long 0, .null, .null, .null, .null, .int 0, .int 0, .long 0, .long 0]))]) hD hS hA [12] rfl
  refine va_callv (va_runIN (As := []) (rest := [.ref q3, .ref h]) ⟨hx, hb, hml, hown, hts⟩ (c_X1_init l D cI cJ cZ q3 _) ⟨va_cnB 0 hts gX2_init_X1_init_n18 rfl rfl rfl hK.2.2.2.2 hw10 (by decide +kernel) ⟨Nat.le_of_ble_eq_true rfl, Nat.le_of_ble_eq_true rfl⟩, rfl, hw11⟩ ⟨PreW.blind, xPrew hK hPc hDc _⟩ rfl rfl hl.1 rfl (lv_room (Nat.le_of_ble_eq_true rfl)) dX2_init_20 ⟨Nat.le_of_ble_eq_true rfl, Nat.le_of_ble_eq_true rfl⟩) hS (fun q _ h => hFc q h) hFc (fun a4 t H locs ht hvm hw hB hz1 hk1 hS => ?_)
  obtain ⟨hP1, hD1⟩ := hB
  rw [ht] at hP1
  obtain ⟨hP2, hD2⟩ := va_join (wr := ([(h, .inr (2, [.ref (a2 0), .null, .null, .int 0, .null, .null, .null, .null, .null, .int 0, .null, .int 0, .null, .null, .int 0, .null, .null]))] ++ wCi cI a2 ci0)) (w1 := wSw cI cJ cZ a4 sw0) hP hD [12] [0, 1, 2, 3, 4, 5, 6, 7, 8, 9, 10, 11] rfl rfl (by decide) (by decide) hk1 hFc hP1 hD1
  clear hP1 hD1 hPc hDc hFc hk1 hz1 hP hD
  have hP := hP2
  have hD := hD2
  clear hP2 hD2
  refine W.widen (k := 16) (n := 106) (Nat.le_of_ble_eq_true rfl) (Nat.le_of_ble_eq_true rfl) ?_
  replace hP : va_P D vwCl ([(h, .inr (2, [.ref (a2 0), .null, .null, .int 0, .null, .null, .null, .null, .null, .int 0, .null, .int 0, .null, .null, .int 0, .null, .null]))] ++ wCi cI a2 ci0 ++ wSw cI cJ cZ a4 sw0) H := hP
  replace hD : va_D A ([(h, .inr (2, [.ref (a2 0), .null, .null, .int 0, .null, .null, .null, .null, .null, .int 0, .null, .int 0, .null, .null, .int 0, .null, .null]))] ++ wCi cI a2 ci0 ++ wSw cI cJ cZ a4 sw0) := hD
  obtain rfl : q3 = a4 0 := hw.symm
  clear hw
  refine va_put (D := D) (ci := 2) (v := .ref (a4 0)) (ty := .object "SwingCircuits$Swing") (C := RX2) (T := TX2) (N := 17) hx hb hts hinX2 tyX2 tyX2_ok nmX2 hown hK.1 hP hD hS 0 rfl rfl 1 (by decide) hw12 (fun _ h9 => h9) rfl (by decide +kernel) rfl rfl (Nat.le_of_ble_eq_true rfl) dX2_init_23 (fun H locs hP hD hS => ?_)
  replace hP : va_P D vwCl ([(h, .inr (2, [.ref (a2 0), .ref (a4 0), .null, .int 0, .null, .null, .null, .null, .null, .int 0, .null, .int 0, .null, .null, .int 0, .null, .null]))] ++ wCi cI a2 ci0 ++ wSw cI cJ cZ a4 sw0) H := hP
  replace hD : va_D A ([(h, .inr (2, [.ref (a2 0), .ref (a4 0), .null, .int 0, .null, .null, .null, .null, .null, .int 0, .null, .int 0, .null, .null, .int 0, .null, .null]))] ++ wCi cI a2 ci0 ++ wSw cI cJ cZ a4 sw0) := hD
  refine lv_aload_n hx hb dX2_init_26 rfl (lv_at hl 0 rfl) ?_
  refine va_new (ci := 1) (fs := [.long 0, .long 0, .null, .null, .null, .null, .int 0, .int 0, .long 0, .long 0]) (C := RX1) (T := TX1) (N := 10) hx hb hts hinX1 tyX1 tyX1_ok hown hw8 hw9 hw10 hK.1 hP hD hS hA rfl (fun j hj => by rcases (show j = 0 ∨ j = 1 ∨ j = 2 ∨ j = 3 ∨ j = 4 ∨ j = 5 ∨ j = 6 ∨ j = 7 ∨ j = 8 ∨ j = 9 by omega) with rfl | rfl | rfl | rfl | rfl | rfl | rfl | rfl | rfl | rfl <;> rfl) (Nat.le_of_ble_eq_true rfl) (Nat.le_of_ble_eq_true rfl) dX2_init_27 (fun q5 H hP hD hS => ?_)
  refine W.widen (k := 17) (n := 116) (Nat.le_of_ble_eq_true rfl) (Nat.le_of_ble_eq_true rfl) ?_
  replace hP : va_P D vwCl ([(h, .inr (2, [.ref (a2 0), .ref (a4 0), .null, .int 0, .null, .null, .null, .null, .null, .int 0, .null, .int 0, .null, .null, .int 0, .null, .null]))] ++ wCi cI a2 ci0 ++ wSw cI cJ cZ a4 sw0 ++ [(q5, .inr (1, [.long 0, .long 0, .null, .null, .null, .null, .int 0, .int 0, .long 0, .long 0]))]) H := hP
  replace hD : va_D A ([(h, .inr (2, [.ref (a2 0), .ref (a4 0), .null, .int 0, .null, .null, .null, .null, .null, .int 0, .null, .int 0, .null, .null, .int 0, .null, .null]))] ++ wCi cI a2 ci0 ++ wSw cI cJ cZ a4 sw0 ++ [(q5, .inr (1, [.long 0, .long 0, .null, .null, .null, .null, .int 0, .int 0, .long 0, .long 0]))]) := hD
  refine lv_dup hx hb dX2_init_30 rfl ?_
  have hPc := P_subm (w2 := [(q5, .inr (1, [.long 0, .long 0, .null, .null, .null, .null, .int 0, .int 0, .long 0, .long 0]))]) hP [17] rfl
  have hDc := hD.sub (ws' := [(q5, .inr (1, [.long 0, .long 0, .null, .null, .null, .null, .int 0, .int 0, .long 0, .long 0]))]) [17] (by decide) rfl
  have hFc := va_free (wc := [(q5, .inr (1, [.long 0, .long 0, .null, .null, .null, .null, .int 0, .int 0, .long 0, .long 0]))]) hD hS hA [17] rfl
  refine va_callv (va_runIN (As := []) (rest := [.ref q5, .ref h]) ⟨hx, hb, hml, hown, hts⟩ (c_X1_init l D cI cJ cZ q5 _) ⟨va_cnB 0 hts gX2_init_X1_init_n18 rfl rfl rfl hK.2.2.2.2 hw10 (by decide +kernel) ⟨Nat.le_of_ble_eq_true rfl, Nat.le_of_ble_eq_true rfl⟩, rfl, hw11⟩ ⟨PreW.blind, xPrew hK hPc hDc _⟩ rfl rfl hl.1 rfl (lv_room (Nat.le_of_ble_eq_true rfl)) dX2_init_31 ⟨Nat.le_of_ble_eq_true rfl, Nat.le_of_ble_eq_true rfl⟩) hS (fun q _ h => hFc q h) hFc (fun a6 t H locs ht hvm hw hB hz1 hk1 hS => ?_)
  obtain ⟨hP1, hD1⟩ := hB
  rw [ht] at hP1
  obtain ⟨hP2, hD2⟩ := va_join (wr := ([(h, .inr (2, [.ref (a2 0), .ref (a4 0), .null, .int 0, .null, .null, .null, .null, .null, .int 0, .null, .int 0, .null, .null, .int 0, .null, .null]))] ++ wCi cI a2 ci0 ++ wSw cI cJ cZ a4 sw0)) (w1 := wSw cI cJ cZ a6 sw0) hP hD [17] [0, 1, 2, 3, 4, 5, 6, 7, 8, 9, 10, 11, 12, 13, 14, 15, 16] rfl rfl (by decide) (by decide) hk1 hFc hP1 hD1
  clear hP1 hD1 hPc hDc hFc hk1 hz1 hP hD
  have hP := hP2
  have hD := hD2
  clear hP2 hD2
  refine W.widen (k := 21) (n := 136) (Nat.le_of_ble_eq_true rfl) (Nat.le_of_ble_eq_true rfl) ?_
  replace hP : va_P D vwCl ([(h, .inr (2, [.ref (a2 0), .ref (a4 0), .null, .int 0, .null, .null, .null, .null, .null, .int 0, .null, .int 0, .null, .null, .int 0, .null, .null]))] ++ wCi cI a2 ci0 ++ wSw cI cJ cZ a4 sw0 ++ wSw cI cJ cZ a6 sw0) H := hP
  replace hD : va_D A ([(h, .inr (2, [.ref (a2 0), .ref (a4 0), .null, .int 0, .null, .null, .null, .null, .null, .int 0, .null, .int 0, .null, .null, .int 0, .null, .null]))] ++ wCi cI a2 ci0 ++ wSw cI cJ cZ a4 sw0 ++ wSw cI cJ cZ a6 sw0) := hD
  obtain rfl : q5 = a6 0 := hw.symm
  clear hw
  refine va_put (D := D) (ci := 2) (v := .ref (a6 0)) (ty := .object "SwingCircuits$Swing") (C := RX2) (T := TX2) (N := 17) hx hb hts hinX2 tyX2 tyX2_ok nmX2 hown hK.1 hP hD hS 0 rfl rfl 2 (by decide) hw13 (fun _ h9 => h9) rfl (by decide +kernel) rfl rfl (Nat.le_of_ble_eq_true rfl) dX2_init_34 (fun H locs hP hD hS => ?_)
  replace hP : va_P D vwCl ([(h, .inr (2, [.ref (a2 0), .ref (a4 0), .ref (a6 0), .int 0, .null, .null, .null, .null, .null, .int 0, .null, .int 0, .null, .null, .int 0, .null, .null]))] ++ wCi cI a2 ci0 ++ wSw cI cJ cZ a4 sw0 ++ wSw cI cJ cZ a6 sw0) H := hP
  replace hD : va_D A ([(h, .inr (2, [.ref (a2 0), .ref (a4 0), .ref (a6 0), .int 0, .null, .null, .null, .null, .null, .int 0, .null, .int 0, .null, .null, .int 0, .null, .null]))] ++ wCi cI a2 ci0 ++ wSw cI cJ cZ a4 sw0 ++ wSw cI cJ cZ a6 sw0) := hD
  refine lv_aload_n hx hb dX2_init_37 rfl (lv_at hl 0 rfl) ?_
  refine lv_iconst (v := 0) hx hb dX2_init_38 (by decide) ?_
  refine va_put (D := D) (ci := 2) (v := .int 0) (ty := .int) (C := RX2) (T := TX2) (N := 17) hx hb hts hinX2 tyX2 tyX2_ok nmX2 hown hK.1 hP hD hS 0 rfl rfl 3 (by decide) hw14 (fun _ h9 => h9) rfl (by decide +kernel) rfl rfl (Nat.le_of_ble_eq_true rfl) dX2_init_39 (fun H locs hP hD hS => ?_)
  replace hP : va_P D vwCl ([(h, .inr (2, [.ref (a2 0), .ref (a4 0), .ref (a6 0), .int 0, .null, .null, .null, .null, .null, .int 0, .null, .int 0, .null, .null, .int 0, .null, .null]))] ++ wCi cI a2 ci0 ++ wSw cI cJ cZ a4 sw0 ++ wSw cI cJ cZ a6 sw0) H := hP
  replace hD : va_D A ([(h, .inr (2, [.ref (a2 0), .ref (a4 0), .ref (a6 0), .int 0, .null, .null, .null, .null, .null, .int 0, .null, .int 0, .null, .null, .int 0, .null, .null]))] ++ wCi cI a2 ci0 ++ wSw cI cJ cZ a4 sw0 ++ wSw cI cJ cZ a6 sw0) := hD
  refine lv_aload_n hx hb dX2_init_42 rfl (lv_at hl 0 rfl) ?_
  refine lv_iconst (v := 4) hx hb dX2_init_43 (by decide) ?_
  refine va_newa (atype := .int) (ty := .int) (a0 := (4, .inl (fun _ => 0))) hx hb hw15 rfl hK.1 hP hD hS hA (fun _ => rfl) (by decide) (by decide) (by decide) (Nat.le_of_ble_eq_true rfl) (Nat.le_of_ble_eq_true rfl) dX2_init_44 (fun q7 cA H hK9 hP hD hS => ?_)
  obtain rfl : cI = cA := (arr_one hK.1 hK9 0 3 rfl rfl).symm
  clear hK9
  refine W.widen (k := 22) (n := 140) (Nat.le_of_ble_eq_true rfl) (Nat.le_of_ble_eq_true rfl) ?_
  replace hP : va_P D vwCl ([(h, .inr (2, [.ref (a2 0), .ref (a4 0), .ref (a6 0), .int 0, .null, .null, .null, .null, .null, .int 0, .null, .int 0, .null, .null, .int 0, .null, .null]))] ++ wCi cI a2 ci0 ++ wSw cI cJ cZ a4 sw0 ++ wSw cI cJ cZ a6 sw0 ++ [(q7, .inl (cI, 4, .inl (fun _ => 0)))]) H := hP
  replace hD : va_D A ([(h, .inr (2, [.ref (a2 0), .ref (a4 0), .ref (a6 0), .int 0, .null, .null, .null, .null, .null, .int 0, .null, .int 0, .null, .null, .int 0, .null, .null]))] ++ wCi cI a2 ci0 ++ wSw cI cJ cZ a4 sw0 ++ wSw cI cJ cZ a6 sw0 ++ [(q7, .inl (cI, 4, .inl (fun _ => 0)))]) := hD
  refine va_putF (D := D) (ci := 2) (v := .ref q7) (ty := .array .int) (C := RX2) (T := TX2) (N := 17) hx hb hts hinX2 tyX2 tyX2_ok nmX2 hown hK.1 hP hD hS 0 rfl rfl 4 (by decide) hw16 (fun _ h9 => h9) rfl hin rfl (by decide +kernel) rfl rfl (Nat.le_of_ble_eq_true rfl) dX2_init_46 (fun H locs hP hD hS => ?_)
  replace hP : va_P D vwCl ([(h, .inr (2, [.ref (a2 0), .ref (a4 0), .ref (a6 0), .int 0, .ref q7, .null, .null, .null, .null, .int 0, .null, .int 0, .null, .null, .int 0, .null, .null]))] ++ wCi cI a2 ci0 ++ wSw cI cJ cZ a4 sw0 ++ wSw cI cJ cZ a6 sw0 ++ [(q7, .inl (cI, 4, .inl (fun _ => 0)))]) H := hP
  replace hD : va_D A ([(h, .inr (2, [.ref (a2 0), .ref (a4 0), .ref (a6 0), .int 0, .ref q7, .null, .null, .null, .null, .int 0, .null, .int 0, .null, .null, .int 0, .null, .null]))] ++ wCi cI a2 ci0 ++ wSw cI cJ cZ a4 sw0 ++ wSw cI cJ cZ a6 sw0 ++ [(q7, .inl (cI, 4, .inl (fun _ => 0)))]) := hD
  refine lv_aload_n hx hb dX2_init_49 rfl (lv_at hl 0 rfl) ?_
  refine lv_iconst (v := 4) hx hb dX2_init_50 (by decide) ?_
  refine va_newa (atype := .int) (ty := .int) (a0 := (4, .inl (fun _ => 0))) hx hb hw15 rfl hK.1 hP hD hS hA (fun _ => rfl) (by decide) (by decide) (by decide) (Nat.le_of_ble_eq_true rfl) (Nat.le_of_ble_eq_true rfl) dX2_init_51 (fun q8 cA H hK9 hP hD hS => ?_)
  obtain rfl : cI = cA := (arr_one hK.1 hK9 0 3 rfl rfl).symm
  clear hK9
  refine W.widen (k := 23) (n := 144) (Nat.le_of_ble_eq_true rfl) (Nat.le_of_ble_eq_true rfl) ?_
  replace hP : va_P D vwCl ([(h, .inr (2, [.ref (a2 0), .ref (a4 0), .ref (a6 0), .int 0, .ref q7, .null, .null, .null, .null, .int 0, .null, .int 0, .null, .null, .int 0, .null, .null]))] ++ wCi cI a2 ci0 ++ wSw cI cJ cZ a4 sw0 ++ wSw cI cJ cZ a6 sw0 ++ [(q7, .inl (cI, 4, .inl (fun _ => 0))), (q8, .inl (cI, 4, .inl (fun _ => 0)))]) H := hP
  replace hD : va_D A ([(h, .inr (2, [.ref (a2 0), .ref (a4 0), .ref (a6 0), .int 0, .ref q7, .null, .null, .null, .null, .int 0, .null, .int 0, .null, .null, .int 0, .null, .null]))] ++ wCi cI a2 ci0 ++ wSw cI cJ cZ a4 sw0 ++ wSw cI cJ cZ a6 sw0 ++ [(q7, .inl (cI, 4, .inl (fun _ => 0))), (q8, .inl (cI, 4, .inl (fun _ => 0)))]) := hD
  refine va_putF (D := D) (ci := 2) (v := .ref q8) (ty := .array .int) (C := RX2) (T := TX2) (N := 17) hx hb hts hinX2 tyX2 tyX2_ok nmX2 hown hK.1 hP hD hS 0 rfl rfl 5 (by decide) hw17 (fun _ h9 => h9) rfl hin rfl (by decide +kernel) rfl rfl (Nat.le_of_ble_eq_true rfl) dX2_init_53 (fun H locs hP hD hS => ?_)
  replace hP : va_P D vwCl ([(h, .inr (2, [.ref (a2 0), .ref (a4 0), .ref (a6 0), .int 0, .ref q7, .ref q8, .null, .null, .null, .int 0, .null, .int 0, .null, .null, .int 0, .null, .null]))] ++ wCi cI a2 ci0 ++ wSw cI cJ cZ a4 sw0 ++ wSw cI cJ cZ a6 sw0 ++ [(q7, .inl (cI, 4, .inl (fun _ => 0))), (q8, .inl (cI, 4, .inl (fun _ => 0)))]) H := hP
  replace hD : va_D A ([(h, .inr (2, [.ref (a2 0), .ref (a4 0), .ref (a6 0), .int 0, .ref q7, .ref q8, .null, .null, .null, .int 0, .null, .int 0, .null, .null, .int 0, .null, .null]))] ++ wCi cI a2 ci0 ++ wSw cI cJ cZ a4 sw0 ++ wSw cI cJ cZ a6 sw0 ++ [(q7, .inl (cI, 4, .inl (fun _ => 0))), (q8, .inl (cI, 4, .inl (fun _ => 0)))]) := hD
  refine lv_aload_n hx hb dX2_init_56 rfl (lv_at hl 0 rfl) ?_
  refine lv_sipush (v := 500) hx hb dX2_init_57 (by decide) ?_
  refine va_newa (atype := .long) (ty := .long) (a0 := (500, .inr (.inl (fun _ => 0)))) hx hb hw18 rfl hK.1 hP hD hS hA (fun _ => rfl) (by decide) (by decide) (by decide) (Nat.le_of_ble_eq_true rfl) (Nat.le_of_ble_eq_true rfl) dX2_init_60 (fun q9 cA H hK9 hP hD hS => ?_)
  obtain rfl : cJ = cA := (arr_oneJ hK.1 hK9 1 3 rfl rfl).symm
  clear hK9
  refine W.widen (k := 24) (n := 644) (Nat.le_of_ble_eq_true rfl) (Nat.le_of_ble_eq_true rfl) ?_
  replace hP : va_P D vwCl ([(h, .inr (2, [.ref (a2 0), .ref (a4 0), .ref (a6 0), .int 0, .ref q7, .ref q8, .null, .null, .null, .int 0, .null, .int 0, .null, .null, .int 0, .null, .null]))] ++ wCi cI a2 ci0 ++ wSw cI cJ cZ a4 sw0 ++ wSw cI cJ cZ a6 sw0 ++ [(q7, .inl (cI, 4, .inl (fun _ => 0))), (q8, .inl (cI, 4, .inl (fun _ => 0))), (q9, .inl (cJ, 500, .inr (.inl (fun _ => 0))))]) H := hP
  replace hD : va_D A ([(h, .inr (2, [.ref (a2 0), .ref (a4 0), .ref (a6 0), .int 0, .ref q7, .ref q8, .null, .null, .null, .int 0, .null, .int 0, .null, .null, .int 0, .null, .null]))] ++ wCi cI a2 ci0 ++ wSw cI cJ cZ a4 sw0 ++ wSw cI cJ cZ a6 sw0 ++ [(q7, .inl (cI, 4, .inl (fun _ => 0))), (q8, .inl (cI, 4, .inl (fun _ => 0))), (q9, .inl (cJ, 500, .inr (.inl (fun _ => 0))))]) := hD
  refine va_putF (D := D) (ci := 2) (v := .ref q9) (ty := .array .long) (C := RX2) (T := TX2) (N := 17) hx hb hts hinX2 tyX2 tyX2_ok nmX2 hown hK.1 hP hD hS 0 rfl rfl 6 (by decide) hw19 (fun _ h9 => h9) rfl hin rfl (by decide +kernel) rfl rfl (Nat.le_of_ble_eq_true rfl) dX2_init_62 (fun H locs hP hD hS => ?_)
  replace hP : va_P D vwCl ([(h, .inr (2, [.ref (a2 0), .ref (a4 0), .ref (a6 0), .int 0, .ref q7, .ref q8, .ref q9, .null, .null, .int 0, .null, .int 0, .null, .null, .int 0, .null, .null]))] ++ wCi cI a2 ci0 ++ wSw cI cJ cZ a4 sw0 ++ wSw cI cJ cZ a6 sw0 ++ [(q7, .inl (cI, 4, .inl (fun _ => 0))), (q8, .inl (cI, 4, .inl (fun _ => 0))), (q9, .inl (cJ, 500, .inr (.inl (fun _ => 0))))]) H := hP
  replace hD : va_D A ([(h, .inr (2, [.ref (a2 0), .ref (a4 0), .ref (a6 0), .int 0, .ref q7, .ref q8, .ref q9, .null, .null, .int 0, .null, .int 0, .null, .null, .int 0, .null, .null]))] ++ wCi cI a2 ci0 ++ wSw cI cJ cZ a4 sw0 ++ wSw cI cJ cZ a6 sw0 ++ [(q7, .inl (cI, 4, .inl (fun _ => 0))), (q8, .inl (cI, 4, .inl (fun _ => 0))), (q9, .inl (cJ, 500, .inr (.inl (fun _ => 0))))]) := hD
  refine lv_aload_n hx hb dX2_init_65 rfl (lv_at hl 0 rfl) ?_
  refine lv_sipush (v := 1806) hx hb dX2_init_66 (by decide) ?_
  refine va_newa (atype := .long) (ty := .long) (a0 := (1806, .inr (.inl (fun _ => 0)))) hx hb hw18 rfl hK.1 hP hD hS hA (fun _ => rfl) (by decide) (by decide) (by decide) (Nat.le_of_ble_eq_true rfl) (Nat.le_of_ble_eq_true rfl) dX2_init_69 (fun q10 cA H hK9 hP hD hS => ?_)
  obtain rfl : cJ = cA := (arr_oneJ hK.1 hK9 1 3 rfl rfl).symm
  clear hK9
  refine W.widen (k := 25) (n := 2450) (Nat.le_of_ble_eq_true rfl) (Nat.le_of_ble_eq_true rfl) ?_
  replace hP : va_P D vwCl ([(h, .inr (2, [.ref (a2 0), .ref (a4 0), .ref (a6 0), .int 0, .ref q7, .ref q8, .ref q9, .null, .null, .int 0, .null, .int 0, .null, .null, .int 0, .null, .null]))] ++ wCi cI a2 ci0 ++ wSw cI cJ cZ a4 sw0 ++ wSw cI cJ cZ a6 sw0 ++ [(q7, .inl (cI, 4, .inl (fun _ => 0))), (q8, .inl (cI, 4, .inl (fun _ => 0))), (q9, .inl (cJ, 500, .inr (.inl (fun _ => 0)))), (q10, .inl (cJ, 1806, .inr (.inl (fun _ => 0))))]) H := hP
  replace hD : va_D A ([(h, .inr (2, [.ref (a2 0), .ref (a4 0), .ref (a6 0), .int 0, .ref q7, .ref q8, .ref q9, .null, .null, .int 0, .null, .int 0, .null, .null, .int 0, .null, .null]))] ++ wCi cI a2 ci0 ++ wSw cI cJ cZ a4 sw0 ++ wSw cI cJ cZ a6 sw0 ++ [(q7, .inl (cI, 4, .inl (fun _ => 0))), (q8, .inl (cI, 4, .inl (fun _ => 0))), (q9, .inl (cJ, 500, .inr (.inl (fun _ => 0)))), (q10, .inl (cJ, 1806, .inr (.inl (fun _ => 0))))]) := hD
  refine va_putF (D := D) (ci := 2) (v := .ref q10) (ty := .array .long) (C := RX2) (T := TX2) (N := 17) hx hb hts hinX2 tyX2 tyX2_ok nmX2 hown hK.1 hP hD hS 0 rfl rfl 7 (by decide) hw20 (fun _ h9 => h9) rfl hin rfl (by decide +kernel) rfl rfl (Nat.le_of_ble_eq_true rfl) dX2_init_71 (fun H locs hP hD hS => ?_)
  replace hP : va_P D vwCl ([(h, .inr (2, [.ref (a2 0), .ref (a4 0), .ref (a6 0), .int 0, .ref q7, .ref q8, .ref q9, .ref q10, .null, .int 0, .null, .int 0, .null, .null, .int 0, .null, .null]))] ++ wCi cI a2 ci0 ++ wSw cI cJ cZ a4 sw0 ++ wSw cI cJ cZ a6 sw0 ++ [(q7, .inl (cI, 4, .inl (fun _ => 0))), (q8, .inl (cI, 4, .inl (fun _ => 0))), (q9, .inl (cJ, 500, .inr (.inl (fun _ => 0)))), (q10, .inl (cJ, 1806, .inr (.inl (fun _ => 0))))]) H := hP
  replace hD : va_D A ([(h, .inr (2, [.ref (a2 0), .ref (a4 0), .ref (a6 0), .int 0, .ref q7, .ref q8, .ref q9, .ref q10, .null, .int 0, .null, .int 0, .null, .null, .int 0, .null, .null]))] ++ wCi cI a2 ci0 ++ wSw cI cJ cZ a4 sw0 ++ wSw cI cJ cZ a6 sw0 ++ [(q7, .inl (cI, 4, .inl (fun _ => 0))), (q8, .inl (cI, 4, .inl (fun _ => 0))), (q9, .inl (cJ, 500, .inr (.inl (fun _ => 0)))), (q10, .inl (cJ, 1806, .inr (.inl (fun _ => 0))))]) := hD
  refine lv_aload_n hx hb dX2_init_74 rfl (lv_at hl 0 rfl) ?_
  refine lv_bipush (v := 8) hx hb dX2_init_75 (by decide) ?_
  refine va_newa (atype := .long) (ty := .long) (a0 := (8, .inr (.inl (fun _ => 0)))) hx hb hw18 rfl hK.1 hP hD hS hA (fun _ => rfl) (by decide) (by decide) (by decide) (Nat.le_of_ble_eq_true rfl) (Nat.le_of_ble_eq_true rfl) dX2_init_77 (fun q11 cA H hK9 hP hD hS => ?_)
  obtain rfl : cJ = cA := (arr_oneJ hK.1 hK9 1 3 rfl rfl).symm
  clear hK9
  refine W.widen (k := 26) (n := 2458) (Nat.le_of_ble_eq_true rfl) (Nat.le_of_ble_eq_true rfl) ?_
  replace hP : va_P D vwCl ([(h, .inr (2, [.ref (a2 0), .ref (a4 0), .ref (a6 0), .int 0, .ref q7, .ref q8, .ref q9, .ref q10, .null, .int 0, .null, .int 0, .null, .null, .int 0, .null, .null]))] ++ wCi cI a2 ci0 ++ wSw cI cJ cZ a4 sw0 ++ wSw cI cJ cZ a6 sw0 ++ [(q7, .inl (cI, 4, .inl (fun _ => 0))), (q8, .inl (cI, 4, .inl (fun _ => 0))), (q9, .inl (cJ, 500, .inr (.inl (fun _ => 0)))), (q10, .inl (cJ, 1806, .inr (.inl (fun _ => 0)))), (q11, .inl (cJ, 8, .inr (.inl (fun _ => 0))))]) H := hP
  replace hD : va_D A ([(h, .inr (2, [.ref (a2 0), .ref (a4 0), .ref (a6 0), .int 0, .ref q7, .ref q8, .ref q9, .ref q10, .null, .int 0, .null, .int 0, .null, .null, .int 0, .null, .null]))] ++ wCi cI a2 ci0 ++ wSw cI cJ cZ a4 sw0 ++ wSw cI cJ cZ a6 sw0 ++ [(q7, .inl (cI, 4, .inl (fun _ => 0))), (q8, .inl (cI, 4, .inl (fun _ => 0))), (q9, .inl (cJ, 500, .inr (.inl (fun _ => 0)))), (q10, .inl (cJ, 1806, .inr (.inl (fun _ => 0)))), (q11, .inl (cJ, 8, .inr (.inl (fun _ => 0))))]) := hD
  refine va_putF (D := D) (ci := 2) (v := .ref q11) (ty := .array .long) (C := RX2) (T := TX2) (N := 17) hx hb hts hinX2 tyX2 tyX2_ok nmX2 hown hK.1 hP hD hS 0 rfl rfl 8 (by decide) hw21 (fun _ h9 => h9) rfl hin rfl (by decide +kernel) rfl rfl (Nat.le_of_ble_eq_true rfl) dX2_init_79 (fun H locs hP hD hS => ?_)
  replace hP : va_P D vwCl ([(h, .inr (2, [.ref (a2 0), .ref (a4 0), .ref (a6 0), .int 0, .ref q7, .ref q8, .ref q9, .ref q10, .ref q11, .int 0, .null, .int 0, .null, .null, .int 0, .null, .null]))] ++ wCi cI a2 ci0 ++ wSw cI cJ cZ a4 sw0 ++ wSw cI cJ cZ a6 sw0 ++ [(q7, .inl (cI, 4, .inl (fun _ => 0))), (q8, .inl (cI, 4, .inl (fun _ => 0))), (q9, .inl (cJ, 500, .inr (.inl (fun _ => 0)))), (q10, .inl (cJ, 1806, .inr (.inl (fun _ => 0)))), (q11, .inl (cJ, 8, .inr (.inl (fun _ => 0))))]) H := hP
  replace hD : va_D A ([(h, .inr (2, [.ref (a2 0), .ref (a4 0), .ref (a6 0), .int 0, .ref q7, .ref q8, .ref q9, .ref q10, .ref q11, .int 0, .null, .int 0, .null, .null, .int 0, .null, .null]))] ++ wCi cI a2 ci0 ++ wSw cI cJ cZ a4 sw0 ++ wSw cI cJ cZ a6 sw0 ++ [(q7, .inl (cI, 4, .inl (fun _ => 0))), (q8, .inl (cI, 4, .inl (fun _ => 0))), (q9, .inl (cJ, 500, .inr (.inl (fun _ => 0)))), (q10, .inl (cJ, 1806, .inr (.inl (fun _ => 0)))), (q11, .inl (cJ, 8, .inr (.inl (fun _ => 0))))]) := hD
  refine lv_aload_n hx hb dX2_init_82 rfl (lv_at hl 0 rfl) ?_
  refine lv_iconst (v := 0) hx hb dX2_init_83 (by decide) ?_
  refine va_put (D := D) (ci := 2) (v := .int 0) (ty := .boolean) (C := RX2) (T := TX2) (N := 17) hx hb hts hinX2 tyX2 tyX2_ok nmX2 hown hK.1 hP hD hS 0 rfl rfl 9 (by decide) hw22 (fun _ h9 => h9) rfl (by decide +kernel) rfl rfl (Nat.le_of_ble_eq_true rfl) dX2_init_84 (fun H locs hP hD hS => ?_)
  replace hP : va_P D vwCl ([(h, .inr (2, [.ref (a2 0), .ref (a4 0), .ref (a6 0), .int 0, .ref q7, .ref q8, .ref q9, .ref q10, .ref q11, .int 0, .null, .int 0, .null, .null, .int 0, .null, .null]))] ++ wCi cI a2 ci0 ++ wSw cI cJ cZ a4 sw0 ++ wSw cI cJ cZ a6 sw0 ++ [(q7, .inl (cI, 4, .inl (fun _ => 0))), (q8, .inl (cI, 4, .inl (fun _ => 0))), (q9, .inl (cJ, 500, .inr (.inl (fun _ => 0)))), (q10, .inl (cJ, 1806, .inr (.inl (fun _ => 0)))), (q11, .inl (cJ, 8, .inr (.inl (fun _ => 0))))]) H := hP
  replace hD : va_D A ([(h, .inr (2, [.ref (a2 0), .ref (a4 0), .ref (a6 0), .int 0, .ref q7, .ref q8, .ref q9, .ref q10, .ref q11, .int 0, .null, .int 0, .null, .null, .int 0, .null, .null]))] ++ wCi cI a2 ci0 ++ wSw cI cJ cZ a4 sw0 ++ wSw cI cJ cZ a6 sw0 ++ [(q7, .inl (cI, 4, .inl (fun _ => 0))), (q8, .inl (cI, 4, .inl (fun _ => 0))), (q9, .inl (cJ, 500, .inr (.inl (fun _ => 0)))), (q10, .inl (cJ, 1806, .inr (.inl (fun _ => 0)))), (q11, .inl (cJ, 8, .inr (.inl (fun _ => 0))))]) := hD
  refine lv_aload_n hx hb dX2_init_87 rfl (lv_at hl 0 rfl) ?_
  refine lv_bipush (v := 10) hx hb dX2_init_88 (by decide) ?_
  refine va_newa (atype := .int) (ty := .int) (a0 := (10, .inl (fun _ => 0))) hx hb hw15 rfl hK.1 hP hD hS hA (fun _ => rfl) (by decide) (by decide) (by decide) (Nat.le_of_ble_eq_true rfl) (Nat.le_of_ble_eq_true rfl) dX2_init_90 (fun q12 cA H hK9 hP hD hS => ?_)
  obtain rfl : cI = cA := (arr_one hK.1 hK9 0 3 rfl rfl).symm
  clear hK9
  refine W.widen (k := 27) (n := 2468) (Nat.le_of_ble_eq_true rfl) (Nat.le_of_ble_eq_true rfl) ?_
  replace hP : va_P D vwCl ([(h, .inr (2, [.ref (a2 0), .ref (a4 0), .ref (a6 0), .int 0, .ref q7, .ref q8, .ref q9, .ref q10, .ref q11, .int 0, .null, .int 0, .null, .null, .int 0, .null, .null]))] ++ wCi cI a2 ci0 ++ wSw cI cJ cZ a4 sw0 ++ wSw cI cJ cZ a6 sw0 ++ [(q7, .inl (cI, 4, .inl (fun _ => 0))), (q8, .inl (cI, 4, .inl (fun _ => 0))), (q9, .inl (cJ, 500, .inr (.inl (fun _ => 0)))), (q10, .inl (cJ, 1806, .inr (.inl (fun _ => 0)))), (q11, .inl (cJ, 8, .inr (.inl (fun _ => 0)))), (q12, .inl (cI, 10, .inl (fun _ => 0)))]) H := hP
  replace hD : va_D A ([(h, .inr (2, [.ref (a2 0), .ref (a4 0), .ref (a6 0), .int 0, .ref q7, .ref q8, .ref q9, .ref q10, .ref q11, .int 0, .null, .int 0, .null, .null, .int 0, .null, .null]))] ++ wCi cI a2 ci0 ++ wSw cI cJ cZ a4 sw0 ++ wSw cI cJ cZ a6 sw0 ++ [(q7, .inl (cI, 4, .inl (fun _ => 0))), (q8, .inl (cI, 4, .inl (fun _ => 0))), (q9, .inl (cJ, 500, .inr (.inl (fun _ => 0)))), (q10, .inl (cJ, 1806, .inr (.inl (fun _ => 0)))), (q11, .inl (cJ, 8, .inr (.inl (fun _ => 0)))), (q12, .inl (cI, 10, .inl (fun _ => 0)))]) := hD
  refine va_putF (D := D) (ci := 2) (v := .ref q12) (ty := .array .int) (C := RX2) (T := TX2) (N := 17) hx hb hts hinX2 tyX2 tyX2_ok nmX2 hown hK.1 hP hD hS 0 rfl rfl 10 (by decide) hw23 (fun _ h9 => h9) rfl hin rfl (by decide +kernel) rfl rfl (Nat.le_of_ble_eq_true rfl) dX2_init_92 (fun H locs hP hD hS => ?_)
  replace hP : va_P D vwCl ([(h, .inr (2, [.ref (a2 0), .ref (a4 0), .ref (a6 0), .int 0, .ref q7, .ref q8, .ref q9, .ref q10, .ref q11, .int 0, .ref q12, .int 0, .null, .null, .int 0, .null, .null]))] ++ wCi cI a2 ci0 ++ wSw cI cJ cZ a4 sw0 ++ wSw cI cJ cZ a6 sw0 ++ [(q7, .inl (cI, 4, .inl (fun _ => 0))), (q8, .inl (cI, 4, .inl (fun _ => 0))), (q9, .inl (cJ, 500, .inr (.inl (fun _ => 0)))), (q10, .inl (cJ, 1806, .inr (.inl (fun _ => 0)))), (q11, .inl (cJ, 8, .inr (.inl (fun _ => 0)))), (q12, .inl (cI, 10, .inl (fun _ => 0)))]) H := hP
  replace hD : va_D A ([(h, .inr (2, [.ref (a2 0), .ref (a4 0), .ref (a6 0), .int 0, .ref q7, .ref q8, .ref q9, .ref q10, .ref q11, .int 0, .ref q12, .int 0, .null, .null, .int 0, .null, .null]))] ++ wCi cI a2 ci0 ++ wSw cI cJ cZ a4 sw0 ++ wSw cI cJ cZ a6 sw0 ++ [(q7, .inl (cI, 4, .inl (fun _ => 0))), (q8, .inl (cI, 4, .inl (fun _ => 0))), (q9, .inl (cJ, 500, .inr (.inl (fun _ => 0)))), (q10, .inl (cJ, 1806, .inr (.inl (fun _ => 0)))), (q11, .inl (cJ, 8, .inr (.inl (fun _ => 0)))), (q12, .inl (cI, 10, .inl (fun _ => 0)))]) := hD
  refine lv_aload_n hx hb dX2_init_95 rfl (lv_at hl 0 rfl) ?_
  refine lv_iconst (v := 0) hx hb dX2_init_96 (by decide) ?_
  refine va_put (D := D) (ci := 2) (v := .int 0) (ty := .int) (C := RX2) (T := TX2) (N := 17) hx hb hts hinX2 tyX2 tyX2_ok nmX2 hown hK.1 hP hD hS 0 rfl rfl 11 (by decide) hw24 (fun _ h9 => h9) rfl (by decide +kernel) rfl rfl (Nat.le_of_ble_eq_true rfl) dX2_init_97 (fun H locs hP hD hS => ?_)
  replace hP : va_P D vwCl ([(h, .inr (2, [.ref (a2 0), .ref (a4 0), .ref (a6 0), .int 0, .ref q7, .ref q8, .ref q9, .ref q10, .ref q11, .int 0, .ref q12, .int 0, .null, .null, .int 0, .null, .null]))] ++ wCi cI a2 ci0 ++ wSw cI cJ cZ a4 sw0 ++ wSw cI cJ cZ a6 sw0 ++ [(q7, .inl (cI, 4, .inl (fun _ => 0))), (q8, .inl (cI, 4, .inl (fun _ => 0))), (q9, .inl (cJ, 500, .inr (.inl (fun _ => 0)))), (q10, .inl (cJ, 1806, .inr (.inl (fun _ => 0)))), (q11, .inl (cJ, 8, .inr (.inl (fun _ => 0)))), (q12, .inl (cI, 10, .inl (fun _ => 0)))]) H := hP
  replace hD : va_D A ([(h, .inr (2, [.ref (a2 0), .ref (a4 0), .ref (a6 0), .int 0, .ref q7, .ref q8, .ref q9, .ref q10, .ref q11, .int 0, .ref q12, .int 0, .null, .null, .int 0, .null, .null]))] ++ wCi cI a2 ci0 ++ wSw cI cJ cZ a4 sw0 ++ wSw cI cJ cZ a6 sw0 ++ [(q7, .inl (cI, 4, .inl (fun _ => 0))), (q8, .inl (cI, 4, .inl (fun _ => 0))), (q9, .inl (cJ, 500, .inr (.inl (fun _ => 0)))), (q10, .inl (cJ, 1806, .inr (.inl (fun _ => 0)))), (q11, .inl (cJ, 8, .inr (.inl (fun _ => 0)))), (q12, .inl (cI, 10, .inl (fun _ => 0)))]) := hD
  refine lv_aload_n hx hb dX2_init_100 rfl (lv_at hl 0 rfl) ?_
  refine lv_bipush (v := 8) hx hb dX2_init_101 (by decide) ?_
  refine va_newa (atype := .int) (ty := .int) (a0 := (8, .inl (fun _ => 0))) hx hb hw15 rfl hK.1 hP hD hS hA (fun _ => rfl) (by decide) (by decide) (by decide) (Nat.le_of_ble_eq_true rfl) (Nat.le_of_ble_eq_true rfl) dX2_init_103 (fun q13 cA H hK9 hP hD hS => ?_)
  obtain rfl : cI = cA := (arr_one hK.1 hK9 0 3 rfl rfl).symm
  clear hK9
  refine W.widen (k := 28) (n := 2476) (Nat.le_of_ble_eq_true rfl) (Nat.le_of_ble_eq_true rfl) ?_
  replace hP : va_P D vwCl ([(h, .inr (2, [.ref (a2 0), .ref (a4 0), .ref (a6 0), .int 0, .ref q7, .ref q8, .ref q9, .ref q10, .ref q11, .int 0, .ref q12, .int 0, .null, .null, .int 0, .null, .null]))] ++ wCi cI a2 ci0 ++ wSw cI cJ cZ a4 sw0 ++ wSw cI cJ cZ a6 sw0 ++ [(q7, .inl (cI, 4, .inl (fun _ => 0))), (q8, .inl (cI, 4, .inl (fun _ => 0))), (q9, .inl (cJ, 500, .inr (.inl (fun _ => 0)))), (q10, .inl (cJ, 1806, .inr (.inl (fun _ => 0)))), (q11, .inl (cJ, 8, .inr (.inl (fun _ => 0)))), (q12, .inl (cI, 10, .inl (fun _ => 0))), (q13, .inl (cI, 8, .inl (fun _ => 0)))]) H := hP
  replace hD : va_D A ([(h, .inr (2, [.ref (a2 0), .ref (a4 0), .ref (a6 0), .int 0, .ref q7, .ref q8, .ref q9, .ref q10, .ref q11, .int 0, .ref q12, .int 0, .null, .null, .int 0, .null, .null]))] ++ wCi cI a2 ci0 ++ wSw cI cJ cZ a4 sw0 ++ wSw cI cJ cZ a6 sw0 ++ [(q7, .inl (cI, 4, .inl (fun _ => 0))), (q8, .inl (cI, 4, .inl (fun _ => 0))), (q9, .inl (cJ, 500, .inr (.inl (fun _ => 0)))), (q10, .inl (cJ, 1806, .inr (.inl (fun _ => 0)))), (q11, .inl (cJ, 8, .inr (.inl (fun _ => 0)))), (q12, .inl (cI, 10, .inl (fun _ => 0))), (q13, .inl (cI, 8, .inl (fun _ => 0)))]) := hD
  refine va_putF (D := D) (ci := 2) (v := .ref q13) (ty := .array .int) (C := RX2) (T := TX2) (N := 17) hx hb hts hinX2 tyX2 tyX2_ok nmX2 hown hK.1 hP hD hS 0 rfl rfl 12 (by decide) hw25 (fun _ h9 => h9) rfl hin rfl (by decide +kernel) rfl rfl (Nat.le_of_ble_eq_true rfl) dX2_init_105 (fun H locs hP hD hS => ?_)
  replace hP : va_P D vwCl ([(h, .inr (2, [.ref (a2 0), .ref (a4 0), .ref (a6 0), .int 0, .ref q7, .ref q8, .ref q9, .ref q10, .ref q11, .int 0, .ref q12, .int 0, .ref q13, .null, .int 0, .null, .null]))] ++ wCi cI a2 ci0 ++ wSw cI cJ cZ a4 sw0 ++ wSw cI cJ cZ a6 sw0 ++ [(q7, .inl (cI, 4, .inl (fun _ => 0))), (q8, .inl (cI, 4, .inl (fun _ => 0))), (q9, .inl (cJ, 500, .inr (.inl (fun _ => 0)))), (q10, .inl (cJ, 1806, .inr (.inl (fun _ => 0)))), (q11, .inl (cJ, 8, .inr (.inl (fun _ => 0)))), (q12, .inl (cI, 10, .inl (fun _ => 0))), (q13, .inl (cI, 8, .inl (fun _ => 0)))]) H := hP
  replace hD : va_D A ([(h, .inr (2, [.ref (a2 0), .ref (a4 0), .ref (a6 0), .int 0, .ref q7, .ref q8, .ref q9, .ref q10, .ref q11, .int 0, .ref q12, .int 0, .ref q13, .null, .int 0, .null, .null]))] ++ wCi cI a2 ci0 ++ wSw cI cJ cZ a4 sw0 ++ wSw cI cJ cZ a6 sw0 ++ [(q7, .inl (cI, 4, .inl (fun _ => 0))), (q8, .inl (cI, 4, .inl (fun _ => 0))), (q9, .inl (cJ, 500, .inr (.inl (fun _ => 0)))), (q10, .inl (cJ, 1806, .inr (.inl (fun _ => 0)))), (q11, .inl (cJ, 8, .inr (.inl (fun _ => 0)))), (q12, .inl (cI, 10, .inl (fun _ => 0))), (q13, .inl (cI, 8, .inl (fun _ => 0)))]) := hD
  refine lv_aload_n hx hb dX2_init_108 rfl (lv_at hl 0 rfl) ?_
  refine lv_bipush (v := 8) hx hb dX2_init_109 (by decide) ?_
  refine va_newa (atype := .int) (ty := .int) (a0 := (8, .inl (fun _ => 0))) hx hb hw15 rfl hK.1 hP hD hS hA (fun _ => rfl) (by decide) (by decide) (by decide) (Nat.le_of_ble_eq_true rfl) (Nat.le_of_ble_eq_true rfl) dX2_init_111 (fun q14 cA H hK9 hP hD hS => ?_)
  obtain rfl : cI = cA := (arr_one hK.1 hK9 0 3 rfl rfl).symm
  clear hK9
  refine W.widen (k := 29) (n := 2484) (Nat.le_of_ble_eq_true rfl) (Nat.le_of_ble_eq_true rfl) ?_
  replace hP : va_P D vwCl ([(h, .inr (2, [.ref (a2 0), .ref (a4 0), .ref (a6 0), .int 0, .ref q7, .ref q8, .ref q9, .ref q10, .ref q11, .int 0, .ref q12, .int 0, .ref q13, .null, .int 0, .null, .null]))] ++ wCi cI a2 ci0 ++ wSw cI cJ cZ a4 sw0 ++ wSw cI cJ cZ a6 sw0 ++ [(q7, .inl (cI, 4, .inl (fun _ => 0))), (q8, .inl (cI, 4, .inl (fun _ => 0))), (q9, .inl (cJ, 500, .inr (.inl (fun _ => 0)))), (q10, .inl (cJ, 1806, .inr (.inl (fun _ => 0)))), (q11, .inl (cJ, 8, .inr (.inl (fun _ => 0)))), (q12, .inl (cI, 10, .inl (fun _ => 0))), (q13, .inl (cI, 8, .inl (fun _ => 0))), (q14, .inl (cI, 8, .inl (fun _ => 0)))]) H := hP
  replace hD : va_D A ([(h, .inr (2, [.ref (a2 0), .ref (a4 0), .ref (a6 0), .int 0, .ref q7, .ref q8, .ref q9, .ref q10, .ref q11, .int 0, .ref q12, .int 0, .ref q13, .null, .int 0, .null, .null]))] ++ wCi cI a2 ci0 ++ wSw cI cJ cZ a4 sw0 ++ wSw cI cJ cZ a6 sw0 ++ [(q7, .inl (cI, 4, .inl (fun _ => 0))), (q8, .inl (cI, 4, .inl (fun _ => 0))), (q9, .inl (cJ, 500, .inr (.inl (fun _ => 0)))), (q10, .inl (cJ, 1806, .inr (.inl (fun _ => 0)))), (q11, .inl (cJ, 8, .inr (.inl (fun _ => 0)))), (q12, .inl (cI, 10, .inl (fun _ => 0))), (q13, .inl (cI, 8, .inl (fun _ => 0))), (q14, .inl (cI, 8, .inl (fun _ => 0)))]) := hD
  refine va_putF (D := D) (ci := 2) (v := .ref q14) (ty := .array .int) (C := RX2) (T := TX2) (N := 17) hx hb hts hinX2 tyX2 tyX2_ok nmX2 hown hK.1 hP hD hS 0 rfl rfl 13 (by decide) hw26 (fun _ h9 => h9) rfl hin rfl (by decide +kernel) rfl rfl (Nat.le_of_ble_eq_true rfl) dX2_init_113 (fun H locs hP hD hS => ?_)
  replace hP : va_P D vwCl ([(h, .inr (2, [.ref (a2 0), .ref (a4 0), .ref (a6 0), .int 0, .ref q7, .ref q8, .ref q9, .ref q10, .ref q11, .int 0, .ref q12, .int 0, .ref q13, .ref q14, .int 0, .null, .null]))] ++ wCi cI a2 ci0 ++ wSw cI cJ cZ a4 sw0 ++ wSw cI cJ cZ a6 sw0 ++ [(q7, .inl (cI, 4, .inl (fun _ => 0))), (q8, .inl (cI, 4, .inl (fun _ => 0))), (q9, .inl (cJ, 500, .inr (.inl (fun _ => 0)))), (q10, .inl (cJ, 1806, .inr (.inl (fun _ => 0)))), (q11, .inl (cJ, 8, .inr (.inl (fun _ => 0)))), (q12, .inl (cI, 10, .inl (fun _ => 0))), (q13, .inl (cI, 8, .inl (fun _ => 0))), (q14, .inl (cI, 8, .inl (fun _ => 0)))]) H := hP
  replace hD : va_D A ([(h, .inr (2, [.ref (a2 0), .ref (a4 0), .ref (a6 0), .int 0, .ref q7, .ref q8, .ref q9, .ref q10, .ref q11, .int 0, .ref q12, .int 0, .ref q13, .ref q14, .int 0, .null, .null]))] ++ wCi cI a2 ci0 ++ wSw cI cJ cZ a4 sw0 ++ wSw cI cJ cZ a6 sw0 ++ [(q7, .inl (cI, 4, .inl (fun _ => 0))), (q8, .inl (cI, 4, .inl (fun _ => 0))), (q9, .inl (cJ, 500, .inr (.inl (fun _ => 0)))), (q10, .inl (cJ, 1806, .inr (.inl (fun _ => 0)))), (q11, .inl (cJ, 8, .inr (.inl (fun _ => 0)))), (q12, .inl (cI, 10, .inl (fun _ => 0))), (q13, .inl (cI, 8, .inl (fun _ => 0))), (q14, .inl (cI, 8, .inl (fun _ => 0)))]) := hD
  refine lv_aload_n hx hb dX2_init_116 rfl (lv_at hl 0 rfl) ?_
  refine lv_iconst (v := 0) hx hb dX2_init_117 (by decide) ?_
  refine va_put (D := D) (ci := 2) (v := .int 0) (ty := .int) (C := RX2) (T := TX2) (N := 17) hx hb hts hinX2 tyX2 tyX2_ok nmX2 hown hK.1 hP hD hS 0 rfl rfl 14 (by decide) hw27 (fun _ h9 => h9) rfl (by decide +kernel) rfl rfl (Nat.le_of_ble_eq_true rfl) dX2_init_118 (fun H locs hP hD hS => ?_)
  replace hP : va_P D vwCl ([(h, .inr (2, [.ref (a2 0), .ref (a4 0), .ref (a6 0), .int 0, .ref q7, .ref q8, .ref q9, .ref q10, .ref q11, .int 0, .ref q12, .int 0, .ref q13, .ref q14, .int 0, .null, .null]))] ++ wCi cI a2 ci0 ++ wSw cI cJ cZ a4 sw0 ++ wSw cI cJ cZ a6 sw0 ++ [(q7, .inl (cI, 4, .inl (fun _ => 0))), (q8, .inl (cI, 4, .inl (fun _ => 0))), (q9, .inl (cJ, 500, .inr (.inl (fun _ => 0)))), (q10, .inl (cJ, 1806, .inr (.inl (fun _ => 0)))), (q11, .inl (cJ, 8, .inr (.inl (fun _ => 0)))), (q12, .inl (cI, 10, .inl (fun _ => 0))), (q13, .inl (cI, 8, .inl (fun _ => 0))), (q14, .inl (cI, 8, .inl (fun _ => 0)))]) H := hP
  replace hD : va_D A ([(h, .inr (2, [.ref (a2 0), .ref (a4 0), .ref (a6 0), .int 0, .ref q7, .ref q8, .ref q9, .ref q10, .ref q11, .int 0, .ref q12, .int 0, .ref q13, .ref q14, .int 0, .null, .null]))] ++ wCi cI a2 ci0 ++ wSw cI cJ cZ a4 sw0 ++ wSw cI cJ cZ a6 sw0 ++ [(q7, .inl (cI, 4, .inl (fun _ => 0))), (q8, .inl (cI, 4, .inl (fun _ => 0))), (q9, .inl (cJ, 500, .inr (.inl (fun _ => 0)))), (q10, .inl (cJ, 1806, .inr (.inl (fun _ => 0)))), (q11, .inl (cJ, 8, .inr (.inl (fun _ => 0)))), (q12, .inl (cI, 10, .inl (fun _ => 0))), (q13, .inl (cI, 8, .inl (fun _ => 0))), (q14, .inl (cI, 8, .inl (fun _ => 0)))]) := hD
  refine lv_aload_n hx hb dX2_init_121 rfl (lv_at hl 0 rfl) ?_
  refine lv_bipush (v := 100) hx hb dX2_init_122 (by decide) ?_
  refine va_newa (atype := .int) (ty := .int) (a0 := (100, .inl (fun _ => 0))) hx hb hw15 rfl hK.1 hP hD hS hA (fun _ => rfl) (by decide) (by decide) (by decide) (Nat.le_of_ble_eq_true rfl) (Nat.le_of_ble_eq_true rfl) dX2_init_124 (fun q15 cA H hK9 hP hD hS => ?_)
  obtain rfl : cI = cA := (arr_one hK.1 hK9 0 3 rfl rfl).symm
  clear hK9
  refine W.widen (k := 30) (n := 2584) (Nat.le_of_ble_eq_true rfl) (Nat.le_of_ble_eq_true rfl) ?_
  replace hP : va_P D vwCl ([(h, .inr (2, [.ref (a2 0), .ref (a4 0), .ref (a6 0), .int 0, .ref q7, .ref q8, .ref q9, .ref q10, .ref q11, .int 0, .ref q12, .int 0, .ref q13, .ref q14, .int 0, .null, .null]))] ++ wCi cI a2 ci0 ++ wSw cI cJ cZ a4 sw0 ++ wSw cI cJ cZ a6 sw0 ++ [(q7, .inl (cI, 4, .inl (fun _ => 0))), (q8, .inl (cI, 4, .inl (fun _ => 0))), (q9, .inl (cJ, 500, .inr (.inl (fun _ => 0)))), (q10, .inl (cJ, 1806, .inr (.inl (fun _ => 0)))), (q11, .inl (cJ, 8, .inr (.inl (fun _ => 0)))), (q12, .inl (cI, 10, .inl (fun _ => 0))), (q13, .inl (cI, 8, .inl (fun _ => 0))), (q14, .inl (cI, 8, .inl (fun _ => 0))), (q15, .inl (cI, 100, .inl (fun _ => 0)))]) H := hP
  replace hD : va_D A ([(h, .inr (2, [.ref (a2 0), .ref (a4 0), .ref (a6 0), .int 0, .ref q7, .ref q8, .ref q9, .ref q10, .ref q11, .int 0, .ref q12, .int 0, .ref q13, .ref q14, .int 0, .null, .null]))] ++ wCi cI a2 ci0 ++ wSw cI cJ cZ a4 sw0 ++ wSw cI cJ cZ a6 sw0 ++ [(q7, .inl (cI, 4, .inl (fun _ => 0))), (q8, .inl (cI, 4, .inl (fun _ => 0))), (q9, .inl (cJ, 500, .inr (.inl (fun _ => 0)))), (q10, .inl (cJ, 1806, .inr (.inl (fun _ => 0)))), (q11, .inl (cJ, 8, .inr (.inl (fun _ => 0)))), (q12, .inl (cI, 10, .inl (fun _ => 0))), (q13, .inl (cI, 8, .inl (fun _ => 0))), (q14, .inl (cI, 8, .inl (fun _ => 0))), (q15, .inl (cI, 100, .inl (fun _ => 0)))]) := hD
  refine va_putF (D := D) (ci := 2) (v := .ref q15) (ty := .array .int) (C := RX2) (T := TX2) (N := 17) hx hb hts hinX2 tyX2 tyX2_ok nmX2 hown hK.1 hP hD hS 0 rfl rfl 15 (by decide) hw28 (fun _ h9 => h9) rfl hin rfl (by decide +kernel) rfl rfl (Nat.le_of_ble_eq_true rfl) dX2_init_126 (fun H locs hP hD hS => ?_)
  replace hP : va_P D vwCl ([(h, .inr (2, [.ref (a2 0), .ref (a4 0), .ref (a6 0), .int 0, .ref q7, .ref q8, .ref q9, .ref q10, .ref q11, .int 0, .ref q12, .int 0, .ref q13, .ref q14, .int 0, .ref q15, .null]))] ++ wCi cI a2 ci0 ++ wSw cI cJ cZ a4 sw0 ++ wSw cI cJ cZ a6 sw0 ++ [(q7, .inl (cI, 4, .inl (fun _ => 0))), (q8, .inl (cI, 4, .inl (fun _ => 0))), (q9, .inl (cJ, 500, .inr (.inl (fun _ => 0)))), (q10, .inl (cJ, 1806, .inr (.inl (fun _ => 0)))), (q11, .inl (cJ, 8, .inr (.inl (fun _ => 0)))), (q12, .inl (cI, 10, .inl (fun _ => 0))), (q13, .inl (cI, 8, .inl (fun _ => 0))), (q14, .inl (cI, 8, .inl (fun _ => 0))), (q15, .inl (cI, 100, .inl (fun _ => 0)))]) H := hP
  replace hD : va_D A ([(h, .inr (2, [.ref (a2 0), .ref (a4 0), .ref (a6 0), .int 0, .ref q7, .ref q8, .ref q9, .ref q10, .ref q11, .int 0, .ref q12, .int 0, .ref q13, .ref q14, .int 0, .ref q15, .null]))] ++ wCi cI a2 ci0 ++ wSw cI cJ cZ a4 sw0 ++ wSw cI cJ cZ a6 sw0 ++ [(q7, .inl (cI, 4, .inl (fun _ => 0))), (q8, .inl (cI, 4, .inl (fun _ => 0))), (q9, .inl (cJ, 500, .inr (.inl (fun _ => 0)))), (q10, .inl (cJ, 1806, .inr (.inl (fun _ => 0)))), (q11, .inl (cJ, 8, .inr (.inl (fun _ => 0)))), (q12, .inl (cI, 10, .inl (fun _ => 0))), (q13, .inl (cI, 8, .inl (fun _ => 0))), (q14, .inl (cI, 8, .inl (fun _ => 0))), (q15, .inl (cI, 100, .inl (fun _ => 0)))]) := hD
  refine lv_aload_n hx hb dX2_init_129 rfl (lv_at hl 0 rfl) ?_
  refine lv_bipush (v := 80) hx hb dX2_init_130 (by decide) ?_
  refine va_newa (atype := .int) (ty := .int) (a0 := (80, .inl (fun _ => 0))) hx hb hw15 rfl hK.1 hP hD hS hA (fun _ => rfl) (by decide) (by decide) (by decide) (Nat.le_of_ble_eq_true rfl) (Nat.le_of_ble_eq_true rfl) dX2_init_132 (fun q16 cA H hK9 hP hD hS => ?_)
  obtain rfl : cI = cA := (arr_one hK.1 hK9 0 3 rfl rfl).symm
  clear hK9
  refine W.widen (k := 31) (n := 2664) (Nat.le_of_ble_eq_true rfl) (Nat.le_of_ble_eq_true rfl) ?_
  replace hP : va_P D vwCl ([(h, .inr (2, [.ref (a2 0), .ref (a4 0), .ref (a6 0), .int 0, .ref q7, .ref q8, .ref q9, .ref q10, .ref q11, .int 0, .ref q12, .int 0, .ref q13, .ref q14, .int 0, .ref q15, .null]))] ++ wCi cI a2 ci0 ++ wSw cI cJ cZ a4 sw0 ++ wSw cI cJ cZ a6 sw0 ++ [(q7, .inl (cI, 4, .inl (fun _ => 0))), (q8, .inl (cI, 4, .inl (fun _ => 0))), (q9, .inl (cJ, 500, .inr (.inl (fun _ => 0)))), (q10, .inl (cJ, 1806, .inr (.inl (fun _ => 0)))), (q11, .inl (cJ, 8, .inr (.inl (fun _ => 0)))), (q12, .inl (cI, 10, .inl (fun _ => 0))), (q13, .inl (cI, 8, .inl (fun _ => 0))), (q14, .inl (cI, 8, .inl (fun _ => 0))), (q15, .inl (cI, 100, .inl (fun _ => 0))), (q16, .inl (cI, 80, .inl (fun _ => 0)))]) H := hP
  replace hD : va_D A ([(h, .inr (2, [.ref (a2 0), .ref (a4 0), .ref (a6 0), .int 0, .ref q7, .ref q8, .ref q9, .ref q10, .ref q11, .int 0, .ref q12, .int 0, .ref q13, .ref q14, .int 0, .ref q15, .null]))] ++ wCi cI a2 ci0 ++ wSw cI cJ cZ a4 sw0 ++ wSw cI cJ cZ a6 sw0 ++ [(q7, .inl (cI, 4, .inl (fun _ => 0))), (q8, .inl (cI, 4, .inl (fun _ => 0))), (q9, .inl (cJ, 500, .inr (.inl (fun _ => 0)))), (q10, .inl (cJ, 1806, .inr (.inl (fun _ => 0)))), (q11, .inl (cJ, 8, .inr (.inl (fun _ => 0)))), (q12, .inl (cI, 10, .inl (fun _ => 0))), (q13, .inl (cI, 8, .inl (fun _ => 0))), (q14, .inl (cI, 8, .inl (fun _ => 0))), (q15, .inl (cI, 100, .inl (fun _ => 0))), (q16, .inl (cI, 80, .inl (fun _ => 0)))]) := hD
  refine va_putF (D := D) (ci := 2) (v := .ref q16) (ty := .array .int) (C := RX2) (T := TX2) (N := 17) hx hb hts hinX2 tyX2 tyX2_ok nmX2 hown hK.1 hP hD hS 0 rfl rfl 16 (by decide) hw29 (fun _ h9 => h9) rfl hin rfl (by decide +kernel) rfl rfl (Nat.le_of_ble_eq_true rfl) dX2_init_134 (fun H locs hP hD hS => ?_)
  replace hP : va_P D vwCl ([(h, .inr (2, [.ref (a2 0), .ref (a4 0), .ref (a6 0), .int 0, .ref q7, .ref q8, .ref q9, .ref q10, .ref q11, .int 0, .ref q12, .int 0, .ref q13, .ref q14, .int 0, .ref q15, .ref q16]))] ++ wCi cI a2 ci0 ++ wSw cI cJ cZ a4 sw0 ++ wSw cI cJ cZ a6 sw0 ++ [(q7, .inl (cI, 4, .inl (fun _ => 0))), (q8, .inl (cI, 4, .inl (fun _ => 0))), (q9, .inl (cJ, 500, .inr (.inl (fun _ => 0)))), (q10, .inl (cJ, 1806, .inr (.inl (fun _ => 0)))), (q11, .inl (cJ, 8, .inr (.inl (fun _ => 0)))), (q12, .inl (cI, 10, .inl (fun _ => 0))), (q13, .inl (cI, 8, .inl (fun _ => 0))), (q14, .inl (cI, 8, .inl (fun _ => 0))), (q15, .inl (cI, 100, .inl (fun _ => 0))), (q16, .inl (cI, 80, .inl (fun _ => 0)))]) H := hP
  replace hD : va_D A ([(h, .inr (2, [.ref (a2 0), .ref (a4 0), .ref (a6 0), .int 0, .ref q7, .ref q8, .ref q9, .ref q10, .ref q11, .int 0, .ref q12, .int 0, .ref q13, .ref q14, .int 0, .ref q15, .ref q16]))] ++ wCi cI a2 ci0 ++ wSw cI cJ cZ a4 sw0 ++ wSw cI cJ cZ a6 sw0 ++ [(q7, .inl (cI, 4, .inl (fun _ => 0))), (q8, .inl (cI, 4, .inl (fun _ => 0))), (q9, .inl (cJ, 500, .inr (.inl (fun _ => 0)))), (q10, .inl (cJ, 1806, .inr (.inl (fun _ => 0)))), (q11, .inl (cJ, 8, .inr (.inl (fun _ => 0)))), (q12, .inl (cI, 10, .inl (fun _ => 0))), (q13, .inl (cI, 8, .inl (fun _ => 0))), (q14, .inl (cI, 8, .inl (fun _ => 0))), (q15, .inl (cI, 100, .inl (fun _ => 0))), (q16, .inl (cI, 80, .inl (fun _ => 0)))]) := hD
  obtain ⟨aM, hM⟩ : ∃ a : Nat → Nat, a = fun k => ([h, q7, q8, q9, q10, q11, q12, q13, q14, q15, q16] : List Nat).getD k 0 := ⟨_, rfl⟩
  replace hP : va_P D vwCl (wX cI cJ aM a2 a4 a6 xo0 ++ wCi cI a2 ci0 ++ wSw cI cJ cZ a4 sw0 ++ wSw cI cJ cZ a6 sw0) H := by subst hM; exact P_subm hP [0, 22, 23, 24, 25, 26, 27, 28, 29, 30, 31, 1, 2, 3, 4, 5, 6, 7, 8, 9, 10, 11, 12, 13, 14, 15, 16, 17, 18, 19, 20, 21] rfl
  replace hD : va_D A (wX cI cJ aM a2 a4 a6 xo0 ++ wCi cI a2 ci0 ++ wSw cI cJ cZ a4 sw0 ++ wSw cI cJ cZ a6 sw0) := by subst hM; exact hD.sub [0, 22, 23, 24, 25, 26, 27, 28, 29, 30, 31, 1, 2, 3, 4, 5, 6, 7, 8, 9, 10, 11, 12, 13, 14, 15, 16, 17, 18, 19, 20, 21] (by decide) rfl
  exact W.vret hx hb hr (fun t ht _ => ⟨⟨(aM, a2, a4, a6), rfl, by rw [hM]; rfl, by rw [ht]; exact hP, hD⟩, hS.F ht⟩) hS.2.2 dX2_init_137

