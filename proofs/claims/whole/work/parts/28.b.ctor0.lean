abbrev rmX0_init : Room := { frames := 1, cells := 10, slots := 64, locals := 12 }
set_option maxHeartbeats 40000000 in
set_option maxRecDepth 100000 in
theorem c_X0_init (l : Launch) (D : va_G) (cI cJ cZ : ClassId) (h : Nat) : ∀ sz : Nat, Met l yX0_init wsX0_init rmX0_init (va_Pc [.ref h] (PreW D cI cJ cZ ([(h, .inr (0, [.int 0, .null, .null, .null, .null, .int 0, .null, .null, .null, .null, .null, .null]))]) sz)) (va_Qv (fun a : Nat → Nat => a 0 = h) (fun a t => PostW D (va_A ([(h, .inr (0, [.int 0, .null, .null, .null, .null, .int 0, .null, .null, .null, .null, .null, .null]))]) sz) (wCi cI a ci0) t) (va_A ([(h, .inr (0, [.int 0, .null, .null, .null, .null, .int 0, .null, .null, .null, .null, .null, .null]))]) sz)) 10 64 (va_A ([(h, .inr (0, [.int 0, .null, .null, .null, .null, .int 0, .null, .null, .null, .null, .null, .null]))]) sz) := by
  intro sz
  refine Met.ofW (cc := cX0_init) (maxL := 1) (ret := none) (by decide) rfl ?_
  intro p e s m args below meth c s₁ B hml hv
  obtain ⟨rfl, hsz, hP, hK, hD0⟩ := hv
  have hx := B.exec
  have hb := B.bytes
  have hr := B.returns
  have hts := atoms_spec (ws := wsX0_init) B.pre
  have hown : s.vm.findClass RX0 = some m.cls := findClass_of_methodNamed B.named
  have hlocks := B.notSynchronized
  have hin : meth.name = "<init>" := (name_of_methodNamed B.named B.method).1
  subst hsz
  have hD := hD0.self (sz := s.heap.size)
  clear hD0
  generalize hAe : va_A ([(h, .inr (0, [.int 0, .null, .null, .null, .null, .int 0, .null, .null, .null, .null, .null, .null]))]) s.heap.size = A at hD ⊢
  have hA : ∀ q : Nat, s.heap.size ≤ q → A q := fun q h => by rw [← hAe]; exact Or.inr h
  have hS : va_S A s.heap s.heap [] := va_S.rf
  have hinX0 : ∀ w ∈ wsX00, w ∈ wsX0_init := by decide +kernel
  have hw0 : (Cond.methodLink RX0 3 objectInit).before _ s = true := hts _ (by decide +kernel)
  have hw1 : (Cond.instanceMethod objectInit).before _ s = true := hts _ (by decide +kernel)
  have hw2 : (Cond.code objectInit ⟨#[0xb1]⟩ 1 none).before _ s = true := hts _ (by decide +kernel)
  have hw3 : (Cond.fieldLink RX0 9 "SwingCircuits$Circuit" "cells" "I").before _ s = true := hts _ (by decide +kernel)
  have hw4 : (Cond.arrayClass .int).before _ s = true := hts _ (by decide +kernel)
  have hw5 : (Cond.fieldLink RX0 15 "SwingCircuits$Circuit" "low" "[I").before _ s = true := hts _ (by decide +kernel)
  have hw6 : (Cond.fieldLink RX0 19 "SwingCircuits$Circuit" "high" "[I").before _ s = true := hts _ (by decide +kernel)
  have hw7 : (Cond.fieldLink RX0 22 "SwingCircuits$Circuit" "rise" "[I").before _ s = true := hts _ (by decide +kernel)
  have hw8 : (Cond.fieldLink RX0 25 "SwingCircuits$Circuit" "fall" "[I").before _ s = true := hts _ (by decide +kernel)
  have hw9 : (Cond.fieldLink RX0 28 "SwingCircuits$Circuit" "links" "I").before _ s = true := hts _ (by decide +kernel)
  have hw10 : (Cond.fieldLink RX0 31 "SwingCircuits$Circuit" "from" "[I").before _ s = true := hts _ (by decide +kernel)
  have hw11 : (Cond.fieldLink RX0 34 "SwingCircuits$Circuit" "at" "[I").before _ s = true := hts _ (by decide +kernel)
  have hw12 : (Cond.fieldLink RX0 37 "SwingCircuits$Circuit" "nth" "[I").before _ s = true := hts _ (by decide +kernel)
  have hw13 : (Cond.fieldLink RX0 40 "SwingCircuits$Circuit" "to" "[I").before _ s = true := hts _ (by decide +kernel)
  have hw14 : (Cond.fieldLink RX0 43 "SwingCircuits$Circuit" "act" "[I").before _ s = true := hts _ (by decide +kernel)
  have hw15 : (Cond.fieldLink RX0 46 "SwingCircuits$Circuit" "by" "[I").before _ s = true := hts _ (by decide +kernel)
  have hl := lv_entry ([.ref h]) (n := 1) (Nat.le_of_ble_eq_true rfl)
  rw [lg_entry_eq]
  generalize (lg_sl ([.ref h]) ++ List.replicate (1 - (lg_sl ([.ref h])).length) Slot.unset).toArray = ls at hl ⊢
  replace hl : lv_has ls 1 [(0, .ref h)] := hl
  refine lv_aload_n hx hb dX0_init_0 rfl (lv_at hl 0 rfl) ?_
  refine W.objInit hx hb hown hw0 hw1 hw2 rfl (by rw [hml]; exact hl.1) rfl dX0_init_1 (Nat.le_of_ble_eq_true rfl) (Nat.le_of_ble_eq_true rfl) ?_
  refine W.eq (g2 := F0 m 4 ls []) rfl ?_
  refine lv_aload_n hx hb dX0_init_4 rfl (lv_at hl 0 rfl) ?_
  refine lv_iconst (v := 0) hx hb dX0_init_5 (by decide) ?_
  refine va_put (D := D) (ci := 0) (v := .int 0) (ty := .int) (C := RX0) (T := TX0) (N := 12) hx hb hts hinX0 tyX0 tyX0_ok nmX0 hown hK.1 hP hD hS 0 rfl rfl 0 (by decide) hw3 (fun _ h9 => h9) rfl (by decide +kernel) rfl rfl (Nat.le_of_ble_eq_true rfl) dX0_init_6 (fun H locs hP hD hS => ?_)
  replace hP : va_P D vwCl ([(h, .inr (0, [.int 0, .null, .null, .null, .null, .int 0, .null, .null, .null, .null, .null, .null]))]) H := hP
  replace hD : va_D A ([(h, .inr (0, [.int 0, .null, .null, .null, .null, .int 0, .null, .null, .null, .null, .null, .null]))]) := hD
  refine lv_aload_n hx hb dX0_init_9 rfl (lv_at hl 0 rfl) ?_
  refine lv_iconst (v := 4) hx hb dX0_init_10 (by decide) ?_
  refine va_newa (atype := .int) (ty := .int) (a0 := (4, .inl (fun _ => 0))) hx hb hw4 rfl hK.1 hP hD hS hA (fun _ => rfl) (by decide) (by decide) (by decide) (Nat.le_of_ble_eq_true rfl) (Nat.le_of_ble_eq_true rfl) dX0_init_11 (fun q1 cA H hK9 hP hD hS => ?_)
  obtain rfl : cI = cA := (arr_one hK.1 hK9 0 3 rfl rfl).symm
  clear hK9
  refine W.widen (k := 1) (n := 4) (Nat.le_of_ble_eq_true rfl) (Nat.le_of_ble_eq_true rfl) ?_
  replace hP : va_P D vwCl ([(h, .inr (0, [.int 0, .null, .null, .null, .null, .int 0, .null, .null, .null, .null, .null, .null])), (q1, .inl (cI, 4, .inl (fun _ => 0)))]) H := hP
  replace hD : va_D A ([(h, .inr (0, [.int 0, .null, .null, .null, .null, .int 0, .null, .null, .null, .null, .null, .null])), (q1, .inl (cI, 4, .inl (fun _ => 0)))]) := hD
  refine va_putF (D := D) (ci := 0) (v := .ref q1) (ty := .array .int) (C := RX0) (T := TX0) (N := 12) hx hb hts hinX0 tyX0 tyX0_ok nmX0 hown hK.1 hP hD hS 0 rfl rfl 1 (by decide) hw5 (fun _ h9 => h9) rfl hin rfl (by decide +kernel) rfl rfl (Nat.le_of_ble_eq_true rfl) dX0_init_13 (fun H locs hP hD hS => ?_)
  replace hP : va_P D vwCl ([(h, .inr (0, [.int 0, .ref q1, .null, .null, .null, .int 0, .null, .null, .null, .null, .null, .null])), (q1, .inl (cI, 4, .inl (fun _ => 0)))]) H := hP
  replace hD : va_D A ([(h, .inr (0, [.int 0, .ref q1, .null, .null, .null, .int 0, .null, .null, .null, .null, .null, .null])), (q1, .inl (cI, 4, .inl (fun _ => 0)))]) := hD
  refine lv_aload_n hx hb dX0_init_16 rfl (lv_at hl 0 rfl) ?_
  refine lv_iconst (v := 4) hx hb dX0_init_17 (by decide) ?_
  refine va_newa (atype := .int) (ty := .int) (a0 := (4, .inl (fun _ => 0))) hx hb hw4 rfl hK.1 hP hD hS hA (fun _ => rfl) (by decide) (by decide) (by decide) (Nat.le_of_ble_eq_true rfl) (Nat.le_of_ble_eq_true rfl) dX0_init_18 (fun q2 cA H hK9 hP hD hS => ?_)
  obtain rfl : cI = cA := (arr_one hK.1 hK9 0 3 rfl rfl).symm
  clear hK9
  refine W.widen (k := 2) (n := 8) (Nat.le_of_ble_eq_true rfl) (Nat.le_of_ble_eq_true rfl) ?_
  replace hP : va_P D vwCl ([(h, .inr (0, [.int 0, .ref q1, .null, .null, .null, .int 0, .null, .null, .null, .null, .null, .null])), (q1, .inl (cI, 4, .inl (fun _ => 0))), (q2, .inl (cI, 4, .inl (fun _ => 0)))]) H := hP
  replace hD : va_D A ([(h, .inr (0, [.int 0, .ref q1, .null, .null, .null, .int 0, .null, .null, .null, .null, .null, .null])), (q1, .inl (cI, 4, .inl (fun _ => 0))), (q2, .inl (cI, 4, .inl (fun _ => 0)))]) := hD
  refine va_putF (D := D) (ci := 0) (v := .ref q2) (ty := .array .int) (C := RX0) (T := TX0) (N := 12) hx hb hts hinX0 tyX0 tyX0_ok nmX0 hown hK.1 hP hD hS 0 rfl rfl 2 (by decide) hw6 (fun _ h9 => h9) rfl hin rfl (by decide +kernel) rfl rfl (Nat.le_of_ble_eq_true rfl) dX0_init_20 (fun H locs hP hD hS => ?_)
  replace hP : va_P D vwCl ([(h, .inr (0, [.int 0, .ref q1, .ref q2, .null, .null, .int 0, .null, .null, .null, .null, .null, .null])), (q1, .inl (cI, 4, .inl (fun _ => 0))), (q2, .inl (cI, 4, .inl (fun _ => 0)))]) H := hP
  replace hD : va_D A ([(h, .inr (0, [.int 0, .ref q1, .ref q2, .null, .null, .int 0, .null, .null, .null, .null, .null, .null])), (q1, .inl (cI, 4, .inl (fun _ => 0))), (q2, .inl (cI, 4, .inl (fun _ => 0)))]) := hD
  refine lv_aload_n hx hb dX0_init_23 rfl (lv_at hl 0 rfl) ?_
  refine lv_iconst (v := 4) hx hb dX0_init_24 (by decide) ?_
  refine va_newa (atype := .int) (ty := .int) (a0 := (4, .inl (fun _ => 0))) hx hb hw4 rfl hK.1 hP hD hS hA (fun _ => rfl) (by decide) (by decide) (by decide) (Nat.le_of_ble_eq_true rfl) (Nat.le_of_ble_eq_true rfl) dX0_init_25 (fun q3 cA H hK9 hP hD hS => ?_)
  obtain rfl : cI = cA := (arr_one hK.1 hK9 0 3 rfl rfl).symm
  clear hK9
  refine W.widen (k := 3) (n := 12) (Nat.le_of_ble_eq_true rfl) (Nat.le_of_ble_eq_true rfl) ?_
  replace hP : va_P D vwCl ([(h, .inr (0, [.int 0, .ref q1, .ref q2, .null, .null, .int 0, .null, .null, .null, .null, .null, .null])), (q1, .inl (cI, 4, .inl (fun _ => 0))), (q2, .inl (cI, 4, .inl (fun _ => 0))), (q3, .inl (cI, 4, .inl (fun _ => 0)))]) H := hP
  replace hD : va_D A ([(h, .inr (0, [.int 0, .ref q1, .ref q2, .null, .null, .int 0, .null, .null, .null, .null, .null, .null])), (q1, .inl (cI, 4, .inl (fun _ => 0))), (q2, .inl (cI, 4, .inl (fun _ => 0))), (q3, .inl (cI, 4, .inl (fun _ => 0)))]) := hD
  refine va_putF (D := D) (ci := 0) (v := .ref q3) (ty := .array .int) (C := RX0) (T := TX0) (N := 12) hx hb hts hinX0 tyX0 tyX0_ok nmX0 hown hK.1 hP hD hS 0 rfl rfl 3 (by decide) hw7 (fun _ h9 => h9) rfl hin rfl (by decide +kernel) rfl rfl (Nat.le_of_ble_eq_true rfl) dX0_init_27 (fun H locs hP hD hS => ?_)
  replace hP : va_P D vwCl ([(h, .inr (0, [.int 0, .ref q1, .ref q2, .ref q3, .null, .int 0, .null, .null, .null, .null, .null, .null])), (q1, .inl (cI, 4, .inl (fun _ => 0))), (q2, .inl (cI, 4, .inl (fun _ => 0))), (q3, .inl (cI, 4, .inl (fun _ => 0)))]) H := hP
  replace hD : va_D A ([(h, .inr (0, [.int 0, .ref q1, .ref q2, .ref q3, .null, .int 0, .null, .null, .null, .null, .null, .null])), (q1, .inl (cI, 4, .inl (fun _ => 0))), (q2, .inl (cI, 4, .inl (fun _ => 0))), (q3, .inl (cI, 4, .inl (fun _ => 0)))]) := hD
  refine lv_aload_n hx hb dX0_init_30 rfl (lv_at hl 0 rfl) ?_
  refine lv_iconst (v := 4) hx hb dX0_init_31 (by decide) ?_
  refine va_newa (atype := .int) (ty := .int) (a0 := (4, .inl (fun _ => 0))) hx hb hw4 rfl hK.1 hP hD hS hA (fun _ => rfl) (by decide) (by decide) (by decide) (Nat.le_of_ble_eq_true rfl) (Nat.le_of_ble_eq_true rfl) dX0_init_32 (fun q4 cA H hK9 hP hD hS => ?_)
  obtain rfl : cI = cA := (arr_one hK.1 hK9 0 3 rfl rfl).symm
  clear hK9
  refine W.widen (k := 4) (n := 16) (Nat.le_of_ble_eq_true rfl) (Nat.le_of_ble_eq_true rfl) ?_
  replace hP : va_P D vwCl ([(h, .inr (0, [.int 0, .ref q1, .ref q2, .ref q3, .null, .int 0, .null, .null, .null, .null, .null, .null])), (q1, .inl (cI, 4, .inl (fun _ => 0))), (q2, .inl (cI, 4, .inl (fun _ => 0))), (q3, .inl (cI, 4, .inl (fun _ => 0))), (q4, .inl (cI, 4, .inl (fun _ => 0)))]) H := hP
  replace hD : va_D A ([(h, .inr (0, [.int 0, .ref q1, .ref q2, .ref q3, .null, .int 0, .null, .null, .null, .null, .null, .null])), (q1, .inl (cI, 4, .inl (fun _ => 0))), (q2, .inl (cI, 4, .inl (fun _ => 0))), (q3, .inl (cI, 4, .inl (fun _ => 0))), (q4, .inl (cI, 4, .inl (fun _ => 0)))]) := hD
  refine va_putF (D := D) (ci := 0) (v := .ref q4) (ty := .array .int) (C := RX0) (T := TX0) (N := 12) hx hb hts hinX0 tyX0 tyX0_ok nmX0 hown hK.1 hP hD hS 0 rfl rfl 4 (by decide) hw8 (fun _ h9 => h9) rfl hin rfl (by decide +kernel) rfl rfl (Nat.le_of_ble_eq_true rfl) dX0_init_34 (fun H locs hP hD hS => ?_)
  replace hP : va_P D vwCl ([(h, .inr (0, [.int 0, .ref q1, .ref q2, .ref q3, .ref q4, .int 0, .null, .null, .null, .null, .null, .null])), (q1, .inl (cI, 4, .inl (fun _ => 0))), (q2, .inl (cI, 4, .inl (fun _ => 0))), (q3, .inl (cI, 4, .inl (fun _ => 0))), (q4, .inl (cI, 4, .inl (fun _ => 0)))]) H := hP
  replace hD : va_D A ([(h, .inr (0, [.int 0, .ref q1, .ref q2, .ref q3, .ref q4, .int 0, .null, .null, .null, .null, .null, .null])), (q1, .inl (cI, 4, .inl (fun _ => 0))), (q2, .inl (cI, 4, .inl (fun _ => 0))), (q3, .inl (cI, 4, .inl (fun _ => 0))), (q4, .inl (cI, 4, .inl (fun _ => 0)))]) := hD
  refine lv_aload_n hx hb dX0_init_37 rfl (lv_at hl 0 rfl) ?_
  refine lv_iconst (v := 0) hx hb dX0_init_38 (by decide) ?_
  refine va_put (D := D) (ci := 0) (v := .int 0) (ty := .int) (C := RX0) (T := TX0) (N := 12) hx hb hts hinX0 tyX0 tyX0_ok nmX0 hown hK.1 hP hD hS 0 rfl rfl 5 (by decide) hw9 (fun _ h9 => h9) rfl (by decide +kernel) rfl rfl (Nat.le_of_ble_eq_true rfl) dX0_init_39 (fun H locs hP hD hS => ?_)
  replace hP : va_P D vwCl ([(h, .inr (0, [.int 0, .ref q1, .ref q2, .ref q3, .ref q4, .int 0, .null, .null, .null, .null, .null, .null])), (q1, .inl (cI, 4, .inl (fun _ => 0))), (q2, .inl (cI, 4, .inl (fun _ => 0))), (q3, .inl (cI, 4, .inl (fun _ => 0))), (q4, .inl (cI, 4, .inl (fun _ => 0)))]) H := hP
  replace hD : va_D A ([(h, .inr (0, [.int 0, .ref q1, .ref q2, .ref q3, .ref q4, .int 0, .null, .null, .null, .null, .null, .null])), (q1, .inl (cI, 4, .inl (fun _ => 0))), (q2, .inl (cI, 4, .inl (fun _ => 0))), (q3, .inl (cI, 4, .inl (fun _ => 0))), (q4, .inl (cI, 4, .inl (fun _ => 0)))]) := hD
  refine lv_aload_n hx hb dX0_init_42 rfl (lv_at hl 0 rfl) ?_
  refine lv_bipush (v := 8) hx hb dX0_init_43 (by decide) ?_
  refine va_newa (atype := .int) (ty := .int) (a0 := (8, .inl (fun _ => 0))) hx hb hw4 rfl hK.1 hP hD hS hA (fun _ => rfl) (by decide) (by decide) (by decide) (Nat.le_of_ble_eq_true rfl) (Nat.le_of_ble_eq_true rfl) dX0_init_45 (fun q5 cA H hK9 hP hD hS => ?_)
  obtain rfl : cI = cA := (arr_one hK.1 hK9 0 3 rfl rfl).symm
  clear hK9
  refine W.widen (k := 5) (n := 24) (Nat.le_of_ble_eq_true rfl) (Nat.le_of_ble_eq_true rfl) ?_
  replace hP : va_P D vwCl ([(h, .inr (0, [.int 0, .ref q1, .ref q2, .ref q3, .ref q4, .int 0, .null, .null, .null, .null, .null, .null])), (q1, .inl (cI, 4, .inl (fun _ => 0))), (q2, .inl (cI, 4, .inl (fun _ => 0))), (q3, .inl (cI, 4, .inl (fun _ => 0))), (q4, .inl (cI, 4, .inl (fun _ => 0))), (q5, .inl (cI, 8, .inl (fun _ => 0)))]) H := hP
  replace hD : va_D A ([(h, .inr (0, [.int 0, .ref q1, .ref q2, .ref q3, .ref q4, .int 0, .null, .null, .null, .null, .null, .null])), (q1, .inl (cI, 4, .inl (fun _ => 0))), (q2, .inl (cI, 4, .inl (fun _ => 0))), (q3, .inl (cI, 4, .inl (fun _ => 0))), (q4, .inl (cI, 4, .inl (fun _ => 0))), (q5, .inl (cI, 8, .inl (fun _ => 0)))]) := hD
  refine va_putF (D := D) (ci := 0) (v := .ref q5) (ty := .array .int) (C := RX0) (T := TX0) (N := 12) hx hb hts hinX0 tyX0 tyX0_ok nmX0 hown hK.1 hP hD hS 0 rfl rfl 6 (by decide) hw10 (fun _ h9 => h9) rfl hin rfl (by decide +kernel) rfl rfl (Nat.le_of_ble_eq_true rfl) dX0_init_47 (fun H locs hP hD hS => ?_)
  replace hP : va_P D vwCl ([(h, .inr (0, [.int 0, .ref q1, .ref q2, .ref q3, .ref q4, .int 0, .ref q5, .null, .null, .null, .null, .null])), (q1, .inl (cI, 4, .inl (fun _ => 0))), (q2, .inl (cI, 4, .inl (fun _ => 0))), (q3, .inl (cI, 4, .inl (fun _ => 0))), (q4, .inl (cI, 4, .inl (fun _ => 0))), (q5, .inl (cI, 8, .inl (fun _ => 0)))]) H := hP
  replace hD : va_D A ([(h, .inr (0, [.int 0, .ref q1, .ref q2, .ref q3, .ref q4, .int 0, .ref q5, .null, .null, .null, .null, .null])), (q1, .inl (cI, 4, .inl (fun _ => 0))), (q2, .inl (cI, 4, .inl (fun _ => 0))), (q3, .inl (cI, 4, .inl (fun _ => 0))), (q4, .inl (cI, 4, .inl (fun _ => 0))), (q5, .inl (cI, 8, .inl (fun _ => 0)))]) := hD
  refine lv_aload_n hx hb dX0_init_50 rfl (lv_at hl 0 rfl) ?_
  refine lv_bipush (v := 8) hx hb dX0_init_51 (by decide) ?_
  refine va_newa (atype := .int) (ty := .int) (a0 := (8, .inl (fun _ => 0))) hx hb hw4 rfl hK.1 hP hD hS hA (fun _ => rfl) (by decide) (by decide) (by decide) (Nat.le_of_ble_eq_true rfl) (Nat.le_of_ble_eq_true rfl) dX0_init_53 (fun q6 cA H hK9 hP hD hS => ?_)
  obtain rfl : cI = cA := (arr_one hK.1 hK9 0 3 rfl rfl).symm
  clear hK9
  refine W.widen (k := 6) (n := 32) (Nat.le_of_ble_eq_true rfl) (Nat.le_of_ble_eq_true rfl) ?_
  replace hP : va_P D vwCl ([(h, .inr (0, [.int 0, .ref q1, .ref q2, .ref q3, .ref q4, .int 0, .ref q5, .null, .null, .null, .null, .null])), (q1, .inl (cI, 4, .inl (fun _ => 0))), (q2, .inl (cI, 4, .inl (fun _ => 0))), (q3, .inl (cI, 4, .inl (fun _ => 0))), (q4, .inl (cI, 4, .inl (fun _ => 0))), (q5, .inl (cI, 8, .inl (fun _ => 0))), (q6, .inl (cI, 8, .inl (fun _ => 0)))]) H := hP
  replace hD : va_D A ([(h, .inr (0, [.int 0, .ref q1, .ref q2, .ref q3, .ref q4, .int 0, .ref q5, .null, .null, .null, .null, .null])), (q1, .inl (cI, 4, .inl (fun _ => 0))), (q2, .inl (cI, 4, .inl (fun _ => 0))), (q3, .inl (cI, 4, .inl (fun _ => 0))), (q4, .inl (cI, 4, .inl (fun _ => 0))), (q5, .inl (cI, 8, .inl (fun _ => 0))), (q6, .inl (cI, 8, .inl (fun _ => 0)))]) := hD
  refine va_putF (D := D) (ci := 0) (v := .ref q6) (ty := .array .int) (C := RX0) (T := TX0) (N := 12) hx hb hts hinX0 tyX0 tyX0_ok nmX0 hown hK.1 hP hD hS 0 rfl rfl 7 (by decide) hw11 (fun _ h9 => h9) rfl hin rfl (by decide +kernel) rfl rfl (Nat.le_of_ble_eq_true rfl) dX0_init_55 (fun H locs hP hD hS => ?_)
  replace hP : va_P D vwCl ([(h, .inr (0, [.int 0, .ref q1, .ref q2, .ref q3, .ref q4, .int 0, .ref q5, .ref q6, .null, .null, .null, .null])), (q1, .inl (cI, 4, .inl (fun _ => 0))), (q2, .inl (cI, 4, .inl (fun _ => 0))), (q3, .inl (cI, 4, .inl (fun _ => 0))), (q4, .inl (cI, 4, .inl (fun _ => 0))), (q5, .inl (cI, 8, .inl (fun _ => 0))), (q6, .inl (cI, 8, .inl (fun _ => 0)))]) H := hP
  replace hD : va_D A ([(h, .inr (0, [.int 0, .ref q1, .ref q2, .ref q3, .ref q4, .int 0, .ref q5, .ref q6, .null, .null, .null, .null])), (q1, .inl (cI, 4, .inl (fun _ => 0))), (q2, .inl (cI, 4, .inl (fun _ => 0))), (q3, .inl (cI, 4, .inl (fun _ => 0))), (q4, .inl (cI, 4, .inl (fun _ => 0))), (q5, .inl (cI, 8, .inl (fun _ => 0))), (q6, .inl (cI, 8, .inl (fun _ => 0)))]) := hD
  refine lv_aload_n hx hb dX0_init_58 rfl (lv_at hl 0 rfl) ?_
  refine lv_bipush (v := 8) hx hb dX0_init_59 (by decide) ?_
  refine va_newa (atype := .int) (ty := .int) (a0 := (8, .inl (fun _ => 0))) hx hb hw4 rfl hK.1 hP hD hS hA (fun _ => rfl) (by decide) (by decide) (by decide) (Nat.le_of_ble_eq_true rfl) (Nat.le_of_ble_eq_true rfl) dX0_init_61 (fun q7 cA H hK9 hP hD hS => ?_)
  obtain rfl : cI = cA := (arr_one hK.1 hK9 0 3 rfl rfl).symm
  clear hK9
  refine W.widen (k := 7) (n := 40) (Nat.le_of_ble_eq_true rfl) (Nat.le_of_ble_eq_true rfl) ?_
  replace hP : va_P D vwCl ([(h, .inr (0, [.int 0, .ref q1, .ref q2, .ref q3, .ref q4, .int 0, .ref q5, .ref q6, .null, .null, .null, .null])), (q1, .inl (cI, 4, .inl (fun _ => 0))), (q2, .inl (cI, 4, .inl (fun _ => 0))), (q3, .inl (cI, 4, .inl (fun _ => 0))), (q4, .inl (cI, 4, .inl (fun _ => 0))), (q5, .inl (cI, 8, .inl (fun _ => 0))), (q6, .inl (cI, 8, .inl (fun _ => 0))), (q7, .inl (cI, 8, .inl (fun _ => 0)))]) H := hP
  replace hD : va_D A ([(h, .inr (0, [.int 0, .ref q1, .ref q2, .ref q3, .ref q4, .int 0, .ref q5, .ref q6, .null, .null, .null, .null])), (q1, .inl (cI, 4, .inl (fun _ => 0))), (q2, .inl (cI, 4, .inl (fun _ => 0))), (q3, .inl (cI, 4, .inl (fun _ => 0))), (q4, .inl (cI, 4, .inl (fun _ => 0))), (q5, .inl (cI, 8, .inl (fun _ => 0))), (q6, .inl (cI, 8, .inl (fun _ => 0))), (q7, .inl (cI, 8, .inl (fun _ => 0)))]) := hD
  refine va_putF (D := D) (ci := 0) (v := .ref q7) (ty := .array .int) (C := RX0) (T := TX0) (N := 12) hx hb hts hinX0 tyX0 tyX0_ok nmX0 hown hK.1 hP hD hS 0 rfl rfl 8 (by decide) hw12 (fun _ h9 => h9) rfl hin rfl (by decide +kernel) rfl rfl (Nat.le_of_ble_eq_true rfl) dX0_init_63 (fun H locs hP hD hS => ?_)
  replace hP : va_P D vwCl ([(h, .inr (0, [.int 0, .ref q1, .ref q2, .ref q3, .ref q4, .int 0, .ref q5, .ref q6, .ref q7, .null, .null, .null])), (q1, .inl (cI, 4, .inl (fun _ => 0))), (q2, .inl (cI, 4, .inl (fun _ => 0))), (q3, .inl (cI, 4, .inl (fun _ => 0))), (q4, .inl (cI, 4, .inl (fun _ => 0))), (q5, .inl (cI, 8, .inl (fun _ => 0))), (q6, .inl (cI, 8, .inl (fun _ => 0))), (q7, .inl (cI, 8, .inl (fun _ => 0)))]) H := hP
  replace hD : va_D A ([(h, .inr (0, [.int 0, .ref q1, .ref q2, .ref q3, .ref q4, .int 0, .ref q5, .ref q6, .ref q7, .null, .null, .null])), (q1, .inl (cI, 4, .inl (fun _ => 0))), (q2, .inl (cI, 4, .inl (fun _ => 0))), (q3, .inl (cI, 4, .inl (fun _ => 0))), (q4, .inl (cI, 4, .inl (fun _ => 0))), (q5, .inl (cI, 8, .inl (fun _ => 0))), (q6, .inl (cI, 8, .inl (fun _ => 0))), (q7, .inl (cI, 8, .inl (fun _ => 0)))]) := hD
  refine lv_aload_n hx hb dX0_init_66 rfl (lv_at hl 0 rfl) ?_
  refine lv_bipush (v := 8) hx hb dX0_init_67 (by decide) ?_
  refine va_newa (atype := .int) (ty := .int) (a0 := (8, .inl (fun _ => 0))) hx hb hw4 rfl hK.1 hP hD hS hA (fun _ => rfl) (by decide) (by decide) (by decide) (Nat.le_of_ble_eq_true rfl) (Nat.le_of_ble_eq_true rfl) dX0_init_69 (fun q8 cA H hK9 hP hD hS => ?_)
  obtain rfl : cI = cA := (arr_one hK.1 hK9 0 3 rfl rfl).symm
  clear hK9
  refine W.widen (k := 8) (n := 48) (Nat.le_of_ble_eq_true rfl) (Nat.le_of_ble_eq_true rfl) ?_
  replace hP : va_P D vwCl ([(h, .inr (0, [.int 0, .ref q1, .ref q2, .ref q3, .ref q4, .int 0, .ref q5, .ref q6, .ref q7, .null, .null, .null])), (q1, .inl (cI, 4, .inl (fun _ => 0))), (q2, .inl (cI, 4, .inl (fun _ => 0))), (q3, .inl (cI, 4, .inl (fun _ => 0))), (q4, .inl (cI, 4, .inl (fun _ => 0))), (q5, .inl (cI, 8, .inl (fun _ => 0))), (q6, .inl (cI, 8, .inl (fun _ => 0))), (q7, .inl (cI, 8, .inl (fun _ => 0))), (q8, .inl (cI, 8, .inl (fun _ => 0)))]) H := hP
  replace hD : va_D A ([(h, .inr (0, [.int 0, .ref q1, .ref q2, .ref q3, .ref q4, .int 0, .ref q5, .ref q6, .ref q7, .null, .null, .null])), (q1, .inl (cI, 4, .inl (fun _ => 0))), (q2, .inl (cI, 4, .inl (fun _ => 0))), (q3, .inl (cI, 4, .inl (fun _ => 0))), (q4, .inl (cI, 4, .inl (fun _ => 0))), (q5, .inl (cI, 8, .inl (fun _ => 0))), (q6, .inl (cI, 8, .inl (fun _ => 0))), (q7, .inl (cI, 8, .inl (fun _ => 0))), (q8, .inl (cI, 8, .inl (fun _ => 0)))]) := hD
  refine va_putF (D := D) (ci := 0) (v := .ref q8) (ty := .array .int) (C := RX0) (T := TX0) (N := 12) hx hb hts hinX0 tyX0 tyX0_ok nmX0 hown hK.1 hP hD hS 0 rfl rfl 9 (by decide) hw13 (fun _ h9 => h9) rfl hin rfl (by decide +kernel) rfl rfl (Nat.le_of_ble_eq_true rfl) dX0_init_71 (fun H locs hP hD hS => ?_)
  replace hP : va_P D vwCl ([(h, .inr (0, [.int 0, .ref q1, .ref q2, .ref q3, .ref q4, .int 0, .ref q5, .ref q6, .ref q7, .ref q8, .null, .null])), (q1, .inl (cI, 4, .inl (fun _ => 0))), (q2, .inl (cI, 4, .inl (fun _ => 0))), (q3, .inl (cI, 4, .inl (fun _ => 0))), (q4, .inl (cI, 4, .inl (fun _ => 0))), (q5, .inl (cI, 8, .inl (fun _ => 0))), (q6, .inl (cI, 8, .inl (fun _ => 0))), (q7, .inl (cI, 8, .inl (fun _ => 0))), (q8, .inl (cI, 8, .inl (fun _ => 0)))]) H := hP
  replace hD : va_D A ([(h, .inr (0, [.int 0, .ref q1, .ref q2, .ref q3, .ref q4, .int 0, .ref q5, .ref q6, .ref q7, .ref q8, .null, .null])), (q1, .inl (cI, 4, .inl (fun _ => 0))), (q2, .inl (cI, 4, .inl (fun _ => 0))), (q3, .inl (cI, 4, .inl (fun _ => 0))), (q4, .inl (cI, 4, .inl (fun _ => 0))), (q5, .inl (cI, 8, .inl (fun _ => 0))), (q6, .inl (cI, 8, .inl (fun _ => 0))), (q7, .inl (cI, 8, .inl (fun _ => 0))), (q8, .inl (cI, 8, .inl (fun _ => 0)))]) := hD
  refine lv_aload_n hx hb dX0_init_74 rfl (lv_at hl 0 rfl) ?_
  refine lv_bipush (v := 8) hx hb dX0_init_75 (by decide) ?_
  refine va_newa (atype := .int) (ty := .int) (a0 := (8, .inl (fun _ => 0))) hx hb hw4 rfl hK.1 hP hD hS hA (fun _ => rfl) (by decide) (by decide) (by decide) (Nat.le_of_ble_eq_true rfl) (Nat.le_of_ble_eq_true rfl) dX0_init_77 (fun q9 cA H hK9 hP hD hS => ?_)
  obtain rfl : cI = cA := (arr_one hK.1 hK9 0 3 rfl rfl).symm
  clear hK9
  refine W.widen (k := 9) (n := 56) (Nat.le_of_ble_eq_true rfl) (Nat.le_of_ble_eq_true rfl) ?_
  replace hP : va_P D vwCl ([(h, .inr (0, [.int 0, .ref q1, .ref q2, .ref q3, .ref q4, .int 0, .ref q5, .ref q6, .ref q7, .ref q8, .null, .null])), (q1, .inl (cI, 4, .inl (fun _ => 0))), (q2, .inl (cI, 4, .inl (fun _ => 0))), (q3, .inl (cI, 4, .inl (fun _ => 0))), (q4, .inl (cI, 4, .inl (fun _ => 0))), (q5, .inl (cI, 8, .inl (fun _ => 0))), (q6, .inl (cI, 8, .inl (fun _ => 0))), (q7, .inl (cI, 8, .inl (fun _ => 0))), (q8, .inl (cI, 8, .inl (fun _ => 0))), (q9, .inl (cI, 8, .inl (fun _ => 0)))]) H := hP
  replace hD : va_D A ([(h, .inr (0, [.int 0, .ref q1, .ref q2, .ref q3, .ref q4, .int 0, .ref q5, .ref q6, .ref q7, .ref q8, .null, .null])), (q1, .inl (cI, 4, .inl (fun _ => 0))), (q2, .inl (cI, 4, .inl (fun _ => 0))), (q3, .inl (cI, 4, .inl (fun _ => 0))), (q4, .inl (cI, 4, .inl (fun _ => 0))), (q5, .inl (cI, 8, .inl (fun _ => 0))), (q6, .inl (cI, 8, .inl (fun _ => 0))), (q7, .inl (cI, 8, .inl (fun _ => 0))), (q8, .inl (cI, 8, .inl (fun _ => 0))), (q9, .inl (cI, 8, .inl (fun _ => 0)))]) := hD
  refine va_putF (D := D) (ci := 0) (v := .ref q9) (ty := .array .int) (C := RX0) (T := TX0) (N := 12) hx hb hts hinX0 tyX0 tyX0_ok nmX0 hown hK.1 hP hD hS 0 rfl rfl 10 (by decide) hw14 (fun _ h9 => h9) rfl hin rfl (by decide +kernel) rfl rfl (Nat.le_of_ble_eq_true rfl) dX0_init_79 (fun H locs hP hD hS => ?_)
  replace hP : va_P D vwCl ([(h, .inr (0, [.int 0, .ref q1, .ref q2, .ref q3, .ref q4, .int 0, .ref q5, .ref q6, .ref q7, .ref q8, .ref q9, .null])), (q1, .inl (cI, 4, .inl (fun _ => 0))), (q2, .inl (cI, 4, .inl (fun _ => 0))), (q3, .inl (cI, 4, .inl (fun _ => 0))), (q4, .inl (cI, 4, .inl (fun _ => 0))), (q5, .inl (cI, 8, .inl (fun _ => 0))), (q6, .inl (cI, 8, .inl (fun _ => 0))), (q7, .inl (cI, 8, .inl (fun _ => 0))), (q8, .inl (cI, 8, .inl (fun _ => 0))), (q9, .inl (cI, 8, .inl (fun _ => 0)))]) H := hP
  replace hD : va_D A ([(h, .inr (0, [.int 0, .ref q1, .ref q2, .ref q3, .ref q4, .int 0, .ref q5, .ref q6, .ref q7, .ref q8, .ref q9, .null])), (q1, .inl (cI, 4, .inl (fun _ => 0))), (q2, .inl (cI, 4, .inl (fun _ => 0))), (q3, .inl (cI, 4, .inl (fun _ => 0))), (q4, .inl (cI, 4, .inl (fun _ => 0))), (q5, .inl (cI, 8, .inl (fun _ => 0))), (q6, .inl (cI, 8, .inl (fun _ => 0))), (q7, .inl (cI, 8, .inl (fun _ => 0))), (q8, .inl (cI, 8, .inl (fun _ => 0))), (q9, .inl (cI, 8, .inl (fun _ => 0)))]) := hD
  refine lv_aload_n hx hb dX0_init_82 rfl (lv_at hl 0 rfl) ?_
  refine lv_bipush (v := 8) hx hb dX0_init_83 (by decide) ?_
  refine va_newa (atype := .int) (ty := .int) (a0 := (8, .inl (fun _ => 0))) hx hb hw4 rfl hK.1 hP hD hS hA (fun _ => rfl) (by decide) (by decide) (by decide) (Nat.le_of_ble_eq_true rfl) (Nat.le_of_ble_eq_true rfl) dX0_init_85 (fun q10 cA H hK9 hP hD hS => ?_)
  obtain rfl : cI = cA := (arr_one hK.1 hK9 0 3 rfl rfl).symm
  clear hK9
  refine W.widen (k := 10) (n := 64) (Nat.le_of_ble_eq_true rfl) (Nat.le_of_ble_eq_true rfl) ?_
  replace hP : va_P D vwCl ([(h, .inr (0, [.int 0, .ref q1, .ref q2, .ref q3, .ref q4, .int 0, .ref q5, .ref q6, .ref q7, .ref q8, .ref q9, .null])), (q1, .inl (cI, 4, .inl (fun _ => 0))), (q2, .inl (cI, 4, .inl (fun _ => 0))), (q3, .inl (cI, 4, .inl (fun _ => 0))), (q4, .inl (cI, 4, .inl (fun _ => 0))), (q5, .inl (cI, 8, .inl (fun _ => 0))), (q6, .inl (cI, 8, .inl (fun _ => 0))), (q7, .inl (cI, 8, .inl (fun _ => 0))), (q8, .inl (cI, 8, .inl (fun _ => 0))), (q9, .inl (cI, 8, .inl (fun _ => 0))), (q10, .inl (cI, 8, .inl (fun _ => 0)))]) H := hP
  replace hD : va_D A ([(h, .inr (0, [.int 0, .ref q1, .ref q2, .ref q3, .ref q4, .int 0, .ref q5, .ref q6, .ref q7, .ref q8, .ref q9, .null])), (q1, .inl (cI, 4, .inl (fun _ => 0))), (q2, .inl (cI, 4, .inl (fun _ => 0))), (q3, .inl (cI, 4, .inl (fun _ => 0))), (q4, .inl (cI, 4, .inl (fun _ => 0))), (q5, .inl (cI, 8, .inl (fun _ => 0))), (q6, .inl (cI, 8, .inl (fun _ => 0))), (q7, .inl (cI, 8, .inl (fun _ => 0))), (q8, .inl (cI, 8, .inl (fun _ => 0))), (q9, .inl (cI, 8, .inl (fun _ => 0))), (q10, .inl (cI, 8, .inl (fun _ => 0)))]) := hD
  refine va_putF (D := D) (ci := 0) (v := .ref q10) (ty := .array .int) (C := RX0) (T := TX0) (N := 12) hx hb hts hinX0 tyX0 tyX0_ok nmX0 hown hK.1 hP hD hS 0 rfl rfl 11 (by decide) hw15 (fun _ h9 => h9) rfl hin rfl (by decide +kernel) rfl rfl (Nat.le_of_ble_eq_true rfl) dX0_init_87 (fun H locs hP hD hS => ?_)
  replace hP : va_P D vwCl ([(h, .inr (0, [.int 0, .ref q1, .ref q2, .ref q3, .ref q4, .int 0, .ref q5, .ref q6, .ref q7, .ref q8, .ref q9, .ref q10])), (q1, .inl (cI, 4, .inl (fun _ => 0))), (q2, .inl (cI, 4, .inl (fun _ => 0))), (q3, .inl (cI, 4, .inl (fun _ => 0))), (q4, .inl (cI, 4, .inl (fun _ => 0))), (q5, .inl (cI, 8, .inl (fun _ => 0))), (q6, .inl (cI, 8, .inl (fun _ => 0))), (q7, .inl (cI, 8, .inl (fun _ => 0))), (q8, .inl (cI, 8, .inl (fun _ => 0))), (q9, .inl (cI, 8, .inl (fun _ => 0))), (q10, .inl (cI, 8, .inl (fun _ => 0)))]) H := hP
  replace hD : va_D A ([(h, .inr (0, [.int 0, .ref q1, .ref q2, .ref q3, .ref q4, .int 0, .ref q5, .ref q6, .ref q7, .ref q8, .ref q9, .ref q10])), (q1, .inl (cI, 4, .inl (fun _ => 0))), (q2, .inl (cI, 4, .inl (fun _ => 0))), (q3, .inl (cI, 4, .inl (fun _ => 0))), (q4, .inl (cI, 4, .inl (fun _ => 0))), (q5, .inl (cI, 8, .inl (fun _ => 0))), (q6, .inl (cI, 8, .inl (fun _ => 0))), (q7, .inl (cI, 8, .inl (fun _ => 0))), (q8, .inl (cI, 8, .inl (fun _ => 0))), (q9, .inl (cI, 8, .inl (fun _ => 0))), (q10, .inl (cI, 8, .inl (fun _ => 0)))]) := hD
  obtain ⟨aM, hM⟩ : ∃ a : Nat → Nat, a = fun k => ([h, q1, q2, q3, q4, q5, q6, q7, q8, q9, q10] : List Nat).getD k 0 := ⟨_, rfl⟩
  replace hP : va_P D vwCl (wCi cI aM ci0) H := by subst hM; exact P_subm hP [0, 1, 2, 3, 4, 5, 6, 7, 8, 9, 10] rfl
  replace hD : va_D A (wCi cI aM ci0) := by subst hM; exact hD.sub [0, 1, 2, 3, 4, 5, 6, 7, 8, 9, 10] (by decide) rfl
  exact W.vret hx hb hr (fun t ht _ => ⟨⟨aM, rfl, by rw [hM]; rfl, by rw [ht]; exact hP, hD⟩, hS.F ht⟩) hS.2.2 dX0_init_90

abbrev rmX1_init : Room := { frames := 1, cells := 4, slots := 20, locals := 12 }
set_option maxHeartbeats 40000000 in
set_option maxRecDepth 100000 in
theorem c_X1_init (l : Launch) (D : va_G) (cI cJ cZ : ClassId) (h : Nat) : ∀ sz : Nat, Met l yX1_init wsX1_init rmX1_init (va_Pc [.ref h] (PreW D cI cJ cZ ([(h, .inr (1, [.long 0, .long 0, .null, .null, .null, .null, .int 0, .int 0, .long 0, .long 0]))]) sz)) (va_Qv (fun a : Nat → Nat => a 0 = h) (fun a t => PostW D (va_A ([(h, .inr (1, [.long 0, .long 0, .null, .null, .null, .null, .int 0, .int 0, .long 0, .long 0]))]) sz) (wSw cI cJ cZ a sw0) t) (va_A ([(h, .inr (1, [.long 0, .long 0, .null, .null, .null, .null, .int 0, .int 0, .long 0, .long 0]))]) sz)) 4 20 (va_A ([(h, .inr (1, [.long 0, .long 0, .null, .null, .null, .null, .int 0, .int 0, .long 0, .long 0]))]) sz) := by
  intro sz
  refine Met.ofW (cc := cX1_init) (maxL := 1) (ret := none) (by decide) rfl ?_
  intro p e s m args below meth c s₁ B hml hv
  obtain ⟨rfl, hsz, hP, hK, hD0⟩ := hv
  have hx := B.exec
  have hb := B.bytes
  have hr := B.returns
  have hts := atoms_spec (ws := wsX1_init) B.pre
  have hown : s.vm.findClass RX1 = some m.cls := findClass_of_methodNamed B.named
  have hlocks := B.notSynchronized
  have hin : meth.name = "<init>" := (name_of_methodNamed B.named B.method).1
  subst hsz
  have hD := hD0.self (sz := s.heap.size)
  clear hD0
  generalize hAe : va_A ([(h, .inr (1, [.long 0, .long 0, .null, .null, .null, .null, .int 0, .int 0, .long 0, .long 0]))]) s.heap.size = A at hD ⊢
  have hA : ∀ q : Nat, s.heap.size ≤ q → A q := fun q h => by rw [← hAe]; exact Or.inr h
  have hS : va_S A s.heap s.heap [] := va_S.rf
  have hinX1 : ∀ w ∈ wsX10, w ∈ wsX1_init := by decide +kernel
  have hw0 : (Cond.methodLink RX1 3 objectInit).before _ s = true := hts _ (by decide +kernel)
  have hw1 : (Cond.instanceMethod objectInit).before _ s = true := hts _ (by decide +kernel)
  have hw2 : (Cond.code objectInit ⟨#[0xb1]⟩ 1 none).before _ s = true := hts _ (by decide +kernel)
  have hw3 : (Cond.fieldLink RX1 9 "SwingCircuits$Swing" "timeNum" "J").before _ s = true := hts _ (by decide +kernel)
  have hw4 : (Cond.fieldLink RX1 15 "SwingCircuits$Swing" "timeDen" "J").before _ s = true := hts _ (by decide +kernel)
  have hw5 : (Cond.arrayClass .long).before _ s = true := hts _ (by decide +kernel)
  have hw6 : (Cond.fieldLink RX1 18 "SwingCircuits$Swing" "num" "[J").before _ s = true := hts _ (by decide +kernel)
  have hw7 : (Cond.fieldLink RX1 22 "SwingCircuits$Swing" "den" "[J").before _ s = true := hts _ (by decide +kernel)
  have hw8 : (Cond.arrayClass .boolean).before _ s = true := hts _ (by decide +kernel)
  have hw9 : (Cond.fieldLink RX1 25 "SwingCircuits$Swing" "filling" "[Z").before _ s = true := hts _ (by decide +kernel)
  have hw10 : (Cond.arrayClass .int).before _ s = true := hts _ (by decide +kernel)
  have hw11 : (Cond.fieldLink RX1 29 "SwingCircuits$Swing" "counts" "[I").before _ s = true := hts _ (by decide +kernel)
  have hw12 : (Cond.fieldLink RX1 33 "SwingCircuits$Swing" "turned" "I").before _ s = true := hts _ (by decide +kernel)
  have hw13 : (Cond.fieldLink RX1 37 "SwingCircuits$Swing" "side" "I").before _ s = true := hts _ (by decide +kernel)
  have hw14 : (Cond.fieldLink RX1 40 "SwingCircuits$Swing" "waitNum" "J").before _ s = true := hts _ (by decide +kernel)
  have hw15 : (Cond.fieldLink RX1 43 "SwingCircuits$Swing" "waitDen" "J").before _ s = true := hts _ (by decide +kernel)
  have hl := lv_entry ([.ref h]) (n := 1) (Nat.le_of_ble_eq_true rfl)
  rw [lg_entry_eq]
  generalize (lg_sl ([.ref h]) ++ List.replicate (1 - (lg_sl ([.ref h])).length) Slot.unset).toArray = ls at hl ⊢
  replace hl : lv_has ls 1 [(0, .ref h)] := hl
  refine lv_aload_n hx hb dX1_init_0 rfl (lv_at hl 0 rfl) ?_
  refine W.objInit hx hb hown hw0 hw1 hw2 rfl (by rw [hml]; exact hl.1) rfl dX1_init_1 (Nat.le_of_ble_eq_true rfl) (Nat.le_of_ble_eq_true rfl) ?_
  refine W.eq (g2 := F0 m 4 ls []) rfl ?_
  refine lv_aload_n hx hb dX1_init_4 rfl (lv_at hl 0 rfl) ?_
  refine lv_lconst (v := 0) hx hb dX1_init_5 (by decide) ?_
  refine va_put (D := D) (ci := 1) (v := .long 0) (ty := .long) (C := RX1) (T := TX1) (N := 10) hx hb hts hinX1 tyX1 tyX1_ok nmX1 hown hK.1 hP hD hS 0 rfl rfl 0 (by decide) hw3 (fun _ h9 => h9) rfl (by decide +kernel) rfl rfl (Nat.le_of_ble_eq_true rfl) dX1_init_6 (fun H locs hP hD hS => ?_)
  replace hP : va_P D vwCl ([(h, .inr (1, [.long 0, .long 0, .null, .null, .null, .null, .int 0, .int 0, .long 0, .long 0]))]) H := hP
  replace hD : va_D A ([(h, .inr (1, [.long 0, .long 0, .null, .null, .null, .null, .int 0, .int 0, .long 0, .long 0]))]) := hD
  refine lv_aload_n hx hb dX1_init_9 rfl (lv_at hl 0 rfl) ?_
  refine lv_lconst (v := 1) hx hb dX1_init_10 (by decide) ?_
  refine va_put (D := D) (ci := 1) (v := .long 1) (ty := .long) (C := RX1) (T := TX1) (N := 10) hx hb hts hinX1 tyX1 tyX1_ok nmX1 hown hK.1 hP hD hS 0 rfl rfl 1 (by decide) hw4 (fun _ h9 => h9) rfl (by decide +kernel) rfl rfl (Nat.le_of_ble_eq_true rfl) dX1_init_11 (fun H locs hP hD hS => ?_)
  replace hP : va_P D vwCl ([(h, .inr (1, [.long 0, .long 1, .null, .null, .null, .null, .int 0, .int 0, .long 0, .long 0]))]) H := hP
  replace hD : va_D A ([(h, .inr (1, [.long 0, .long 1, .null, .null, .null, .null, .int 0, .int 0, .long 0, .long 0]))]) := hD
  refine lv_aload_n hx hb dX1_init_14 rfl (lv_at hl 0 rfl) ?_
  refine lv_iconst (v := 4) hx hb dX1_init_15 (by decide) ?_
  refine va_newa (atype := .long) (ty := .long) (a0 := (4, .inr (.inl (fun _ => 0)))) hx hb hw5 rfl hK.1 hP hD hS hA (fun _ => rfl) (by decide) (by decide) (by decide) (Nat.le_of_ble_eq_true rfl) (Nat.le_of_ble_eq_true rfl) dX1_init_16 (fun q1 cA H hK9 hP hD hS => ?_)
  obtain rfl : cJ = cA := (arr_oneJ hK.1 hK9 1 3 rfl rfl).symm
  clear hK9
  refine W.widen (k := 1) (n := 4) (Nat.le_of_ble_eq_true rfl) (Nat.le_of_ble_eq_true rfl) ?_
  replace hP : va_P D vwCl ([(h, .inr (1, [.long 0, .long 1, .null, .null, .null, .null, .int 0, .int 0, .long 0, .long 0])), (q1, .inl (cJ, 4, .inr (.inl (fun _ => 0))))]) H := hP
  replace hD : va_D A ([(h, .inr (1, [.long 0, .long 1, .null, .null, .null, .null, .int 0, .int 0, .long 0, .long 0])), (q1, .inl (cJ, 4, .inr (.inl (fun _ => 0))))]) := hD
  refine va_putF (D := D) (ci := 1) (v := .ref q1) (ty := .array .long) (C := RX1) (T := TX1) (N := 10) hx hb hts hinX1 tyX1 tyX1_ok nmX1 hown hK.1 hP hD hS 0 rfl rfl 2 (by decide) hw6 (fun _ h9 => h9) rfl hin rfl (by decide +kernel) rfl rfl (Nat.le_of_ble_eq_true rfl) dX1_init_18 (fun H locs hP hD hS => ?_)
  replace hP : va_P D vwCl ([(h, .inr (1, [.long 0, .long 1, .ref q1, .null, .null, .null, .int 0, .int 0, .long 0, .long 0])), (q1, .inl (cJ, 4, .inr (.inl (fun _ => 0))))]) H := hP
  replace hD : va_D A ([(h, .inr (1, [.long 0, .long 1, .ref q1, .null, .null, .null, .int 0, .int 0, .long 0, .long 0])), (q1, .inl (cJ, 4, .inr (.inl (fun _ => 0))))]) := hD
  refine lv_aload_n hx hb dX1_init_21 rfl (lv_at hl 0 rfl) ?_
  refine lv_iconst (v := 4) hx hb dX1_init_22 (by decide) ?_
  refine va_newa (atype := .long) (ty := .long) (a0 := (4, .inr (.inl (fun _ => 0)))) hx hb hw5 rfl hK.1 hP hD hS hA (fun _ => rfl) (by decide) (by decide) (by decide) (Nat.le_of_ble_eq_true rfl) (Nat.le_of_ble_eq_true rfl) dX1_init_23 (fun q2 cA H hK9 hP hD hS => ?_)
  obtain rfl : cJ = cA := (arr_oneJ hK.1 hK9 1 3 rfl rfl).symm
  clear hK9
  refine W.widen (k := 2) (n := 8) (Nat.le_of_ble_eq_true rfl) (Nat.le_of_ble_eq_true rfl) ?_
  replace hP : va_P D vwCl ([(h, .inr (1, [.long 0, .long 1, .ref q1, .null, .null, .null, .int 0, .int 0, .long 0, .long 0])), (q1, .inl (cJ, 4, .inr (.inl (fun _ => 0)))), (q2, .inl (cJ, 4, .inr (.inl (fun _ => 0))))]) H := hP
  replace hD : va_D A ([(h, .inr (1, [.long 0, .long 1, .ref q1, .null, .null, .null, .int 0, .int 0, .long 0, .long 0])), (q1, .inl (cJ, 4, .inr (.inl (fun _ => 0)))), (q2, .inl (cJ, 4, .inr (.inl (fun _ => 0))))]) := hD
  refine va_putF (D := D) (ci := 1) (v := .ref q2) (ty := .array .long) (C := RX1) (T := TX1) (N := 10) hx hb hts hinX1 tyX1 tyX1_ok nmX1 hown hK.1 hP hD hS 0 rfl rfl 3 (by decide) hw7 (fun _ h9 => h9) rfl hin rfl (by decide +kernel) rfl rfl (Nat.le_of_ble_eq_true rfl) dX1_init_25 (fun H locs hP hD hS => ?_)
  replace hP : va_P D vwCl ([(h, .inr (1, [.long 0, .long 1, .ref q1, .ref q2, .null, .null, .int 0, .int 0, .long 0, .long 0])), (q1, .inl (cJ, 4, .inr (.inl (fun _ => 0)))), (q2, .inl (cJ, 4, .inr (.inl (fun _ => 0))))]) H := hP
  replace hD : va_D A ([(h, .inr (1, [.long 0, .long 1, .ref q1, .ref q2, .null, .null, .int 0, .int 0, .long 0, .long 0])), (q1, .inl (cJ, 4, .inr (.inl (fun _ => 0)))), (q2, .inl (cJ, 4, .inr (.inl (fun _ => 0))))]) := hD
  refine lv_aload_n hx hb dX1_init_28 rfl (lv_at hl 0 rfl) ?_
  refine lv_iconst (v := 4) hx hb dX1_init_29 (by decide) ?_
  refine va_newa (atype := .boolean) (ty := .boolean) (a0 := (4, .inl (fun _ => 0))) hx hb hw8 rfl hK.1 hP hD hS hA (fun _ => rfl) (by decide) (by decide) (by decide) (Nat.le_of_ble_eq_true rfl) (Nat.le_of_ble_eq_true rfl) dX1_init_30 (fun q3 cA H hK9 hP hD hS => ?_)
  obtain rfl : cZ = cA := (arr_oneZ hK.1 hK9 2 3 rfl rfl).symm
  clear hK9
  refine W.widen (k := 3) (n := 12) (Nat.le_of_ble_eq_true rfl) (Nat.le_of_ble_eq_true rfl) ?_
  replace hP : va_P D vwCl ([(h, .inr (1, [.long 0, .long 1, .ref q1, .ref q2, .null, .null, .int 0, .int 0, .long 0, .long 0])), (q1, .inl (cJ, 4, .inr (.inl (fun _ => 0)))), (q2, .inl (cJ, 4, .inr (.inl (fun _ => 0)))), (q3, .inl (cZ, 4, .inl (fun _ => 0)))]) H := hP
  replace hD : va_D A ([(h, .inr (1, [.long 0, .long 1, .ref q1, .ref q2, .null, .null, .int 0, .int 0, .long 0, .long 0])), (q1, .inl (cJ, 4, .inr (.inl (fun _ => 0)))), (q2, .inl (cJ, 4, .inr (.inl (fun _ => 0)))), (q3, .inl (cZ, 4, .inl (fun _ => 0)))]) := hD
  refine va_putF (D := D) (ci := 1) (v := .ref q3) (ty := .array .boolean) (C := RX1) (T := TX1) (N := 10) hx hb hts hinX1 tyX1 tyX1_ok nmX1 hown hK.1 hP hD hS 0 rfl rfl 4 (by decide) hw9 (fun _ h9 => h9) rfl hin rfl (by decide +kernel) rfl rfl (Nat.le_of_ble_eq_true rfl) dX1_init_32 (fun H locs hP hD hS => ?_)
  replace hP : va_P D vwCl ([(h, .inr (1, [.long 0, .long 1, .ref q1, .ref q2, .ref q3, .null, .int 0, .int 0, .long 0, .long 0])), (q1, .inl (cJ, 4, .inr (.inl (fun _ => 0)))), (q2, .inl (cJ, 4, .inr (.inl (fun _ => 0)))), (q3, .inl (cZ, 4, .inl (fun _ => 0)))]) H := hP
  replace hD : va_D A ([(h, .inr (1, [.long 0, .long 1, .ref q1, .ref q2, .ref q3, .null, .int 0, .int 0, .long 0, .long 0])), (q1, .inl (cJ, 4, .inr (.inl (fun _ => 0)))), (q2, .inl (cJ, 4, .inr (.inl (fun _ => 0)))), (q3, .inl (cZ, 4, .inl (fun _ => 0)))]) := hD
  refine lv_aload_n hx hb dX1_init_35 rfl (lv_at hl 0 rfl) ?_
  refine lv_bipush (v := 8) hx hb dX1_init_36 (by decide) ?_
  refine va_newa (atype := .int) (ty := .int) (a0 := (8, .inl (fun _ => 0))) hx hb hw10 rfl hK.1 hP hD hS hA (fun _ => rfl) (by decide) (by decide) (by decide) (Nat.le_of_ble_eq_true rfl) (Nat.le_of_ble_eq_true rfl) dX1_init_38 (fun q4 cA H hK9 hP hD hS => ?_)
  obtain rfl : cI = cA := (arr_one hK.1 hK9 0 3 rfl rfl).symm
  clear hK9
  refine W.widen (k := 4) (n := 20) (Nat.le_of_ble_eq_true rfl) (Nat.le_of_ble_eq_true rfl) ?_
  replace hP : va_P D vwCl ([(h, .inr (1, [.long 0, .long 1, .ref q1, .ref q2, .ref q3, .null, .int 0, .int 0, .long 0, .long 0])), (q1, .inl (cJ, 4, .inr (.inl (fun _ => 0)))), (q2, .inl (cJ, 4, .inr (.inl (fun _ => 0)))), (q3, .inl (cZ, 4, .inl (fun _ => 0))), (q4, .inl (cI, 8, .inl (fun _ => 0)))]) H := hP
  replace hD : va_D A ([(h, .inr (1, [.long 0, .long 1, .ref q1, .ref q2, .ref q3, .null, .int 0, .int 0, .long 0, .long 0])), (q1, .inl (cJ, 4, .inr (.inl (fun _ => 0)))), (q2, .inl (cJ, 4, .inr (.inl (fun _ => 0)))), (q3, .inl (cZ, 4, .inl (fun _ => 0))), (q4, .inl (cI, 8, .inl (fun _ => 0)))]) := hD
  refine va_putF (D := D) (ci := 1) (v := .ref q4) (ty := .array .int) (C := RX1) (T := TX1) (N := 10) hx hb hts hinX1 tyX1 tyX1_ok nmX1 hown hK.1 hP hD hS 0 rfl rfl 5 (by decide) hw11 (fun _ h9 => h9) rfl hin rfl (by decide +kernel) rfl rfl (Nat.le_of_ble_eq_true rfl) dX1_init_40 (fun H locs hP hD hS => ?_)
  replace hP : va_P D vwCl ([(h, .inr (1, [.long 0, .long 1, .ref q1, .ref q2, .ref q3, .ref q4, .int 0, .int 0, .long 0, .long 0])), (q1, .inl (cJ, 4, .inr (.inl (fun _ => 0)))), (q2, .inl (cJ, 4, .inr (.inl (fun _ => 0)))), (q3, .inl (cZ, 4, .inl (fun _ => 0))), (q4, .inl (cI, 8, .inl (fun _ => 0)))]) H := hP
  replace hD : va_D A ([(h, .inr (1, [.long 0, .long 1, .ref q1, .ref q2, .ref q3, .ref q4, .int 0, .int 0, .long 0, .long 0])), (q1, .inl (cJ, 4, .inr (.inl (fun _ => 0)))), (q2, .inl (cJ, 4, .inr (.inl (fun _ => 0)))), (q3, .inl (cZ, 4, .inl (fun _ => 0))), (q4, .inl (cI, 8, .inl (fun _ => 0)))]) := hD
  refine lv_aload_n hx hb dX1_init_43 rfl (lv_at hl 0 rfl) ?_
  refine lv_iconst (v := 0) hx hb dX1_init_44 (by decide) ?_
  refine va_put (D := D) (ci := 1) (v := .int 0) (ty := .int) (C := RX1) (T := TX1) (N := 10) hx hb hts hinX1 tyX1 tyX1_ok nmX1 hown hK.1 hP hD hS 0 rfl rfl 6 (by decide) hw12 (fun _ h9 => h9) rfl (by decide +kernel) rfl rfl (Nat.le_of_ble_eq_true rfl) dX1_init_45 (fun H locs hP hD hS => ?_)
  replace hP : va_P D vwCl ([(h, .inr (1, [.long 0, .long 1, .ref q1, .ref q2, .ref q3, .ref q4, .int 0, .int 0, .long 0, .long 0])), (q1, .inl (cJ, 4, .inr (.inl (fun _ => 0)))), (q2, .inl (cJ, 4, .inr (.inl (fun _ => 0)))), (q3, .inl (cZ, 4, .inl (fun _ => 0))), (q4, .inl (cI, 8, .inl (fun _ => 0)))]) H := hP
  replace hD : va_D A ([(h, .inr (1, [.long 0, .long 1, .ref q1, .ref q2, .ref q3, .ref q4, .int 0, .int 0, .long 0, .long 0])), (q1, .inl (cJ, 4, .inr (.inl (fun _ => 0)))), (q2, .inl (cJ, 4, .inr (.inl (fun _ => 0)))), (q3, .inl (cZ, 4, .inl (fun _ => 0))), (q4, .inl (cI, 8, .inl (fun _ => 0)))]) := hD
  refine lv_aload_n hx hb dX1_init_48 rfl (lv_at hl 0 rfl) ?_
  refine lv_iconst (v := 0) hx hb dX1_init_49 (by decide) ?_
  refine va_put (D := D) (ci := 1) (v := .int 0) (ty := .int) (C := RX1) (T := TX1) (N := 10) hx hb hts hinX1 tyX1 tyX1_ok nmX1 hown hK.1 hP hD hS 0 rfl rfl 7 (by decide) hw13 (fun _ h9 => h9) rfl (by decide +kernel) rfl rfl (Nat.le_of_ble_eq_true rfl) dX1_init_50 (fun H locs hP hD hS => ?_)
  replace hP : va_P D vwCl ([(h, .inr (1, [.long 0, .long 1, .ref q1, .ref q2, .ref q3, .ref q4, .int 0, .int 0, .long 0, .long 0])), (q1, .inl (cJ, 4, .inr (.inl (fun _ => 0)))), (q2, .inl (cJ, 4, .inr (.inl (fun _ => 0)))), (q3, .inl (cZ, 4, .inl (fun _ => 0))), (q4, .inl (cI, 8, .inl (fun _ => 0)))]) H := hP
  replace hD : va_D A ([(h, .inr (1, [.long 0, .long 1, .ref q1, .ref q2, .ref q3, .ref q4, .int 0, .int 0, .long 0, .long 0])), (q1, .inl (cJ, 4, .inr (.inl (fun _ => 0)))), (q2, .inl (cJ, 4, .inr (.inl (fun _ => 0)))), (q3, .inl (cZ, 4, .inl (fun _ => 0))), (q4, .inl (cI, 8, .inl (fun _ => 0)))]) := hD
  refine lv_aload_n hx hb dX1_init_53 rfl (lv_at hl 0 rfl) ?_
  refine lv_lconst (v := 0) hx hb dX1_init_54 (by decide) ?_
  refine va_put (D := D) (ci := 1) (v := .long 0) (ty := .long) (C := RX1) (T := TX1) (N := 10) hx hb hts hinX1 tyX1 tyX1_ok nmX1 hown hK.1 hP hD hS 0 rfl rfl 8 (by decide) hw14 (fun _ h9 => h9) rfl (by decide +kernel) rfl rfl (Nat.le_of_ble_eq_true rfl) dX1_init_55 (fun H locs hP hD hS => ?_)
  replace hP : va_P D vwCl ([(h, .inr (1, [.long 0, .long 1, .ref q1, .ref q2, .ref q3, .ref q4, .int 0, .int 0, .long 0, .long 0])), (q1, .inl (cJ, 4, .inr (.inl (fun _ => 0)))), (q2, .inl (cJ, 4, .inr (.inl (fun _ => 0)))), (q3, .inl (cZ, 4, .inl (fun _ => 0))), (q4, .inl (cI, 8, .inl (fun _ => 0)))]) H := hP
  replace hD : va_D A ([(h, .inr (1, [.long 0, .long 1, .ref q1, .ref q2, .ref q3, .ref q4, .int 0, .int 0, .long 0, .long 0])), (q1, .inl (cJ, 4, .inr (.inl (fun _ => 0)))), (q2, .inl (cJ, 4, .inr (.inl (fun _ => 0)))), (q3, .inl (cZ, 4, .inl (fun _ => 0))), (q4, .inl (cI, 8, .inl (fun _ => 0)))]) := hD
  refine lv_aload_n hx hb dX1_init_58 rfl (lv_at hl 0 rfl) ?_
  refine lv_lconst (v := 1) hx hb dX1_init_59 (by decide) ?_
  refine va_put (D := D) (ci := 1) (v := .long 1) (ty := .long) (C := RX1) (T := TX1) (N := 10) hx hb hts hinX1 tyX1 tyX1_ok nmX1 hown hK.1 hP hD hS 0 rfl rfl 9 (by decide) hw15 (fun _ h9 => h9) rfl (by decide +kernel) rfl rfl (Nat.le_of_ble_eq_true rfl) dX1_init_60 (fun H locs hP hD hS => ?_)
  replace hP : va_P D vwCl ([(h, .inr (1, [.long 0, .long 1, .ref q1, .ref q2, .ref q3, .ref q4, .int 0, .int 0, .long 0, .long 1])), (q1, .inl (cJ, 4, .inr (.inl (fun _ => 0)))), (q2, .inl (cJ, 4, .inr (.inl (fun _ => 0)))), (q3, .inl (cZ, 4, .inl (fun _ => 0))), (q4, .inl (cI, 8, .inl (fun _ => 0)))]) H := hP
  replace hD : va_D A ([(h, .inr (1, [.long 0, .long 1, .ref q1, .ref q2, .ref q3, .ref q4, .int 0, .int 0, .long 0, .long 1])), (q1, .inl (cJ, 4, .inr (.inl (fun _ => 0)))), (q2, .inl (cJ, 4, .inr (.inl (fun _ => 0)))), (q3, .inl (cZ, 4, .inl (fun _ => 0))), (q4, .inl (cI, 8, .inl (fun _ => 0)))]) := hD
  obtain ⟨aM, hM⟩ : ∃ a : Nat → Nat, a = fun k => ([h, q1, q2, q3, q4] : List Nat).getD k 0 := ⟨_, rfl⟩
  replace hP : va_P D vwCl (wSw cI cJ cZ aM sw0) H := by subst hM; exact P_subm hP [0, 1, 2, 3, 4] rfl
  replace hD : va_D A (wSw cI cJ cZ aM sw0) := by subst hM; exact hD.sub [0, 1, 2, 3, 4] (by decide) rfl
  exact W.vret hx hb hr (fun t ht _ => ⟨⟨aM, rfl, by rw [hM]; rfl, by rw [ht]; exact hP, hD⟩, hS.F ht⟩) hS.2.2 dX1_init_63

