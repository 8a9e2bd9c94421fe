def f_X3_wouldBeSpent_J37 (r2 : Al) (r3 : (Bool × Al × Al × Ar × Ar × Al × Al × Int64 × Int64 × Int32 × Int32)) (k0_37 : Bool) : Option (Bool × Al × Al × Al × Ar × Ar × Al × Al × Int32 × Int64 × Int64 × Int32 × Int32) :=
(f_X3_copy r2 r3.2.1).bind (fun r4 =>
some (k0_37, r4, r3.2.2.1, r2, r3.2.2.2.1, r3.2.2.2.2.1, r3.2.2.2.2.2.1, r3.2.2.2.2.2.2.1, 1, r3.2.2.2.2.2.2.2.1, r3.2.2.2.2.2.2.2.2.1, r3.2.2.2.2.2.2.2.2.2.1, r3.2.2.2.2.2.2.2.2.2.2))
def f_X3_wouldBeSpent (m0 : Ar) (m1 : Ar) (m2 : Ar) (m3 : Ar) (m4 : Int32) (m5 : Ar) (m6 : Int32) (m7 : Al) (m8 : Al) (m9 : Al) (m10 : Ar) (m11 : Ar) (m12 : Al) (m13 : Al) (m14 : Int32) (m24 : Int64) (m25 : Int64) (m26 : Int32) (m27 : Int32) : Option (Bool × Al × Al × Al × Ar × Ar × Al × Al × Int32 × Int64 × Int64 × Int32 × Int32) :=
if ¬ m4 = 0 then
(f_X3_copy m7 m9).bind (fun r2 =>
(f_X3_step m0 m1 m2 m3 m4 m5 m6 m7 m8 m10 m11 m12 m13 0 m24 m25 m26 m27).bind (fun r3 =>
if ¬ (b2i r3.1) = 0 then
f_X3_wouldBeSpent_J37 r2 r3 false
else
f_X3_wouldBeSpent_J37 r2 r3 true))
else
some (false, m7, m8, m9, m10, m11, m12, m13, m14, m24, m25, m26, m27)
abbrev rmX3_wouldBeSpent : Room := { frames := 124, cells := 0, slots := 0, locals := 2867 }
set_option maxHeartbeats 40000000 in
set_option maxRecDepth 100000 in
theorem c_X3_wouldBeSpent (l : Launch) (D : va_G) (cI cJ cZ : ClassId) (adm : Nat → Nat) (m0 : Ar) (m1 : Ar) (m2 : Ar) (m3 : Ar) (m4 : Int32) (m5 : Ar) (m6 : Int32) (m7 : Al) (m8 : Al) (m9 : Al) (m10 : Ar) (m11 : Ar) (m12 : Al) (m13 : Al) (m14 : Int32) (m15 : Al) (m16 : Int32) (m17 : Al) (m18 : Ar) (m19 : Int32) (m20 : Al) (m21 : Al) (m22 : Int32) (m23 : Int32) (m24 : Int64) (m25 : Int64) (m26 : Int32) (m27 : Int32) (o : (Bool × Al × Al × Al × Ar × Ar × Al × Al × Int32 × Int64 × Int64 × Int32 × Int32)) (hf : f_X3_wouldBeSpent m0 m1 m2 m3 m4 m5 m6 m7 m8 m9 m10 m11 m12 m13 m14 m24 m25 m26 m27 = some o) : CtI l yX3_wouldBeSpent wsX3_wouldBeSpent rmX3_wouldBeSpent D cI cJ cZ [.ref (adm 0)] (wMc cI cJ adm m0 m1 m2 m3 m4 m5 m6 m7 m8 m9 m10 m11 m12 m13 m14 m15 m16 m17 m18 m19 m20 m21 m22 m23 m24 m25 m26 m27) (wMc cI cJ adm m0 m1 m2 m3 m4 m5 m6 o.2.1 o.2.2.1 o.2.2.2.1 o.2.2.2.2.1 o.2.2.2.2.2.1 o.2.2.2.2.2.2.1 o.2.2.2.2.2.2.2.1 o.2.2.2.2.2.2.2.2.1 m15 m16 m17 m18 m19 m20 m21 m22 m23 o.2.2.2.2.2.2.2.2.2.1 o.2.2.2.2.2.2.2.2.2.2.1 o.2.2.2.2.2.2.2.2.2.2.2.1 o.2.2.2.2.2.2.2.2.2.2.2.2) (b2i o.1) := by
  intro sz
  refine Met.ofW (cc := cX3_wouldBeSpent) (maxL := 2) (ret := (some .boolean)) (by decide) rfl ?_
  intro p e s m args below meth c s₁ B hml hv
  obtain ⟨rfl, hsz, hP, hK, hD0⟩ := hv
  have hx := B.exec
  have hb := B.bytes
  have hr := B.returns
  have hts := atoms_spec (ws := wsX3_wouldBeSpent) B.pre
  have hown : s.vm.findClass RX3 = some m.cls := findClass_of_methodNamed B.named
  have hlocks := B.notSynchronized
  subst hsz
  have hD := hD0.self (sz := s.heap.size)
  clear hD0
  generalize hAe : va_A (wMc cI cJ adm m0 m1 m2 m3 m4 m5 m6 m7 m8 m9 m10 m11 m12 m13 m14 m15 m16 m17 m18 m19 m20 m21 m22 m23 m24 m25 m26 m27) s.heap.size = A at hD ⊢
  have hA : ∀ q : Nat, s.heap.size ≤ q → A q := fun q h => by rw [← hAe]; exact Or.inr h
  have hS : va_S A s.heap s.heap [] := va_S.rf
  have hinX3 : ∀ w ∈ wsX30, w ∈ wsX3_wouldBeSpent := by decide +kernel
  have hw0 : (Cond.fieldLink RX3 73 "SwingCircuitsModel" "cells" "I").before _ s = true := hts _ (by decide +kernel)
  have hw1 : (Cond.fieldLink RX3 25 "SwingCircuitsModel" "now" "[J").before _ s = true := hts _ (by decide +kernel)
  have hw2 : (Cond.fieldLink RX3 32 "SwingCircuitsModel" "aside" "[J").before _ s = true := hts _ (by decide +kernel)
  have hw3 : (Cond.fieldLink RX3 47 "SwingCircuitsModel" "isLogged" "Z").before _ s = true := hts _ (by decide +kernel)
  have hl := lv_entry ([.ref (adm 0)]) (n := 2) (Nat.le_of_ble_eq_true rfl)
  rw [lg_entry_eq]
  generalize (lg_sl ([.ref (adm 0)]) ++ List.replicate (2 - (lg_sl ([.ref (adm 0)])).length) Slot.unset).toArray = ls at hl ⊢
  replace hl : lv_has ls 2 [(0, .ref (adm 0))] := hl
  unfold f_X3_wouldBeSpent at hf
  refine lv_aload_n hx hb dX3_wouldBeSpent_0 rfl (lv_at hl 0 rfl) ?_
  refine va_get (D := D) (ci := 3) (v := .int m4) (C := RX3) (T := TX3) (N := 28) hx hb hts hinX3 hown hK.1 hP 0 rfl rfl 4 (by decide) hw0 (fun _ h9 => h9) rfl dX3_wouldBeSpent_1 ?_
  refine lv_if_ne (tgt := 9) hx hb dX3_wouldBeSpent_4 (by decide) (fun q1 => ?_) (fun q1 => ?_)
  · replace hf := ifT q1 hf
    refine lv_aload_n hx hb dX3_wouldBeSpent_9 rfl (lv_at hl 0 rfl) ?_
    refine va_get (D := D) (ci := 3) (v := .ref (adm 6)) (C := RX3) (T := TX3) (N := 28) hx hb hts hinX3 hown hK.1 hP 0 rfl rfl 7 (by decide) hw1 (fun _ h9 => h9) rfl dX3_wouldBeSpent_10 ?_
    refine lv_aload_n hx hb dX3_wouldBeSpent_13 rfl (lv_at hl 0 rfl) ?_
    refine va_get (D := D) (ci := 3) (v := .ref (adm 8)) (C := RX3) (T := TX3) (N := 28) hx hb hts hinX3 hown hK.1 hP 0 rfl rfl 9 (by decide) hw2 (fun _ h9 => h9) rfl dX3_wouldBeSpent_14 ?_
    replace hf := bdE hf
    obtain ⟨r2, hgr2, hf⟩ := hf
    refine xV (w2 := (wMc cI cJ adm m0 m1 m2 m3 m4 m5 m6 m7 m8 r2 m10 m11 m12 m13 m14 m15 m16 m17 m18 m19 m20 m21 m22 m23 m24 m25 m26 m27)) (wr := ([((adm 0), .inr (3, [.ref (adm 1), .ref (adm 2), .ref (adm 3), .ref (adm 4), .int m4, .ref (adm 5), .int m6, .ref (adm 6), .ref (adm 7), .ref (adm 8), .ref (adm 9), .ref (adm 10), .ref (adm 11), .ref (adm 12), .int m14, .ref (adm 13), .int m16, .ref (adm 14), .ref (adm 15), .int m19, .ref (adm 16), .ref (adm 17), .int m22, .int m23, .long m24, .long m25, .int m26, .int m27])), ((adm 1), .inl (cI, 4, .inl m0)), ((adm 2), .inl (cI, 4, .inl m1)), ((adm 3), .inl (cI, 4, .inl m2)), ((adm 4), .inl (cI, 4, .inl m3)), ((adm 5), .inl (cI, 48, .inl m5)), ((adm 7), .inl (cJ, 31, .inr (.inl m8))), ((adm 9), .inl (cI, 500, .inl m10)), ((adm 10), .inl (cI, 500, .inl m11)), ((adm 11), .inl (cJ, 500, .inr (.inl m12))), ((adm 12), .inl (cJ, 500, .inr (.inl m13))), ((adm 13), .inl (cJ, 9331, .inr (.inl m15))), ((adm 14), .inl (cJ, 8, .inr (.inl m17))), ((adm 15), .inl (cI, 10, .inl m18)), ((adm 16), .inl (cJ, 8, .inr (.inl m20))), ((adm 17), .inl (cJ, 8, .inr (.inl m21)))])) (va_runS (As := [.ref (adm 6), .ref (adm 8)]) (rest := []) ⟨hx, hb, hml, hown, hts⟩ (c_X3_copy l D cI cJ cZ ((adm 6)) ((adm 8)) m7 m9 r2 hgr2 _) (va_cwS 2 hts gX3_wouldBeSpent_X3_copy rfl rfl rfl (by decide +kernel) ⟨Nat.le_of_ble_eq_true rfl, Nat.le_of_ble_eq_true rfl⟩) ⟨PreW.blind, (xPre hK hP hD [6, 8] rfl (by decide) _)⟩ rfl rfl hl.1 rfl (lv_room (Nat.le_of_ble_eq_true rfl)) dX3_wouldBeSpent_17 ⟨Nat.le_of_ble_eq_true rfl, Nat.le_of_ble_eq_true rfl⟩) hP hD hS hA [6, 8] [0, 1, 2, 3, 4, 5, 7, 9, 10, 11, 12, 13, 14, 15, 16, 17] [0, 1, 2, 3, 4, 5, 16, 6, 17, 7, 8, 9, 10, 11, 12, 13, 14, 15] rfl rfl (by decide) (by decide) rfl (by decide) (fun H locs hP hD hS => ?_)
    refine lv_aload_n hx hb dX3_wouldBeSpent_20 rfl (lv_at hl 0 rfl) ?_
    refine lv_iconst (v := 0) hx hb dX3_wouldBeSpent_21 (by decide) ?_
    refine va_put (D := D) (ci := 3) (v := .int 0) (ty := .boolean) (C := RX3) (T := TX3) (N := 28) hx hb hts hinX3 tyX3 tyX3_ok nmX3 hown hK.1 hP hD hS 0 rfl rfl 14 (by decide) hw3 (fun _ h9 => h9) rfl (by decide +kernel) rfl rfl (Nat.le_of_ble_eq_true rfl) dX3_wouldBeSpent_22 (fun H locs hP hD hS => ?_)
    replace hP : va_P D vwCl (wMc cI cJ adm m0 m1 m2 m3 m4 m5 m6 m7 m8 r2 m10 m11 m12 m13 0 m15 m16 m17 m18 m19 m20 m21 m22 m23 m24 m25 m26 m27) H := hP
    replace hD : va_D A (wMc cI cJ adm m0 m1 m2 m3 m4 m5 m6 m7 m8 r2 m10 m11 m12 m13 0 m15 m16 m17 m18 m19 m20 m21 m22 m23 m24 m25 m26 m27) := hD
    refine lv_aload_n hx hb dX3_wouldBeSpent_25 rfl (lv_at hl 0 rfl) ?_
    replace hf := bdE hf
    obtain ⟨r3, hgr3, hf⟩ := hf
    refine xIw (va_runV (As := []) (rest := []) ⟨hx, hb, hml, hown, hts⟩ (c_X3_step l D cI cJ cZ adm m0 m1 m2 m3 m4 m5 m6 m7 m8 r2 m10 m11 m12 m13 0 m15 m16 m17 m18 m19 m20 m21 m22 m23 m24 m25 m26 m27 r3 hgr3 _) (cwV 0 hts gX3_wouldBeSpent_X3_step rfl rfl rfl (by decide +kernel) ⟨Nat.le_of_ble_eq_true rfl, Nat.le_of_ble_eq_true rfl⟩) ⟨PreW.blind, xRecv (q0 := 0) hK hP rfl rfl, (xPrew hK hP hD _)⟩ rfl rfl hl.1 rfl (lv_room (Nat.le_of_ble_eq_true rfl)) dX3_wouldBeSpent_26 ⟨Nat.le_of_ble_eq_true rfl, Nat.le_of_ble_eq_true rfl⟩) hD hS hA (fun H locs hP hD hS => ?_)
    replace hP : va_P D vwCl (wMc cI cJ adm m0 m1 m2 m3 m4 m5 m6 r3.2.1 r3.2.2.1 r2 r3.2.2.2.1 r3.2.2.2.2.1 r3.2.2.2.2.2.1 r3.2.2.2.2.2.2.1 0 m15 m16 m17 m18 m19 m20 m21 m22 m23 r3.2.2.2.2.2.2.2.1 r3.2.2.2.2.2.2.2.2.1 r3.2.2.2.2.2.2.2.2.2.1 r3.2.2.2.2.2.2.2.2.2.2) H := hP
    replace hD : va_D A (wMc cI cJ adm m0 m1 m2 m3 m4 m5 m6 r3.2.1 r3.2.2.1 r2 r3.2.2.2.1 r3.2.2.2.2.1 r3.2.2.2.2.2.1 r3.2.2.2.2.2.2.1 0 m15 m16 m17 m18 m19 m20 m21 m22 m23 r3.2.2.2.2.2.2.2.1 r3.2.2.2.2.2.2.2.2.1 r3.2.2.2.2.2.2.2.2.2.1 r3.2.2.2.2.2.2.2.2.2.2) := hD
    have J37 : ∀ (k0_37 : Bool) (H : Heap) (locs : List Loc) (ls : Array Slot), f_X3_wouldBeSpent_J37 r2 r3 k0_37 = some o → va_P D vwCl (wMc cI cJ adm m0 m1 m2 m3 m4 m5 m6 r3.2.1 r3.2.2.1 r2 r3.2.2.2.1 r3.2.2.2.2.1 r3.2.2.2.2.2.1 r3.2.2.2.2.2.2.1 0 m15 m16 m17 m18 m19 m20 m21 m22 m23 r3.2.2.2.2.2.2.2.1 r3.2.2.2.2.2.2.2.2.1 r3.2.2.2.2.2.2.2.2.2.1 r3.2.2.2.2.2.2.2.2.2.2) H → va_D A (wMc cI cJ adm m0 m1 m2 m3 m4 m5 m6 r3.2.1 r3.2.2.1 r2 r3.2.2.2.1 r3.2.2.2.2.1 r3.2.2.2.2.2.1 r3.2.2.2.2.2.2.1 0 m15 m16 m17 m18 m19 m20 m21 m22 m23 r3.2.2.2.2.2.2.2.1 r3.2.2.2.2.2.2.2.2.1 r3.2.2.2.2.2.2.2.2.2.1 r3.2.2.2.2.2.2.2.2.2.2) → va_S A s.heap H locs → lv_has ls 2 [(0, .ref (adm 0))] → W p l e (headSpec wsX3_wouldBeSpent rmX3_wouldBeSpent).room s m ([.ref (adm 0)] : List Value).toArray below meth c H locs 0 0 (MQ below (QI D A (b2i o.1) (wMc cI cJ adm m0 m1 m2 m3 m4 m5 m6 o.2.1 o.2.2.1 o.2.2.2.1 o.2.2.2.2.1 o.2.2.2.2.2.1 o.2.2.2.2.2.2.1 o.2.2.2.2.2.2.2.1 o.2.2.2.2.2.2.2.2.1 m15 m16 m17 m18 m19 m20 m21 m22 m23 o.2.2.2.2.2.2.2.2.2.1 o.2.2.2.2.2.2.2.2.2.2.1 o.2.2.2.2.2.2.2.2.2.2.2.1 o.2.2.2.2.2.2.2.2.2.2.2.2)) ([.ref (adm 0)] : List Value).toArray s 0 0 A) (F0 m 37 ls [.int (b2i k0_37)]) := by
      intro k0_37 H locs ls hf hP hD hS hl
      unfold f_X3_wouldBeSpent_J37 at hf
      refine lv_istore_n (lv' := [(1, .int (b2i k0_37)), (0, .ref (adm 0))]) hx hb dX3_wouldBeSpent_37 rfl hl (by decide) rfl (fun ls hl => ?_)
      refine lv_aload_n hx hb dX3_wouldBeSpent_38 rfl (lv_at hl 1 rfl) ?_
      refine lv_iconst (v := 1) hx hb dX3_wouldBeSpent_39 (by decide) ?_
      refine va_put (D := D) (ci := 3) (v := .int 1) (ty := .boolean) (C := RX3) (T := TX3) (N := 28) hx hb hts hinX3 tyX3 tyX3_ok nmX3 hown hK.1 hP hD hS 0 rfl rfl 14 (by decide) hw3 (fun _ h9 => h9) rfl (by decide +kernel) rfl rfl (Nat.le_of_ble_eq_true rfl) dX3_wouldBeSpent_40 (fun H locs hP hD hS => ?_)
      replace hP : va_P D vwCl (wMc cI cJ adm m0 m1 m2 m3 m4 m5 m6 r3.2.1 r3.2.2.1 r2 r3.2.2.2.1 r3.2.2.2.2.1 r3.2.2.2.2.2.1 r3.2.2.2.2.2.2.1 1 m15 m16 m17 m18 m19 m20 m21 m22 m23 r3.2.2.2.2.2.2.2.1 r3.2.2.2.2.2.2.2.2.1 r3.2.2.2.2.2.2.2.2.2.1 r3.2.2.2.2.2.2.2.2.2.2) H := hP
      replace hD : va_D A (wMc cI cJ adm m0 m1 m2 m3 m4 m5 m6 r3.2.1 r3.2.2.1 r2 r3.2.2.2.1 r3.2.2.2.2.1 r3.2.2.2.2.2.1 r3.2.2.2.2.2.2.1 1 m15 m16 m17 m18 m19 m20 m21 m22 m23 r3.2.2.2.2.2.2.2.1 r3.2.2.2.2.2.2.2.2.1 r3.2.2.2.2.2.2.2.2.2.1 r3.2.2.2.2.2.2.2.2.2.2) := hD
      refine lv_aload_n hx hb dX3_wouldBeSpent_43 rfl (lv_at hl 1 rfl) ?_
      refine va_get (D := D) (ci := 3) (v := .ref (adm 8)) (C := RX3) (T := TX3) (N := 28) hx hb hts hinX3 hown hK.1 hP 0 rfl rfl 9 (by decide) hw2 (fun _ h9 => h9) rfl dX3_wouldBeSpent_44 ?_
      refine lv_aload_n hx hb dX3_wouldBeSpent_47 rfl (lv_at hl 1 rfl) ?_
      refine va_get (D := D) (ci := 3) (v := .ref (adm 6)) (C := RX3) (T := TX3) (N := 28) hx hb hts hinX3 hown hK.1 hP 0 rfl rfl 7 (by decide) hw1 (fun _ h9 => h9) rfl dX3_wouldBeSpent_48 ?_
      replace hf := bdE hf
      obtain ⟨r4, hgr4, hf⟩ := hf
      refine xV (w2 := (wMc cI cJ adm m0 m1 m2 m3 m4 m5 m6 r4 r3.2.2.1 r2 r3.2.2.2.1 r3.2.2.2.2.1 r3.2.2.2.2.2.1 r3.2.2.2.2.2.2.1 1 m15 m16 m17 m18 m19 m20 m21 m22 m23 r3.2.2.2.2.2.2.2.1 r3.2.2.2.2.2.2.2.2.1 r3.2.2.2.2.2.2.2.2.2.1 r3.2.2.2.2.2.2.2.2.2.2)) (wr := ([((adm 0), .inr (3, [.ref (adm 1), .ref (adm 2), .ref (adm 3), .ref (adm 4), .int m4, .ref (adm 5), .int m6, .ref (adm 6), .ref (adm 7), .ref (adm 8), .ref (adm 9), .ref (adm 10), .ref (adm 11), .ref (adm 12), .int 1, .ref (adm 13), .int m16, .ref (adm 14), .ref (adm 15), .int m19, .ref (adm 16), .ref (adm 17), .int m22, .int m23, .long r3.2.2.2.2.2.2.2.1, .long r3.2.2.2.2.2.2.2.2.1, .int r3.2.2.2.2.2.2.2.2.2.1, .int r3.2.2.2.2.2.2.2.2.2.2])), ((adm 1), .inl (cI, 4, .inl m0)), ((adm 2), .inl (cI, 4, .inl m1)), ((adm 3), .inl (cI, 4, .inl m2)), ((adm 4), .inl (cI, 4, .inl m3)), ((adm 5), .inl (cI, 48, .inl m5)), ((adm 7), .inl (cJ, 31, .inr (.inl r3.2.2.1))), ((adm 9), .inl (cI, 500, .inl r3.2.2.2.1)), ((adm 10), .inl (cI, 500, .inl r3.2.2.2.2.1)), ((adm 11), .inl (cJ, 500, .inr (.inl r3.2.2.2.2.2.1))), ((adm 12), .inl (cJ, 500, .inr (.inl r3.2.2.2.2.2.2.1))), ((adm 13), .inl (cJ, 9331, .inr (.inl m15))), ((adm 14), .inl (cJ, 8, .inr (.inl m17))), ((adm 15), .inl (cI, 10, .inl m18)), ((adm 16), .inl (cJ, 8, .inr (.inl m20))), ((adm 17), .inl (cJ, 8, .inr (.inl m21)))])) (va_runS (As := [.ref (adm 8), .ref (adm 6)]) (rest := []) ⟨hx, hb, hml, hown, hts⟩ (c_X3_copy l D cI cJ cZ ((adm 8)) ((adm 6)) r2 r3.2.1 r4 hgr4 _) (va_cwS 2 hts gX3_wouldBeSpent_X3_copy rfl rfl rfl (by decide +kernel) ⟨Nat.le_of_ble_eq_true rfl, Nat.le_of_ble_eq_true rfl⟩) ⟨PreW.blind, (xPre hK hP hD [8, 6] rfl (by decide) _)⟩ rfl rfl hl.1 rfl (lv_room (Nat.le_of_ble_eq_true rfl)) dX3_wouldBeSpent_51 ⟨Nat.le_of_ble_eq_true rfl, Nat.le_of_ble_eq_true rfl⟩) hP hD hS hA [8, 6] [0, 1, 2, 3, 4, 5, 7, 9, 10, 11, 12, 13, 14, 15, 16, 17] [0, 1, 2, 3, 4, 5, 17, 6, 16, 7, 8, 9, 10, 11, 12, 13, 14, 15] rfl rfl (by decide) (by decide) rfl (by decide) (fun H locs hP hD hS => ?_)
      refine lv_iload_n hx hb dX3_wouldBeSpent_54 rfl (lv_at hl 0 rfl) ?_
      obtain rfl := Option.some.inj hf
      exact retZ k0_37 rfl hx hb hr hlocks hP hD hS dX3_wouldBeSpent_55
    refine lv_if_ne (tgt := 36) hx hb dX3_wouldBeSpent_29 (by decide) (fun q5 => ?_) (fun q5 => ?_)
    · replace hf := ifT q5 hf
      refine lv_iconst (v := 0) hx hb dX3_wouldBeSpent_36 (by decide) ?_
      exact J37 false _ _ _ hf hP hD hS (lv_sub hl [0] rfl)
    · replace hf := ifN q5 hf
      refine lv_iconst (v := 1) hx hb dX3_wouldBeSpent_32 (by decide) ?_
      refine lv_goto (tgt := 37) hx hb dX3_wouldBeSpent_33 (by decide) ?_
      exact J37 true _ _ _ hf hP hD hS (lv_sub hl [0] rfl)
  · replace hf := ifN q1 hf
    refine lv_iconst (v := 0) hx hb dX3_wouldBeSpent_7 (by decide) ?_
    obtain rfl := Option.some.inj hf
    exact retZ false rfl hx hb hr hlocks hP hD hS dX3_wouldBeSpent_8

def f_X3_beat (m0 : Ar) (m1 : Ar) (p1 : Int32) (p2 : Int32) (p3 : Int32) : Option (Int64 × Int64) :=
gd (ib p1 4) (
(f_X3_make ((((m1 p1.toNatClampNeg) - (m0 p1.toNatClampNeg)).toInt64) * ((p2 + p3).toInt64)) (p2.toInt64 * p3.toInt64)).bind (fun r2 =>
some (r2.1, r2.2)))
abbrev rmX3_beat : Room := { frames := 122, cells := 0, slots := 0, locals := 2809 }
set_option maxHeartbeats 40000000 in
set_option maxRecDepth 100000 in
theorem c_X3_beat (l : Launch) (D : va_G) (cI cJ cZ : ClassId) (adm : Nat → Nat) (m0 : Ar) (m1 : Ar) (m2 : Ar) (m3 : Ar) (m4 : Int32) (m5 : Ar) (m6 : Int32) (m7 : Al) (m8 : Al) (m9 : Al) (m10 : Ar) (m11 : Ar) (m12 : Al) (m13 : Al) (m14 : Int32) (m15 : Al) (m16 : Int32) (m17 : Al) (m18 : Ar) (m19 : Int32) (m20 : Al) (m21 : Al) (m22 : Int32) (m23 : Int32) (m24 : Int64) (m25 : Int64) (m26 : Int32) (m27 : Int32) (p1 : Int32) (p2 : Int32) (p3 : Int32) (o : (Int64 × Int64)) (hf : f_X3_beat m0 m1 p1 p2 p3 = some o) : CtV l yX3_beat wsX3_beat rmX3_beat D cI cJ cZ [.ref (adm 0), .int p1, .int p2, .int p3] (wMc cI cJ adm m0 m1 m2 m3 m4 m5 m6 m7 m8 m9 m10 m11 m12 m13 m14 m15 m16 m17 m18 m19 m20 m21 m22 m23 m24 m25 m26 m27) (wMc cI cJ adm m0 m1 m2 m3 m4 m5 m6 m7 m8 m9 m10 m11 m12 m13 m14 m15 m16 m17 m18 m19 m20 m21 m22 m23 o.1 o.2 m26 m27) := by
  intro sz
  refine Met.ofW (cc := cX3_beat) (maxL := 4) (ret := none) (by decide) rfl ?_
  intro p e s m args below meth c s₁ B hml hv
  obtain ⟨rfl, hsz, hP, hK, hD0⟩ := hv
  have hx := B.exec
  have hb := B.bytes
  have hr := B.returns
  have hts := atoms_spec (ws := wsX3_beat) B.pre
  have hown : s.vm.findClass RX3 = some m.cls := findClass_of_methodNamed B.named
  have hlocks := B.notSynchronized
  subst hsz
  have hD := hD0.self (sz := s.heap.size)
  clear hD0
  generalize hAe : va_A (wMc cI cJ adm m0 m1 m2 m3 m4 m5 m6 m7 m8 m9 m10 m11 m12 m13 m14 m15 m16 m17 m18 m19 m20 m21 m22 m23 m24 m25 m26 m27) s.heap.size = A at hD ⊢
  have hA : ∀ q : Nat, s.heap.size ≤ q → A q := fun q h => by rw [← hAe]; exact Or.inr h
  have hS : va_S A s.heap s.heap [] := va_S.rf
  have hinX3 : ∀ w ∈ wsX30, w ∈ wsX3_beat := by decide +kernel
  have hw0 : (Cond.fieldLink RX3 13 "SwingCircuitsModel" "high" "[I").before _ s = true := hts _ (by decide +kernel)
  have hw1 : (Cond.fieldLink RX3 9 "SwingCircuitsModel" "low" "[I").before _ s = true := hts _ (by decide +kernel)
  have hl := lv_entry ([.ref (adm 0), .int p1, .int p2, .int p3]) (n := 4) (Nat.le_of_ble_eq_true rfl)
  rw [lg_entry_eq]
  generalize (lg_sl ([.ref (adm 0), .int p1, .int p2, .int p3]) ++ List.replicate (4 - (lg_sl ([.ref (adm 0), .int p1, .int p2, .int p3])).length) Slot.unset).toArray = ls at hl ⊢
  replace hl : lv_has ls 4 [(0, .ref (adm 0)), (1, .int p1), (2, .int p2), (3, .int p3)] := hl
  unfold f_X3_beat at hf
  refine lv_aload_n hx hb dX3_beat_0 rfl (lv_at hl 0 rfl) ?_
  refine lv_aload_n hx hb dX3_beat_1 rfl (lv_at hl 0 rfl) ?_
  refine va_get (D := D) (ci := 3) (v := .ref (adm 2)) (C := RX3) (T := TX3) (N := 28) hx hb hts hinX3 hown hK.1 hP 0 rfl rfl 1 (by decide) hw0 (fun _ h9 => h9) rfl dX3_beat_2 ?_
  refine lv_iload_n hx hb dX3_beat_5 rfl (lv_at hl 1 rfl) ?_
  replace hf := gdE hf
  obtain ⟨h1, hf⟩ := hf
  refine va_iald hx hb hK.1 hP 2 0 rfl rfl (ib_in h1) dX3_beat_6 ?_
  refine lv_aload_n hx hb dX3_beat_7 rfl (lv_at hl 0 rfl) ?_
  refine va_get (D := D) (ci := 3) (v := .ref (adm 1)) (C := RX3) (T := TX3) (N := 28) hx hb hts hinX3 hown hK.1 hP 0 rfl rfl 0 (by decide) hw1 (fun _ h9 => h9) rfl dX3_beat_8 ?_
  refine lv_iload_n hx hb dX3_beat_11 rfl (lv_at hl 1 rfl) ?_
  refine va_iald hx hb hK.1 hP 1 0 rfl rfl (ib_in h1) dX3_beat_12 ?_
  refine lv_isub hx hb dX3_beat_13 ?_
  refine lv_i2l hx hb dX3_beat_14 rfl ?_
  refine lv_iload_n hx hb dX3_beat_15 rfl (lv_at hl 2 rfl) ?_
  refine lv_iload_n hx hb dX3_beat_16 rfl (lv_at hl 3 rfl) ?_
  refine lv_iadd hx hb dX3_beat_17 ?_
  refine lv_i2l hx hb dX3_beat_18 rfl ?_
  refine lv_lmul hx hb dX3_beat_19 ?_
  refine lv_iload_n hx hb dX3_beat_20 rfl (lv_at hl 2 rfl) ?_
  refine lv_i2l hx hb dX3_beat_21 rfl ?_
  refine lv_iload_n hx hb dX3_beat_22 rfl (lv_at hl 3 rfl) ?_
  refine lv_i2l hx hb dX3_beat_23 rfl ?_
  refine lv_lmul hx hb dX3_beat_24 ?_
  replace hf := bdE hf
  obtain ⟨r2, hgr2, hf⟩ := hf
  refine xVw (va_runV (As := [.long ((((m1 p1.toNatClampNeg) - (m0 p1.toNatClampNeg)).toInt64) * ((p2 + p3).toInt64)), .long (p2.toInt64 * p3.toInt64)]) (rest := []) ⟨hx, hb, hml, hown, hts⟩ (c_X3_make l D cI cJ cZ adm m0 m1 m2 m3 m4 m5 m6 m7 m8 m9 m10 m11 m12 m13 m14 m15 m16 m17 m18 m19 m20 m21 m22 m23 m24 m25 m26 m27 ((((m1 p1.toNatClampNeg) - (m0 p1.toNatClampNeg)).toInt64) * ((p2 + p3).toInt64)) (p2.toInt64 * p3.toInt64) r2 hgr2 _) (cwV 2 hts gX3_beat_X3_make rfl rfl rfl (by decide +kernel) ⟨Nat.le_of_ble_eq_true rfl, Nat.le_of_ble_eq_true rfl⟩) ⟨PreW.blind, xRecv (q0 := 0) hK hP rfl rfl, (xPrew hK hP hD _)⟩ rfl rfl hl.1 rfl (lv_room (Nat.le_of_ble_eq_true rfl)) dX3_beat_25 ⟨Nat.le_of_ble_eq_true rfl, Nat.le_of_ble_eq_true rfl⟩) hD hS hA (fun H locs hP hD hS => ?_)
  replace hP : va_P D vwCl (wMc cI cJ adm m0 m1 m2 m3 m4 m5 m6 m7 m8 m9 m10 m11 m12 m13 m14 m15 m16 m17 m18 m19 m20 m21 m22 m23 r2.1 r2.2 m26 m27) H := hP
  replace hD : va_D A (wMc cI cJ adm m0 m1 m2 m3 m4 m5 m6 m7 m8 m9 m10 m11 m12 m13 m14 m15 m16 m17 m18 m19 m20 m21 m22 m23 r2.1 r2.2 m26 m27) := hD
  obtain rfl := Option.some.inj hf
  exact retV hx hb hr hlocks hP hD hS dX3_beat_28

def f_X3_areAlike_B2 (m15 : Al) (p1 : Int32) (p2 : Int32) (rec2 : Int32 → Option Bool) (l3_2 : Int32) : Option Bool :=
if (20 : Int32) ≤ l3_2 then
some true
else
gd (ib ((31 * p1) + l3_2) 9331) (
gd (ib ((31 * p2) + l3_2) 9331) (
if (lg_cmp (m15 ((31 * p1) + l3_2).toNatClampNeg) (m15 ((31 * p2) + l3_2).toNatClampNeg)) = 0 then
rec2 (l3_2 + 1)
else
some false))
def f_X3_areAlike_L2 (m15 : Al) (p1 : Int32) (p2 : Int32) : Nat → Int32 → Option Bool
  | 0 => fun _ => none
  | n + 1 => f_X3_areAlike_B2 m15 p1 p2 (f_X3_areAlike_L2 m15 p1 p2 n)
def f_X3_areAlike (m15 : Al) (p1 : Int32) (p2 : Int32) : Option Bool :=
f_X3_areAlike_L2 m15 p1 p2 fuel 0
abbrev rmX3_areAlike : Room := { frames := 0, cells := 0, slots := 0, locals := 0 }
set_option maxHeartbeats 40000000 in
set_option maxRecDepth 100000 in
theorem c_X3_areAlike (l : Launch) (D : va_G) (cI cJ cZ : ClassId) (adm : Nat → Nat) (m0 : Ar) (m1 : Ar) (m2 : Ar) (m3 : Ar) (m4 : Int32) (m5 : Ar) (m6 : Int32) (m7 : Al) (m8 : Al) (m9 : Al) (m10 : Ar) (m11 : Ar) (m12 : Al) (m13 : Al) (m14 : Int32) (m15 : Al) (m16 : Int32) (m17 : Al) (m18 : Ar) (m19 : Int32) (m20 : Al) (m21 : Al) (m22 : Int32) (m23 : Int32) (m24 : Int64) (m25 : Int64) (m26 : Int32) (m27 : Int32) (p1 : Int32) (p2 : Int32) (o : Bool) (hf : f_X3_areAlike m15 p1 p2 = some o) : CtI l yX3_areAlike wsX3_areAlike rmX3_areAlike D cI cJ cZ [.ref (adm 0), .int p1, .int p2] (wMc cI cJ adm m0 m1 m2 m3 m4 m5 m6 m7 m8 m9 m10 m11 m12 m13 m14 m15 m16 m17 m18 m19 m20 m21 m22 m23 m24 m25 m26 m27) (wMc cI cJ adm m0 m1 m2 m3 m4 m5 m6 m7 m8 m9 m10 m11 m12 m13 m14 m15 m16 m17 m18 m19 m20 m21 m22 m23 m24 m25 m26 m27) (b2i o) := by
  intro sz
  refine Met.ofW (cc := cX3_areAlike) (maxL := 4) (ret := (some .boolean)) (by decide) rfl ?_
  intro p e s m args below meth c s₁ B hml hv
  obtain ⟨rfl, hsz, hP, hK, hD0⟩ := hv
  have hx := B.exec
  have hb := B.bytes
  have hr := B.returns
  have hts := atoms_spec (ws := wsX3_areAlike) B.pre
  have hown : s.vm.findClass RX3 = some m.cls := findClass_of_methodNamed B.named
  have hlocks := B.notSynchronized
  subst hsz
  have hD := hD0.self (sz := s.heap.size)
  clear hD0
  generalize hAe : va_A (wMc cI cJ adm m0 m1 m2 m3 m4 m5 m6 m7 m8 m9 m10 m11 m12 m13 m14 m15 m16 m17 m18 m19 m20 m21 m22 m23 m24 m25 m26 m27) s.heap.size = A at hD ⊢
  have hA : ∀ q : Nat, s.heap.size ≤ q → A q := fun q h => by rw [← hAe]; exact Or.inr h
  have hS : va_S A s.heap s.heap [] := va_S.rf
  have hinX3 : ∀ w ∈ wsX30, w ∈ wsX3_areAlike := by decide +kernel
  have hw0 : (Cond.fieldLink RX3 51 "SwingCircuitsModel" "states" "[J").before _ s = true := hts _ (by decide +kernel)
  have hl := lv_entry ([.ref (adm 0), .int p1, .int p2]) (n := 4) (Nat.le_of_ble_eq_true rfl)
  rw [lg_entry_eq]
  generalize (lg_sl ([.ref (adm 0), .int p1, .int p2]) ++ List.replicate (4 - (lg_sl ([.ref (adm 0), .int p1, .int p2])).length) Slot.unset).toArray = ls at hl ⊢
  replace hl : lv_has ls 4 [(0, .ref (adm 0)), (1, .int p1), (2, .int p2)] := hl
  unfold f_X3_areAlike at hf
  refine lv_iconst (v := 0) hx hb dX3_areAlike_0 (by decide) ?_
  refine lv_istore_n (lv' := [(3, .int 0), (0, .ref (adm 0)), (1, .int p1), (2, .int p2)]) hx hb dX3_areAlike_1 rfl hl (by decide) rfl (fun ls hl => ?_)
  have L2 : ∀ (n : Nat) (l3_2 : Int32) (H : Heap) (locs : List Loc) (ls : Array Slot), f_X3_areAlike_L2 m15 p1 p2 n l3_2 = some o → va_P D vwCl (wMc cI cJ adm m0 m1 m2 m3 m4 m5 m6 m7 m8 m9 m10 m11 m12 m13 m14 m15 m16 m17 m18 m19 m20 m21 m22 m23 m24 m25 m26 m27) H → va_D A (wMc cI cJ adm m0 m1 m2 m3 m4 m5 m6 m7 m8 m9 m10 m11 m12 m13 m14 m15 m16 m17 m18 m19 m20 m21 m22 m23 m24 m25 m26 m27) → va_S A s.heap H locs → lv_has ls 4 [(0, .ref (adm 0)), (1, .int p1), (2, .int p2), (3, .int l3_2)] → W p l e (headSpec wsX3_areAlike rmX3_areAlike).room s m ([.ref (adm 0), .int p1, .int p2] : List Value).toArray below meth c H locs 0 0 (MQ below (QI D A (b2i o) (wMc cI cJ adm m0 m1 m2 m3 m4 m5 m6 m7 m8 m9 m10 m11 m12 m13 m14 m15 m16 m17 m18 m19 m20 m21 m22 m23 m24 m25 m26 m27)) ([.ref (adm 0), .int p1, .int p2] : List Value).toArray s 0 0 A) (F0 m 2 ls []) := by
    intro n
    induction n with
    | zero => intro l3_2 H locs ls hf; cases hf
    | succ n ih2 =>
      intro l3_2 H locs ls hf hP hD hS hl
      replace hf : f_X3_areAlike_B2 m15 p1 p2 (f_X3_areAlike_L2 m15 p1 p2 n) l3_2 = some o := hf
      generalize f_X3_areAlike_L2 m15 p1 p2 n = rec2 at ih2 hf
      unfold f_X3_areAlike_B2 at hf
      refine lv_iload_n hx hb dX3_areAlike_2 rfl (lv_at hl 3 rfl) ?_
      refine lv_bipush (v := 20) hx hb dX3_areAlike_3 (by decide) ?_
      refine lv_icmp_ge (tgt := 42) hx hb dX3_areAlike_5 (by decide) (fun q1 => ?_) (fun q1 => ?_)
      · replace hf := ifT q1 hf
        refine lv_iconst (v := 1) hx hb dX3_areAlike_42 (by decide) ?_
        obtain rfl := Option.some.inj hf
        exact retZ true rfl hx hb hr hlocks hP hD hS dX3_areAlike_43
      · replace hf := ifF q1 hf
        refine lv_aload_n hx hb dX3_areAlike_8 rfl (lv_at hl 0 rfl) ?_
        refine va_get (D := D) (ci := 3) (v := .ref (adm 13)) (C := RX3) (T := TX3) (N := 28) hx hb hts hinX3 hown hK.1 hP 0 rfl rfl 15 (by decide) hw0 (fun _ h9 => h9) rfl dX3_areAlike_9 ?_
        refine lv_bipush (v := 31) hx hb dX3_areAlike_12 (by decide) ?_
        refine lv_iload_n hx hb dX3_areAlike_14 rfl (lv_at hl 1 rfl) ?_
        refine lv_imul hx hb dX3_areAlike_15 ?_
        refine lv_iload_n hx hb dX3_areAlike_16 rfl (lv_at hl 3 rfl) ?_
        refine lv_iadd hx hb dX3_areAlike_17 ?_
        replace hf := gdE hf
        obtain ⟨h2, hf⟩ := hf
        refine va_lald hx hb hK.1 hP 13 1 rfl rfl (ib_in h2) dX3_areAlike_18 ?_
        refine lv_aload_n hx hb dX3_areAlike_19 rfl (lv_at hl 0 rfl) ?_
        refine va_get (D := D) (ci := 3) (v := .ref (adm 13)) (C := RX3) (T := TX3) (N := 28) hx hb hts hinX3 hown hK.1 hP 0 rfl rfl 15 (by decide) hw0 (fun _ h9 => h9) rfl dX3_areAlike_20 ?_
        refine lv_bipush (v := 31) hx hb dX3_areAlike_23 (by decide) ?_
        refine lv_iload_n hx hb dX3_areAlike_25 rfl (lv_at hl 2 rfl) ?_
        refine lv_imul hx hb dX3_areAlike_26 ?_
        refine lv_iload_n hx hb dX3_areAlike_27 rfl (lv_at hl 3 rfl) ?_
        refine lv_iadd hx hb dX3_areAlike_28 ?_
        replace hf := gdE hf
        obtain ⟨h3, hf⟩ := hf
        refine va_lald hx hb hK.1 hP 13 1 rfl rfl (ib_in h3) dX3_areAlike_29 ?_
        refine W.lcmp hx hb dX3_areAlike_30 ?_
        refine lv_if_eq (tgt := 36) hx hb dX3_areAlike_31 (by decide) (fun q4 => ?_) (fun q4 => ?_)
        · replace hf := ifT q4 hf
          refine lv_iinc (v := l3_2 + 1) (lv' := [(3, .int (l3_2 + 1)), (0, .ref (adm 0)), (1, .int p1), (2, .int p2)]) hx hb dX3_areAlike_36 hl (k := 3) rfl (by rfl) (by decide) rfl (fun ls hl => ?_)
          refine lv_goto (tgt := 2) hx hb dX3_areAlike_39 (by decide) ?_
          exact ih2 (l3_2 + 1) _ _ _ hf hP hD hS (lv_sub hl [1, 2, 3, 0] rfl)
        · replace hf := ifF q4 hf
          refine lv_iconst (v := 0) hx hb dX3_areAlike_34 (by decide) ?_
          obtain rfl := Option.some.inj hf
          exact retZ false rfl hx hb hr hlocks hP hD hS dX3_areAlike_35
  exact L2 fuel 0 _ _ _ hf hP hD hS (lv_sub hl [1, 2, 3, 0] rfl)

def f_X3_keep_B2 (m7 : Al) (p1 : Int32) (rec2 : Int32 → Al → Option Al) (l2_2 : Int32) (m15_2 : Al) : Option Al :=
if (31 : Int32) ≤ l2_2 then
some m15_2
else
gd (ib l2_2 31) (
bnd (m7 l2_2.toNatClampNeg) (fun v3 =>
gd (ib ((31 * p1) + l2_2) 9331) (
rec2 (l2_2 + 1) (vp_updL m15_2 ((31 * p1) + l2_2).toNatClampNeg v3))))
def f_X3_keep_L2 (m7 : Al) (p1 : Int32) : Nat → Int32 → Al → Option Al
  | 0 => fun _ _ => none
  | n + 1 => f_X3_keep_B2 m7 p1 (f_X3_keep_L2 m7 p1 n)
def f_X3_keep (m7 : Al) (m15 : Al) (p1 : Int32) : Option Al :=
f_X3_keep_L2 m7 p1 fuel 0 m15
abbrev rmX3_keep : Room := { frames := 0, cells := 0, slots := 0, locals := 0 }
set_option maxHeartbeats 40000000 in
set_option maxRecDepth 100000 in
theorem c_X3_keep (l : Launch) (D : va_G) (cI cJ cZ : ClassId) (adm : Nat → Nat) (m0 : Ar) (m1 : Ar) (m2 : Ar) (m3 : Ar) (m4 : Int32) (m5 : Ar) (m6 : Int32) (m7 : Al) (m8 : Al) (m9 : Al) (m10 : Ar) (m11 : Ar) (m12 : Al) (m13 : Al) (m14 : Int32) (m15 : Al) (m16 : Int32) (m17 : Al) (m18 : Ar) (m19 : Int32) (m20 : Al) (m21 : Al) (m22 : Int32) (m23 : Int32) (m24 : Int64) (m25 : Int64) (m26 : Int32) (m27 : Int32) (p1 : Int32) (o : Al) (hf : f_X3_keep m7 m15 p1 = some o) : CtV l yX3_keep wsX3_keep rmX3_keep D cI cJ cZ [.ref (adm 0), .int p1] (wMc cI cJ adm m0 m1 m2 m3 m4 m5 m6 m7 m8 m9 m10 m11 m12 m13 m14 m15 m16 m17 m18 m19 m20 m21 m22 m23 m24 m25 m26 m27) (wMc cI cJ adm m0 m1 m2 m3 m4 m5 m6 m7 m8 m9 m10 m11 m12 m13 m14 o m16 m17 m18 m19 m20 m21 m22 m23 m24 m25 m26 m27) := by
  intro sz
  refine Met.ofW (cc := cX3_keep) (maxL := 3) (ret := none) (by decide) rfl ?_
  intro p e s m args below meth c s₁ B hml hv
  obtain ⟨rfl, hsz, hP, hK, hD0⟩ := hv
  have hx := B.exec
  have hb := B.bytes
  have hr := B.returns
  have hts := atoms_spec (ws := wsX3_keep) B.pre
  have hown : s.vm.findClass RX3 = some m.cls := findClass_of_methodNamed B.named
  have hlocks := B.notSynchronized
  subst hsz
  have hD := hD0.self (sz := s.heap.size)
  clear hD0
  generalize hAe : va_A (wMc cI cJ adm m0 m1 m2 m3 m4 m5 m6 m7 m8 m9 m10 m11 m12 m13 m14 m15 m16 m17 m18 m19 m20 m21 m22 m23 m24 m25 m26 m27) s.heap.size = A at hD ⊢
  have hA : ∀ q : Nat, s.heap.size ≤ q → A q := fun q h => by rw [← hAe]; exact Or.inr h
  have hS : va_S A s.heap s.heap [] := va_S.rf
  have hinX3 : ∀ w ∈ wsX30, w ∈ wsX3_keep := by decide +kernel
  have hw0 : (Cond.fieldLink RX3 51 "SwingCircuitsModel" "states" "[J").before _ s = true := hts _ (by decide +kernel)
  have hw1 : (Cond.fieldLink RX3 25 "SwingCircuitsModel" "now" "[J").before _ s = true := hts _ (by decide +kernel)
  have hl := lv_entry ([.ref (adm 0), .int p1]) (n := 3) (Nat.le_of_ble_eq_true rfl)
  rw [lg_entry_eq]
  generalize (lg_sl ([.ref (adm 0), .int p1]) ++ List.replicate (3 - (lg_sl ([.ref (adm 0), .int p1])).length) Slot.unset).toArray = ls at hl ⊢
  replace hl : lv_has ls 3 [(0, .ref (adm 0)), (1, .int p1)] := hl
  unfold f_X3_keep at hf
  refine lv_iconst (v := 0) hx hb dX3_keep_0 (by decide) ?_
  refine lv_istore_n (lv' := [(2, .int 0), (0, .ref (adm 0)), (1, .int p1)]) hx hb dX3_keep_1 rfl hl (by decide) rfl (fun ls hl => ?_)
  have L2 : ∀ (n : Nat) (l2_2 : Int32) (m15_2 : Al) (H : Heap) (locs : List Loc) (ls : Array Slot), f_X3_keep_L2 m7 p1 n l2_2 m15_2 = some o → va_P D vwCl (wMc cI cJ adm m0 m1 m2 m3 m4 m5 m6 m7 m8 m9 m10 m11 m12 m13 m14 m15_2 m16 m17 m18 m19 m20 m21 m22 m23 m24 m25 m26 m27) H → va_D A (wMc cI cJ adm m0 m1 m2 m3 m4 m5 m6 m7 m8 m9 m10 m11 m12 m13 m14 m15_2 m16 m17 m18 m19 m20 m21 m22 m23 m24 m25 m26 m27) → va_S A s.heap H locs → lv_has ls 3 [(0, .ref (adm 0)), (1, .int p1), (2, .int l2_2)] → W p l e (headSpec wsX3_keep rmX3_keep).room s m ([.ref (adm 0), .int p1] : List Value).toArray below meth c H locs 0 0 (MQ below (QV D A (wMc cI cJ adm m0 m1 m2 m3 m4 m5 m6 m7 m8 m9 m10 m11 m12 m13 m14 o m16 m17 m18 m19 m20 m21 m22 m23 m24 m25 m26 m27)) ([.ref (adm 0), .int p1] : List Value).toArray s 0 0 A) (F0 m 2 ls []) := by
    intro n
    induction n with
    | zero => intro l2_2 m15_2 H locs ls hf; cases hf
    | succ n ih2 =>
      intro l2_2 m15_2 H locs ls hf hP hD hS hl
      replace hf : f_X3_keep_B2 m7 p1 (f_X3_keep_L2 m7 p1 n) l2_2 m15_2 = some o := hf
      generalize f_X3_keep_L2 m7 p1 n = rec2 at ih2 hf
      unfold f_X3_keep_B2 at hf
      refine lv_iload_n hx hb dX3_keep_2 rfl (lv_at hl 2 rfl) ?_
      refine lv_bipush (v := 31) hx hb dX3_keep_3 (by decide) ?_
      refine lv_icmp_ge (tgt := 31) hx hb dX3_keep_5 (by decide) (fun q1 => ?_) (fun q1 => ?_)
      · replace hf := ifT q1 hf
        obtain rfl := Option.some.inj hf
        exact retV hx hb hr hlocks hP hD hS dX3_keep_31
      · replace hf := ifF q1 hf
        refine lv_aload_n hx hb dX3_keep_8 rfl (lv_at hl 0 rfl) ?_
        refine va_get (D := D) (ci := 3) (v := .ref (adm 13)) (C := RX3) (T := TX3) (N := 28) hx hb hts hinX3 hown hK.1 hP 0 rfl rfl 15 (by decide) hw0 (fun _ h9 => h9) rfl dX3_keep_9 ?_
        refine lv_bipush (v := 31) hx hb dX3_keep_12 (by decide) ?_
        refine lv_iload_n hx hb dX3_keep_14 rfl (lv_at hl 1 rfl) ?_
        refine lv_imul hx hb dX3_keep_15 ?_
        refine lv_iload_n hx hb dX3_keep_16 rfl (lv_at hl 2 rfl) ?_
        refine lv_iadd hx hb dX3_keep_17 ?_
        refine lv_aload_n hx hb dX3_keep_18 rfl (lv_at hl 0 rfl) ?_
        refine va_get (D := D) (ci := 3) (v := .ref (adm 6)) (C := RX3) (T := TX3) (N := 28) hx hb hts hinX3 hown hK.1 hP 0 rfl rfl 7 (by decide) hw1 (fun _ h9 => h9) rfl dX3_keep_19 ?_
        refine lv_iload_n hx hb dX3_keep_22 rfl (lv_at hl 2 rfl) ?_
        replace hf := gdE hf
        obtain ⟨h2, hf⟩ := hf
        refine va_lald hx hb hK.1 hP 6 1 rfl rfl (ib_in h2) dX3_keep_23 ?_
        refine lv_topl (fun v3 ev3 => ?_)
        replace hf := bndE hf ev3
        replace hf := gdE hf
        obtain ⟨h4, hf⟩ := hf
        refine va_last hx hb hK.1 hP hD hS 13 1 rfl rfl (ib_in h4) dX3_keep_24 (fun H locs hP hD hS => ?_)
        replace hP : va_P D vwCl (wMc cI cJ adm m0 m1 m2 m3 m4 m5 m6 m7 m8 m9 m10 m11 m12 m13 m14 (vp_updL m15_2 ((31 * p1) + l2_2).toNatClampNeg v3) m16 m17 m18 m19 m20 m21 m22 m23 m24 m25 m26 m27) H := hP
        replace hD : va_D A (wMc cI cJ adm m0 m1 m2 m3 m4 m5 m6 m7 m8 m9 m10 m11 m12 m13 m14 (vp_updL m15_2 ((31 * p1) + l2_2).toNatClampNeg v3) m16 m17 m18 m19 m20 m21 m22 m23 m24 m25 m26 m27) := hD
        refine lv_iinc (v := l2_2 + 1) (lv' := [(2, .int (l2_2 + 1)), (0, .ref (adm 0)), (1, .int p1)]) hx hb dX3_keep_25 hl (k := 2) rfl (by rfl) (by decide) rfl (fun ls hl => ?_)
        refine lv_goto (tgt := 2) hx hb dX3_keep_28 (by decide) ?_
        exact ih2 (l2_2 + 1) (vp_updL m15_2 ((31 * p1) + l2_2).toNatClampNeg v3) _ _ _ hf hP hD hS (lv_sub hl [1, 2, 0] rfl)
  exact L2 fuel 0 m15 _ _ _ hf hP hD hS (lv_sub hl [1, 2, 0] rfl)

def f_X3_tell_B130 (m15 : Al) (v1 : Int32) (v2 : Int32) (r7 : (Int64 × Int64)) (rec130 : Int32 → Al → Option (Int32 × Al × Int64 × Int64)) (l5_130 : Int32) (m17_130 : Al) : Option (Int32 × Al × Int64 × Int64) :=
if (4 : Int32) ≤ l5_130 then
some (1, m17_130, r7.1, r7.2)
else
gd (ib ((v2 + 22) + l5_130) 9331) (
gd (ib ((v1 + 22) + l5_130) 9331) (
bnd ((m15 ((v2 + 22) + l5_130).toNatClampNeg) - (m15 ((v1 + 22) + l5_130).toNatClampNeg)) (fun v16 =>
gd (ib (4 + l5_130) 8) (
rec130 (l5_130 + 1) (vp_updL m17_130 (4 + l5_130).toNatClampNeg v16)))))
def f_X3_tell_L130 (m15 : Al) (v1 : Int32) (v2 : Int32) (r7 : (Int64 × Int64)) : Nat → Int32 → Al → Option (Int32 × Al × Int64 × Int64)
  | 0 => fun _ _ => none
  | n + 1 => f_X3_tell_B130 m15 v1 v2 r7 (f_X3_tell_L130 m15 v1 v2 r7 n)
def f_X3_tell (m15 : Al) (m17 : Al) (p1 : Int32) (p2 : Int32) : Option (Int32 × Al × Int64 × Int64) :=
bnd (31 * p1) (fun v1 =>
bnd (31 * p2) (fun v2 =>
gd (ib (v2 + 20) 9331) (
gd (ib ((v1 + 20) + 1) 9331) (
gd (ib (v1 + 20) 9331) (
gd (ib ((v2 + 20) + 1) 9331) (
(f_X3_make (((m15 (v2 + 20).toNatClampNeg) * (m15 ((v1 + 20) + 1).toNatClampNeg)) - ((m15 (v1 + 20).toNatClampNeg) * (m15 ((v2 + 20) + 1).toNatClampNeg))) ((m15 ((v1 + 20) + 1).toNatClampNeg) * (m15 ((v2 + 20) + 1).toNatClampNeg))).bind (fun r7 =>
gd (ib 0 8) (
bnd ((p2 - p1).toInt64) (fun v9 =>
gd (ib 1 8) (
gd (ib 2 8) (
gd (ib 3 8) (
f_X3_tell_L130 m15 v1 v2 r7 fuel 0 (vp_updL (vp_updL (vp_updL (vp_updL m17 (0 : Int32).toNatClampNeg p1.toInt64) (1 : Int32).toNatClampNeg v9) (2 : Int32).toNatClampNeg r7.1) (3 : Int32).toNatClampNeg r7.2)))))))))))))
abbrev rmX3_tell : Room := { frames := 122, cells := 0, slots := 0, locals := 2809 }
set_option maxHeartbeats 40000000 in
set_option maxRecDepth 100000 in
theorem c_X3_tell (l : Launch) (D : va_G) (cI cJ cZ : ClassId) (adm : Nat → Nat) (m0 : Ar) (m1 : Ar) (m2 : Ar) (m3 : Ar) (m4 : Int32) (m5 : Ar) (m6 : Int32) (m7 : Al) (m8 : Al) (m9 : Al) (m10 : Ar) (m11 : Ar) (m12 : Al) (m13 : Al) (m14 : Int32) (m15 : Al) (m16 : Int32) (m17 : Al) (m18 : Ar) (m19 : Int32) (m20 : Al) (m21 : Al) (m22 : Int32) (m23 : Int32) (m24 : Int64) (m25 : Int64) (m26 : Int32) (m27 : Int32) (p1 : Int32) (p2 : Int32) (o : (Int32 × Al × Int64 × Int64)) (hf : f_X3_tell m15 m17 p1 p2 = some o) : CtV l yX3_tell wsX3_tell rmX3_tell D cI cJ cZ [.ref (adm 0), .int p1, .int p2] (wMc cI cJ adm m0 m1 m2 m3 m4 m5 m6 m7 m8 m9 m10 m11 m12 m13 m14 m15 m16 m17 m18 m19 m20 m21 m22 m23 m24 m25 m26 m27) (wMc cI cJ adm m0 m1 m2 m3 m4 m5 m6 m7 m8 m9 m10 m11 m12 m13 m14 m15 o.1 o.2.1 m18 m19 m20 m21 m22 m23 o.2.2.1 o.2.2.2 m26 m27) := by
  intro sz
  refine Met.ofW (cc := cX3_tell) (maxL := 6) (ret := none) (by decide) rfl ?_
  intro p e s m args below meth c s₁ B hml hv
  obtain ⟨rfl, hsz, hP, hK, hD0⟩ := hv
  have hx := B.exec
  have hb := B.bytes
  have hr := B.returns
  have hts := atoms_spec (ws := wsX3_tell) B.pre
  have hown : s.vm.findClass RX3 = some m.cls := findClass_of_methodNamed B.named
  have hlocks := B.notSynchronized
  subst hsz
  have hD := hD0.self (sz := s.heap.size)
  clear hD0
  generalize hAe : va_A (wMc cI cJ adm m0 m1 m2 m3 m4 m5 m6 m7 m8 m9 m10 m11 m12 m13 m14 m15 m16 m17 m18 m19 m20 m21 m22 m23 m24 m25 m26 m27) s.heap.size = A at hD ⊢
  have hA : ∀ q : Nat, s.heap.size ≤ q → A q := fun q h => by rw [← hAe]; exact Or.inr h
  have hS : va_S A s.heap s.heap [] := va_S.rf
  have hinX3 : ∀ w ∈ wsX30, w ∈ wsX3_tell := by decide +kernel
  have hw0 : (Cond.fieldLink RX3 170 "SwingCircuitsModel" "wasRing" "Z").before _ s = true := hts _ (by decide +kernel)
  have hw1 : (Cond.fieldLink RX3 51 "SwingCircuitsModel" "states" "[J").before _ s = true := hts _ (by decide +kernel)
  have hw2 : (Cond.fieldLink RX3 54 "SwingCircuitsModel" "ringed" "[J").before _ s = true := hts _ (by decide +kernel)
  have hw3 : (Cond.fieldLink RX3 90 "SwingCircuitsModel" "num" "J").before _ s = true := hts _ (by decide +kernel)
  have hw4 : (Cond.fieldLink RX3 94 "SwingCircuitsModel" "den" "J").before _ s = true := hts _ (by decide +kernel)
  have hl := lv_entry ([.ref (adm 0), .int p1, .int p2]) (n := 6) (Nat.le_of_ble_eq_true rfl)
  rw [lg_entry_eq]
  generalize (lg_sl ([.ref (adm 0), .int p1, .int p2]) ++ List.replicate (6 - (lg_sl ([.ref (adm 0), .int p1, .int p2])).length) Slot.unset).toArray = ls at hl ⊢
  replace hl : lv_has ls 6 [(0, .ref (adm 0)), (1, .int p1), (2, .int p2)] := hl
  unfold f_X3_tell at hf
  refine lv_bipush (v := 31) hx hb dX3_tell_0 (by decide) ?_
  refine lv_iload_n hx hb dX3_tell_2 rfl (lv_at hl 1 rfl) ?_
  refine lv_imul hx hb dX3_tell_3 ?_
  refine lv_topi (fun v1 ev1 => ?_)
  replace hf := bndE hf ev1
  refine lv_istore_n (lv' := [(3, .int v1), (0, .ref (adm 0)), (1, .int p1), (2, .int p2)]) hx hb dX3_tell_4 rfl hl (by decide) rfl (fun ls hl => ?_)
  refine lv_bipush (v := 31) hx hb dX3_tell_5 (by decide) ?_
  refine lv_iload_n hx hb dX3_tell_7 rfl (lv_at hl 3 rfl) ?_
  refine lv_imul hx hb dX3_tell_8 ?_
  refine lv_topi (fun v2 ev2 => ?_)
  replace hf := bndE hf ev2
  refine lv_istore (lv' := [(4, .int v2), (3, .int v1), (0, .ref (adm 0)), (1, .int p1), (2, .int p2)]) hx hb dX3_tell_9 hl (by decide) rfl (fun ls hl => ?_)
  refine lv_aload_n hx hb dX3_tell_11 rfl (lv_at hl 2 rfl) ?_
  refine lv_iconst (v := 1) hx hb dX3_tell_12 (by decide) ?_
  refine va_put (D := D) (ci := 3) (v := .int 1) (ty := .boolean) (C := RX3) (T := TX3) (N := 28) hx hb hts hinX3 tyX3 tyX3_ok nmX3 hown hK.1 hP hD hS 0 rfl rfl 16 (by decide) hw0 (fun _ h9 => h9) rfl (by decide +kernel) rfl rfl (Nat.le_of_ble_eq_true rfl) dX3_tell_13 (fun H locs hP hD hS => ?_)
  replace hP : va_P D vwCl (wMc cI cJ adm m0 m1 m2 m3 m4 m5 m6 m7 m8 m9 m10 m11 m12 m13 m14 m15 1 m17 m18 m19 m20 m21 m22 m23 m24 m25 m26 m27) H := hP
  replace hD : va_D A (wMc cI cJ adm m0 m1 m2 m3 m4 m5 m6 m7 m8 m9 m10 m11 m12 m13 m14 m15 1 m17 m18 m19 m20 m21 m22 m23 m24 m25 m26 m27) := hD
  refine lv_aload_n hx hb dX3_tell_16 rfl (lv_at hl 2 rfl) ?_
  refine lv_aload_n hx hb dX3_tell_17 rfl (lv_at hl 2 rfl) ?_
  refine va_get (D := D) (ci := 3) (v := .ref (adm 13)) (C := RX3) (T := TX3) (N := 28) hx hb hts hinX3 hown hK.1 hP 0 rfl rfl 15 (by decide) hw1 (fun _ h9 => h9) rfl dX3_tell_18 ?_
  refine lv_iload hx hb dX3_tell_21 (lv_at hl 0 rfl) ?_
  refine lv_bipush (v := 20) hx hb dX3_tell_23 (by decide) ?_
  refine lv_iadd hx hb dX3_tell_25 ?_
  replace hf := gdE hf
  obtain ⟨h3, hf⟩ := hf
  refine va_lald hx hb hK.1 hP 13 1 rfl rfl (ib_in h3) dX3_tell_26 ?_
  refine lv_aload_n hx hb dX3_tell_27 rfl (lv_at hl 2 rfl) ?_
  refine va_get (D := D) (ci := 3) (v := .ref (adm 13)) (C := RX3) (T := TX3) (N := 28) hx hb hts hinX3 hown hK.1 hP 0 rfl rfl 15 (by decide) hw1 (fun _ h9 => h9) rfl dX3_tell_28 ?_
  refine lv_iload_n hx hb dX3_tell_31 rfl (lv_at hl 1 rfl) ?_
  refine lv_bipush (v := 20) hx hb dX3_tell_32 (by decide) ?_
  refine lv_iadd hx hb dX3_tell_34 ?_
  refine lv_iconst (v := 1) hx hb dX3_tell_35 (by decide) ?_
  refine lv_iadd hx hb dX3_tell_36 ?_
  replace hf := gdE hf
  obtain ⟨h4, hf⟩ := hf
  refine va_lald hx hb hK.1 hP 13 1 rfl rfl (ib_in h4) dX3_tell_37 ?_
  refine lv_lmul hx hb dX3_tell_38 ?_
  refine lv_aload_n hx hb dX3_tell_39 rfl (lv_at hl 2 rfl) ?_
  refine va_get (D := D) (ci := 3) (v := .ref (adm 13)) (C := RX3) (T := TX3) (N := 28) hx hb hts hinX3 hown hK.1 hP 0 rfl rfl 15 (by decide) hw1 (fun _ h9 => h9) rfl dX3_tell_40 ?_
  refine lv_iload_n hx hb dX3_tell_43 rfl (lv_at hl 1 rfl) ?_
  refine lv_bipush (v := 20) hx hb dX3_tell_44 (by decide) ?_
  refine lv_iadd hx hb dX3_tell_46 ?_
  replace hf := gdE hf
  obtain ⟨h5, hf⟩ := hf
  refine va_lald hx hb hK.1 hP 13 1 rfl rfl (ib_in h5) dX3_tell_47 ?_
  refine lv_aload_n hx hb dX3_tell_48 rfl (lv_at hl 2 rfl) ?_
  refine va_get (D := D) (ci := 3) (v := .ref (adm 13)) (C := RX3) (T := TX3) (N := 28) hx hb hts hinX3 hown hK.1 hP 0 rfl rfl 15 (by decide) hw1 (fun _ h9 => h9) rfl dX3_tell_49 ?_
  refine lv_iload hx hb dX3_tell_52 (lv_at hl 0 rfl) ?_
  refine lv_bipush (v := 20) hx hb dX3_tell_54 (by decide) ?_
  refine lv_iadd hx hb dX3_tell_56 ?_
  refine lv_iconst (v := 1) hx hb dX3_tell_57 (by decide) ?_
  refine lv_iadd hx hb dX3_tell_58 ?_
  replace hf := gdE hf
  obtain ⟨h6, hf⟩ := hf
  refine va_lald hx hb hK.1 hP 13 1 rfl rfl (ib_in h6) dX3_tell_59 ?_
  refine lv_lmul hx hb dX3_tell_60 ?_
  refine lv_lsub hx hb dX3_tell_61 ?_
  refine lv_aload_n hx hb dX3_tell_62 rfl (lv_at hl 2 rfl) ?_
  refine va_get (D := D) (ci := 3) (v := .ref (adm 13)) (C := RX3) (T := TX3) (N := 28) hx hb hts hinX3 hown hK.1 hP 0 rfl rfl 15 (by decide) hw1 (fun _ h9 => h9) rfl dX3_tell_63 ?_
  refine lv_iload_n hx hb dX3_tell_66 rfl (lv_at hl 1 rfl) ?_
  refine lv_bipush (v := 20) hx hb dX3_tell_67 (by decide) ?_
  refine lv_iadd hx hb dX3_tell_69 ?_
  refine lv_iconst (v := 1) hx hb dX3_tell_70 (by decide) ?_
  refine lv_iadd hx hb dX3_tell_71 ?_
  refine va_lald hx hb hK.1 hP 13 1 rfl rfl (ib_in h4) dX3_tell_72 ?_
  refine lv_aload_n hx hb dX3_tell_73 rfl (lv_at hl 2 rfl) ?_
  refine va_get (D := D) (ci := 3) (v := .ref (adm 13)) (C := RX3) (T := TX3) (N := 28) hx hb hts hinX3 hown hK.1 hP 0 rfl rfl 15 (by decide) hw1 (fun _ h9 => h9) rfl dX3_tell_74 ?_
  refine lv_iload hx hb dX3_tell_77 (lv_at hl 0 rfl) ?_
  refine lv_bipush (v := 20) hx hb dX3_tell_79 (by decide) ?_
  refine lv_iadd hx hb dX3_tell_81 ?_
  refine lv_iconst (v := 1) hx hb dX3_tell_82 (by decide) ?_
  refine lv_iadd hx hb dX3_tell_83 ?_
  refine va_lald hx hb hK.1 hP 13 1 rfl rfl (ib_in h6) dX3_tell_84 ?_
  refine lv_lmul hx hb dX3_tell_85 ?_
  replace hf := bdE hf
  obtain ⟨r7, hgr7, hf⟩ := hf
  refine xVw (va_runV (As := [.long (((m15 (v2 + 20).toNatClampNeg) * (m15 ((v1 + 20) + 1).toNatClampNeg)) - ((m15 (v1 + 20).toNatClampNeg) * (m15 ((v2 + 20) + 1).toNatClampNeg))), .long ((m15 ((v1 + 20) + 1).toNatClampNeg) * (m15 ((v2 + 20) + 1).toNatClampNeg))]) (rest := []) ⟨hx, hb, hml, hown, hts⟩ (c_X3_make l D cI cJ cZ adm m0 m1 m2 m3 m4 m5 m6 m7 m8 m9 m10 m11 m12 m13 m14 m15 1 m17 m18 m19 m20 m21 m22 m23 m24 m25 m26 m27 (((m15 (v2 + 20).toNatClampNeg) * (m15 ((v1 + 20) + 1).toNatClampNeg)) - ((m15 (v1 + 20).toNatClampNeg) * (m15 ((v2 + 20) + 1).toNatClampNeg))) ((m15 ((v1 + 20) + 1).toNatClampNeg) * (m15 ((v2 + 20) + 1).toNatClampNeg)) r7 hgr7 _) (cwV 2 hts gX3_tell_X3_make rfl rfl rfl (by decide +kernel) ⟨Nat.le_of_ble_eq_true rfl, Nat.le_of_ble_eq_true rfl⟩) ⟨PreW.blind, xRecv (q0 := 0) hK hP rfl rfl, (xPrew hK hP hD _)⟩ rfl rfl hl.1 rfl (lv_room (Nat.le_of_ble_eq_true rfl)) dX3_tell_86 ⟨Nat.le_of_ble_eq_true rfl, Nat.le_of_ble_eq_true rfl⟩) hD hS hA (fun H locs hP hD hS => ?_)
  replace hP : va_P D vwCl (wMc cI cJ adm m0 m1 m2 m3 m4 m5 m6 m7 m8 m9 m10 m11 m12 m13 m14 m15 1 m17 m18 m19 m20 m21 m22 m23 r7.1 r7.2 m26 m27) H := hP
  replace hD : va_D A (wMc cI cJ adm m0 m1 m2 m3 m4 m5 m6 m7 m8 m9 m10 m11 m12 m13 m14 m15 1 m17 m18 m19 m20 m21 m22 m23 r7.1 r7.2 m26 m27) := hD
  refine lv_aload_n hx hb dX3_tell_89 rfl (lv_at hl 2 rfl) ?_
  refine va_get (D := D) (ci := 3) (v := .ref (adm 14)) (C := RX3) (T := TX3) (N := 28) hx hb hts hinX3 hown hK.1 hP 0 rfl rfl 17 (by decide) hw2 (fun _ h9 => h9) rfl dX3_tell_90 ?_
  refine lv_iconst (v := 0) hx hb dX3_tell_93 (by decide) ?_
  refine lv_iload_n hx hb dX3_tell_94 rfl (lv_at hl 3 rfl) ?_
  refine lv_i2l hx hb dX3_tell_95 rfl ?_
  replace hf := gdE hf
  obtain ⟨h8, hf⟩ := hf
  refine va_last hx hb hK.1 hP hD hS 14 1 rfl rfl (ib_in h8) dX3_tell_96 (fun H locs hP hD hS => ?_)
  replace hP : va_P D vwCl (wMc cI cJ adm m0 m1 m2 m3 m4 m5 m6 m7 m8 m9 m10 m11 m12 m13 m14 m15 1 (vp_updL m17 (0 : Int32).toNatClampNeg p1.toInt64) m18 m19 m20 m21 m22 m23 r7.1 r7.2 m26 m27) H := hP
  replace hD : va_D A (wMc cI cJ adm m0 m1 m2 m3 m4 m5 m6 m7 m8 m9 m10 m11 m12 m13 m14 m15 1 (vp_updL m17 (0 : Int32).toNatClampNeg p1.toInt64) m18 m19 m20 m21 m22 m23 r7.1 r7.2 m26 m27) := hD
  refine lv_aload_n hx hb dX3_tell_97 rfl (lv_at hl 2 rfl) ?_
  refine va_get (D := D) (ci := 3) (v := .ref (adm 14)) (C := RX3) (T := TX3) (N := 28) hx hb hts hinX3 hown hK.1 hP 0 rfl rfl 17 (by decide) hw2 (fun _ h9 => h9) rfl dX3_tell_98 ?_
  refine lv_iconst (v := 1) hx hb dX3_tell_101 (by decide) ?_
  refine lv_iload_n hx hb dX3_tell_102 rfl (lv_at hl 4 rfl) ?_
  refine lv_iload_n hx hb dX3_tell_103 rfl (lv_at hl 3 rfl) ?_
  refine lv_isub hx hb dX3_tell_104 ?_
  refine lv_i2l hx hb dX3_tell_105 rfl ?_
  refine lv_topl (fun v9 ev9 => ?_)
  replace hf := bndE hf ev9
  replace hf := gdE hf
  obtain ⟨h10, hf⟩ := hf
  refine va_last hx hb hK.1 hP hD hS 14 1 rfl rfl (ib_in h10) dX3_tell_106 (fun H locs hP hD hS => ?_)
  replace hP : va_P D vwCl (wMc cI cJ adm m0 m1 m2 m3 m4 m5 m6 m7 m8 m9 m10 m11 m12 m13 m14 m15 1 (vp_updL (vp_updL m17 (0 : Int32).toNatClampNeg p1.toInt64) (1 : Int32).toNatClampNeg v9) m18 m19 m20 m21 m22 m23 r7.1 r7.2 m26 m27) H := hP
  replace hD : va_D A (wMc cI cJ adm m0 m1 m2 m3 m4 m5 m6 m7 m8 m9 m10 m11 m12 m13 m14 m15 1 (vp_updL (vp_updL m17 (0 : Int32).toNatClampNeg p1.toInt64) (1 : Int32).toNatClampNeg v9) m18 m19 m20 m21 m22 m23 r7.1 r7.2 m26 m27) := hD
  refine lv_aload_n hx hb dX3_tell_107 rfl (lv_at hl 2 rfl) ?_
  refine va_get (D := D) (ci := 3) (v := .ref (adm 14)) (C := RX3) (T := TX3) (N := 28) hx hb hts hinX3 hown hK.1 hP 0 rfl rfl 17 (by decide) hw2 (fun _ h9 => h9) rfl dX3_tell_108 ?_
  refine lv_iconst (v := 2) hx hb dX3_tell_111 (by decide) ?_
  refine lv_aload_n hx hb dX3_tell_112 rfl (lv_at hl 2 rfl) ?_
  refine va_get (D := D) (ci := 3) (v := .long r7.1) (C := RX3) (T := TX3) (N := 28) hx hb hts hinX3 hown hK.1 hP 0 rfl rfl 24 (by decide) hw3 (fun _ h9 => h9) rfl dX3_tell_113 ?_
  replace hf := gdE hf
  obtain ⟨h11, hf⟩ := hf
  refine va_last hx hb hK.1 hP hD hS 14 1 rfl rfl (ib_in h11) dX3_tell_116 (fun H locs hP hD hS => ?_)
  replace hP : va_P D vwCl (wMc cI cJ adm m0 m1 m2 m3 m4 m5 m6 m7 m8 m9 m10 m11 m12 m13 m14 m15 1 (vp_updL (vp_updL (vp_updL m17 (0 : Int32).toNatClampNeg p1.toInt64) (1 : Int32).toNatClampNeg v9) (2 : Int32).toNatClampNeg r7.1) m18 m19 m20 m21 m22 m23 r7.1 r7.2 m26 m27) H := hP
  replace hD : va_D A (wMc cI cJ adm m0 m1 m2 m3 m4 m5 m6 m7 m8 m9 m10 m11 m12 m13 m14 m15 1 (vp_updL (vp_updL (vp_updL m17 (0 : Int32).toNatClampNeg p1.toInt64) (1 : Int32).toNatClampNeg v9) (2 : Int32).toNatClampNeg r7.1) m18 m19 m20 m21 m22 m23 r7.1 r7.2 m26 m27) := hD
  refine lv_aload_n hx hb dX3_tell_117 rfl (lv_at hl 2 rfl) ?_
  refine va_get (D := D) (ci := 3) (v := .ref (adm 14)) (C := RX3) (T := TX3) (N := 28) hx hb hts hinX3 hown hK.1 hP 0 rfl rfl 17 (by decide) hw2 (fun _ h9 => h9) rfl dX3_tell_118 ?_
  refine lv_iconst (v := 3) hx hb dX3_tell_121 (by decide) ?_
  refine lv_aload_n hx hb dX3_tell_122 rfl (lv_at hl 2 rfl) ?_
  refine va_get (D := D) (ci := 3) (v := .long r7.2) (C := RX3) (T := TX3) (N := 28) hx hb hts hinX3 hown hK.1 hP 0 rfl rfl 25 (by decide) hw4 (fun _ h9 => h9) rfl dX3_tell_123 ?_
  replace hf := gdE hf
  obtain ⟨h12, hf⟩ := hf
  refine va_last hx hb hK.1 hP hD hS 14 1 rfl rfl (ib_in h12) dX3_tell_126 (fun H locs hP hD hS => ?_)
  replace hP : va_P D vwCl (wMc cI cJ adm m0 m1 m2 m3 m4 m5 m6 m7 m8 m9 m10 m11 m12 m13 m14 m15 1 (vp_updL (vp_updL (vp_updL (vp_updL m17 (0 : Int32).toNatClampNeg p1.toInt64) (1 : Int32).toNatClampNeg v9) (2 : Int32).toNatClampNeg r7.1) (3 : Int32).toNatClampNeg r7.2) m18 m19 m20 m21 m22 m23 r7.1 r7.2 m26 m27) H := hP
  replace hD : va_D A (wMc cI cJ adm m0 m1 m2 m3 m4 m5 m6 m7 m8 m9 m10 m11 m12 m13 m14 m15 1 (vp_updL (vp_updL (vp_updL (vp_updL m17 (0 : Int32).toNatClampNeg p1.toInt64) (1 : Int32).toNatClampNeg v9) (2 : Int32).toNatClampNeg r7.1) (3 : Int32).toNatClampNeg r7.2) m18 m19 m20 m21 m22 m23 r7.1 r7.2 m26 m27) := hD
  refine lv_iconst (v := 0) hx hb dX3_tell_127 (by decide) ?_
  refine lv_istore (lv' := [(5, .int 0), (4, .int v2), (3, .int v1), (0, .ref (adm 0)), (1, .int p1), (2, .int p2)]) hx hb dX3_tell_128 hl (by decide) rfl (fun ls hl => ?_)
  have L130 : ∀ (n : Nat) (l5_130 : Int32) (m17_130 : Al) (H : Heap) (locs : List Loc) (ls : Array Slot), f_X3_tell_L130 m15 v1 v2 r7 n l5_130 m17_130 = some o → va_P D vwCl (wMc cI cJ adm m0 m1 m2 m3 m4 m5 m6 m7 m8 m9 m10 m11 m12 m13 m14 m15 1 m17_130 m18 m19 m20 m21 m22 m23 r7.1 r7.2 m26 m27) H → va_D A (wMc cI cJ adm m0 m1 m2 m3 m4 m5 m6 m7 m8 m9 m10 m11 m12 m13 m14 m15 1 m17_130 m18 m19 m20 m21 m22 m23 r7.1 r7.2 m26 m27) → va_S A s.heap H locs → lv_has ls 6 [(0, .ref (adm 0)), (3, .int v1), (4, .int v2), (5, .int l5_130)] → W p l e (headSpec wsX3_tell rmX3_tell).room s m ([.ref (adm 0), .int p1, .int p2] : List Value).toArray below meth c H locs 0 0 (MQ below (QV D A (wMc cI cJ adm m0 m1 m2 m3 m4 m5 m6 m7 m8 m9 m10 m11 m12 m13 m14 m15 o.1 o.2.1 m18 m19 m20 m21 m22 m23 o.2.2.1 o.2.2.2 m26 m27)) ([.ref (adm 0), .int p1, .int p2] : List Value).toArray s 0 0 A) (F0 m 130 ls []) := by
    intro n
    induction n with
    | zero => intro l5_130 m17_130 H locs ls hf; cases hf
    | succ n ih130 =>
      intro l5_130 m17_130 H locs ls hf hP hD hS hl
      replace hf : f_X3_tell_B130 m15 v1 v2 r7 (f_X3_tell_L130 m15 v1 v2 r7 n) l5_130 m17_130 = some o := hf
      generalize f_X3_tell_L130 m15 v1 v2 r7 n = rec130 at ih130 hf
      unfold f_X3_tell_B130 at hf
      refine lv_iload hx hb dX3_tell_130 (lv_at hl 3 rfl) ?_
      refine lv_iconst (v := 4) hx hb dX3_tell_132 (by decide) ?_
      refine lv_icmp_ge (tgt := 177) hx hb dX3_tell_133 (by decide) (fun q13 => ?_) (fun q13 => ?_)
      · replace hf := ifT q13 hf
        obtain rfl := Option.some.inj hf
        exact retV hx hb hr hlocks hP hD hS dX3_tell_177
      · replace hf := ifF q13 hf
        refine lv_aload_n hx hb dX3_tell_136 rfl (lv_at hl 0 rfl) ?_
        refine va_get (D := D) (ci := 3) (v := .ref (adm 14)) (C := RX3) (T := TX3) (N := 28) hx hb hts hinX3 hown hK.1 hP 0 rfl rfl 17 (by decide) hw2 (fun _ h9 => h9) rfl dX3_tell_137 ?_
        refine lv_iconst (v := 4) hx hb dX3_tell_140 (by decide) ?_
        refine lv_iload hx hb dX3_tell_141 (lv_at hl 3 rfl) ?_
        refine lv_iadd hx hb dX3_tell_143 ?_
        refine lv_aload_n hx hb dX3_tell_144 rfl (lv_at hl 0 rfl) ?_
        refine va_get (D := D) (ci := 3) (v := .ref (adm 13)) (C := RX3) (T := TX3) (N := 28) hx hb hts hinX3 hown hK.1 hP 0 rfl rfl 15 (by decide) hw1 (fun _ h9 => h9) rfl dX3_tell_145 ?_
        refine lv_iload hx hb dX3_tell_148 (lv_at hl 2 rfl) ?_
        refine lv_bipush (v := 22) hx hb dX3_tell_150 (by decide) ?_
        refine lv_iadd hx hb dX3_tell_152 ?_
        refine lv_iload hx hb dX3_tell_153 (lv_at hl 3 rfl) ?_
        refine lv_iadd hx hb dX3_tell_155 ?_
        replace hf := gdE hf
        obtain ⟨h14, hf⟩ := hf
        refine va_lald hx hb hK.1 hP 13 1 rfl rfl (ib_in h14) dX3_tell_156 ?_
        refine lv_aload_n hx hb dX3_tell_157 rfl (lv_at hl 0 rfl) ?_
        refine va_get (D := D) (ci := 3) (v := .ref (adm 13)) (C := RX3) (T := TX3) (N := 28) hx hb hts hinX3 hown hK.1 hP 0 rfl rfl 15 (by decide) hw1 (fun _ h9 => h9) rfl dX3_tell_158 ?_
        refine lv_iload_n hx hb dX3_tell_161 rfl (lv_at hl 1 rfl) ?_
        refine lv_bipush (v := 22) hx hb dX3_tell_162 (by decide) ?_
        refine lv_iadd hx hb dX3_tell_164 ?_
        refine lv_iload hx hb dX3_tell_165 (lv_at hl 3 rfl) ?_
        refine lv_iadd hx hb dX3_tell_167 ?_
        replace hf := gdE hf
        obtain ⟨h15, hf⟩ := hf
        refine va_lald hx hb hK.1 hP 13 1 rfl rfl (ib_in h15) dX3_tell_168 ?_
        refine lv_lsub hx hb dX3_tell_169 ?_
        refine lv_topl (fun v16 ev16 => ?_)
        replace hf := bndE hf ev16
        replace hf := gdE hf
        obtain ⟨h17, hf⟩ := hf
        refine va_last hx hb hK.1 hP hD hS 14 1 rfl rfl (ib_in h17) dX3_tell_170 (fun H locs hP hD hS => ?_)
        replace hP : va_P D vwCl (wMc cI cJ adm m0 m1 m2 m3 m4 m5 m6 m7 m8 m9 m10 m11 m12 m13 m14 m15 1 (vp_updL m17_130 (4 + l5_130).toNatClampNeg v16) m18 m19 m20 m21 m22 m23 r7.1 r7.2 m26 m27) H := hP
        replace hD : va_D A (wMc cI cJ adm m0 m1 m2 m3 m4 m5 m6 m7 m8 m9 m10 m11 m12 m13 m14 m15 1 (vp_updL m17_130 (4 + l5_130).toNatClampNeg v16) m18 m19 m20 m21 m22 m23 r7.1 r7.2 m26 m27) := hD
        refine lv_iinc (v := l5_130 + 1) (lv' := [(5, .int (l5_130 + 1)), (0, .ref (adm 0)), (3, .int v1), (4, .int v2)]) hx hb dX3_tell_171 hl (k := 3) rfl (by rfl) (by decide) rfl (fun ls hl => ?_)
        refine lv_goto (tgt := 130) hx hb dX3_tell_174 (by decide) ?_
        exact ih130 (l5_130 + 1) (vp_updL m17_130 (4 + l5_130).toNatClampNeg v16) _ _ _ hf hP hD hS (lv_sub hl [1, 2, 3, 0] rfl)
  exact L130 fuel 0 (vp_updL (vp_updL (vp_updL (vp_updL m17 (0 : Int32).toNatClampNeg p1.toInt64) (1 : Int32).toNatClampNeg v9) (2 : Int32).toNatClampNeg r7.1) (3 : Int32).toNatClampNeg r7.2) _ _ _ hf hP hD hS (lv_sub hl [3, 2, 1, 0] rfl)

def f_X3_seek_B29 (m17 : Al) (l2_7 : Int32) (rec7 : (Int32 → Al → Al → Ar → Ar → Al → Al → Al → Int64 → Int64 → Int32 → Int32 → Option (Int32 × Al × Al × Ar × Ar × Al × Al × Al × Int32 × Al × Int64 × Int64 × Int32 × Int32))) (r3 : (Bool × Al × Al × Ar × Ar × Al × Al × Int64 × Int64 × Int32 × Int32)) (r5 : Al) (rec29 : Int32 → Option (Int32 × Al × Al × Ar × Ar × Al × Al × Al × Int32 × Al × Int64 × Int64 × Int32 × Int32)) (l3_29 : Int32) : Option (Int32 × Al × Al × Ar × Ar × Al × Al × Al × Int32 × Al × Int64 × Int64 × Int32 × Int32) :=
if l2_7 ≤ l3_29 then
rec7 (l2_7 + 1) r3.2.1 r3.2.2.1 r3.2.2.2.1 r3.2.2.2.2.1 r3.2.2.2.2.2.1 r3.2.2.2.2.2.2.1 r5 r3.2.2.2.2.2.2.2.1 r3.2.2.2.2.2.2.2.2.1 r3.2.2.2.2.2.2.2.2.2.1 r3.2.2.2.2.2.2.2.2.2.2
else
(f_X3_areAlike r5 l3_29 l2_7).bind (fun r7 =>
if ¬ (b2i r7) = 0 then
(f_X3_tell r5 m17 l3_29 l2_7).bind (fun r9 =>
some (l2_7 - l3_29, r3.2.1, r3.2.2.1, r3.2.2.2.1, r3.2.2.2.2.1, r3.2.2.2.2.2.1, r3.2.2.2.2.2.2.1, r5, r9.1, r9.2.1, r9.2.2.1, r9.2.2.2, r3.2.2.2.2.2.2.2.2.2.1, r3.2.2.2.2.2.2.2.2.2.2))
else
rec29 (l3_29 + 1))
def f_X3_seek_L29 (m17 : Al) (l2_7 : Int32) (rec7 : (Int32 → Al → Al → Ar → Ar → Al → Al → Al → Int64 → Int64 → Int32 → Int32 → Option (Int32 × Al × Al × Ar × Ar × Al × Al × Al × Int32 × Al × Int64 × Int64 × Int32 × Int32))) (r3 : (Bool × Al × Al × Ar × Ar × Al × Al × Int64 × Int64 × Int32 × Int32)) (r5 : Al) : Nat → Int32 → Option (Int32 × Al × Al × Ar × Ar × Al × Al × Al × Int32 × Al × Int64 × Int64 × Int32 × Int32)
  | 0 => fun _ => none
  | n + 1 => f_X3_seek_B29 m17 l2_7 rec7 r3 r5 (f_X3_seek_L29 m17 l2_7 rec7 r3 r5 n)
def f_X3_seek_B7 (m0 : Ar) (m1 : Ar) (m2 : Ar) (m3 : Ar) (m4 : Int32) (m5 : Ar) (m6 : Int32) (m14 : Int32) (m16 : Int32) (m17 : Al) (p1 : Int32) (rec7 : Int32 → Al → Al → Ar → Ar → Al → Al → Al → Int64 → Int64 → Int32 → Int32 → Option (Int32 × Al × Al × Ar × Ar × Al × Al × Al × Int32 × Al × Int64 × Int64 × Int32 × Int32)) (l2_7 : Int32) (m7_7 : Al) (m8_7 : Al) (m10_7 : Ar) (m11_7 : Ar) (m12_7 : Al) (m13_7 : Al) (m15_7 : Al) (m24_7 : Int64) (m25_7 : Int64) (m26_7 : Int32) (m27_7 : Int32) : Option (Int32 × Al × Al × Ar × Ar × Al × Al × Al × Int32 × Al × Int64 × Int64 × Int32 × Int32) :=
if p1 < l2_7 then
some ((-2), m7_7, m8_7, m10_7, m11_7, m12_7, m13_7, m15_7, m16, m17, m24_7, m25_7, m26_7, m27_7)
else
(f_X3_step m0 m1 m2 m3 m4 m5 m6 m7_7 m8_7 m10_7 m11_7 m12_7 m13_7 m14 m24_7 m25_7 m26_7 m27_7).bind (fun r3 =>
if ¬ (b2i r3.1) = 0 then
(f_X3_keep r3.2.1 m15_7 l2_7).bind (fun r5 =>
f_X3_seek_L29 m17 l2_7 rec7 r3 r5 fuel 0)
else
some ((-3), r3.2.1, r3.2.2.1, r3.2.2.2.1, r3.2.2.2.2.1, r3.2.2.2.2.2.1, r3.2.2.2.2.2.2.1, m15_7, m16, m17, r3.2.2.2.2.2.2.2.1, r3.2.2.2.2.2.2.2.2.1, r3.2.2.2.2.2.2.2.2.2.1, r3.2.2.2.2.2.2.2.2.2.2))
def f_X3_seek_L7 (m0 : Ar) (m1 : Ar) (m2 : Ar) (m3 : Ar) (m4 : Int32) (m5 : Ar) (m6 : Int32) (m14 : Int32) (m16 : Int32) (m17 : Al) (p1 : Int32) : Nat → Int32 → Al → Al → Ar → Ar → Al → Al → Al → Int64 → Int64 → Int32 → Int32 → Option (Int32 × Al × Al × Ar × Ar × Al × Al × Al × Int32 × Al × Int64 × Int64 × Int32 × Int32)
  | 0 => fun _ _ _ _ _ _ _ _ _ _ _ _ => none
  | n + 1 => f_X3_seek_B7 m0 m1 m2 m3 m4 m5 m6 m14 m16 m17 p1 (f_X3_seek_L7 m0 m1 m2 m3 m4 m5 m6 m14 m16 m17 p1 n)
def f_X3_seek (m0 : Ar) (m1 : Ar) (m2 : Ar) (m3 : Ar) (m4 : Int32) (m5 : Ar) (m6 : Int32) (m7 : Al) (m8 : Al) (m10 : Ar) (m11 : Ar) (m12 : Al) (m13 : Al) (m14 : Int32) (m15 : Al) (m16 : Int32) (m17 : Al) (m24 : Int64) (m25 : Int64) (m26 : Int32) (m27 : Int32) (p1 : Int32) : Option (Int32 × Al × Al × Ar × Ar × Al × Al × Al × Int32 × Al × Int64 × Int64 × Int32 × Int32) :=
(f_X3_keep m7 m15 0).bind (fun r1 =>
f_X3_seek_L7 m0 m1 m2 m3 m4 m5 m6 m14 m16 m17 p1 fuel 1 m7 m8 m10 m11 m12 m13 r1 m24 m25 m26 m27)
abbrev rmX3_seek : Room := { frames := 124, cells := 0, slots := 0, locals := 2867 }
set_option maxHeartbeats 40000000 in
set_option maxRecDepth 100000 in
theorem c_X3_seek (l : Launch) (D : va_G) (cI cJ cZ : ClassId) (adm : Nat → Nat) (m0 : Ar) (m1 : Ar) (m2 : Ar) (m3 : Ar) (m4 : Int32) (m5 : Ar) (m6 : Int32) (m7 : Al) (m8 : Al) (m9 : Al) (m10 : Ar) (m11 : Ar) (m12 : Al) (m13 : Al) (m14 : Int32) (m15 : Al) (m16 : Int32) (m17 : Al) (m18 : Ar) (m19 : Int32) (m20 : Al) (m21 : Al) (m22 : Int32) (m23 : Int32) (m24 : Int64) (m25 : Int64) (m26 : Int32) (m27 : Int32) (p1 : Int32) (o : (Int32 × Al × Al × Ar × Ar × Al × Al × Al × Int32 × Al × Int64 × Int64 × Int32 × Int32)) (hf : f_X3_seek m0 m1 m2 m3 m4 m5 m6 m7 m8 m10 m11 m12 m13 m14 m15 m16 m17 m24 m25 m26 m27 p1 = some o) : CtI l yX3_seek wsX3_seek rmX3_seek D cI cJ cZ [.ref (adm 0), .int p1] (wMc cI cJ adm m0 m1 m2 m3 m4 m5 m6 m7 m8 m9 m10 m11 m12 m13 m14 m15 m16 m17 m18 m19 m20 m21 m22 m23 m24 m25 m26 m27) (wMc cI cJ adm m0 m1 m2 m3 m4 m5 m6 o.2.1 o.2.2.1 m9 o.2.2.2.1 o.2.2.2.2.1 o.2.2.2.2.2.1 o.2.2.2.2.2.2.1 m14 o.2.2.2.2.2.2.2.1 o.2.2.2.2.2.2.2.2.1 o.2.2.2.2.2.2.2.2.2.1 m18 m19 m20 m21 m22 m23 o.2.2.2.2.2.2.2.2.2.2.1 o.2.2.2.2.2.2.2.2.2.2.2.1 o.2.2.2.2.2.2.2.2.2.2.2.2.1 o.2.2.2.2.2.2.2.2.2.2.2.2.2) o.1 := by
  intro sz
  refine Met.ofW (cc := cX3_seek) (maxL := 4) (ret := (some .int)) (by decide) rfl ?_
  intro p e s m args below meth c s₁ B hml hv
  obtain ⟨rfl, hsz, hP, hK, hD0⟩ := hv
  have hx := B.exec
  have hb := B.bytes
  have hr := B.returns
  have hts := atoms_spec (ws := wsX3_seek) B.pre
  have hown : s.vm.findClass RX3 = some m.cls := findClass_of_methodNamed B.named
  have hlocks := B.notSynchronized
  subst hsz
  have hD := hD0.self (sz := s.heap.size)
  clear hD0
  generalize hAe : va_A (wMc cI cJ adm m0 m1 m2 m3 m4 m5 m6 m7 m8 m9 m10 m11 m12 m13 m14 m15 m16 m17 m18 m19 m20 m21 m22 m23 m24 m25 m26 m27) s.heap.size = A at hD ⊢
  have hA : ∀ q : Nat, s.heap.size ≤ q → A q := fun q h => by rw [← hAe]; exact Or.inr h
  have hS : va_S A s.heap s.heap [] := va_S.rf
  have hl := lv_entry ([.ref (adm 0), .int p1]) (n := 4) (Nat.le_of_ble_eq_true rfl)
  rw [lg_entry_eq]
  generalize (lg_sl ([.ref (adm 0), .int p1]) ++ List.replicate (4 - (lg_sl ([.ref (adm 0), .int p1])).length) Slot.unset).toArray = ls at hl ⊢
  replace hl : lv_has ls 4 [(0, .ref (adm 0)), (1, .int p1)] := hl
  unfold f_X3_seek at hf
  refine lv_aload_n hx hb dX3_seek_0 rfl (lv_at hl 0 rfl) ?_
  refine lv_iconst (v := 0) hx hb dX3_seek_1 (by decide) ?_
  replace hf := bdE hf
  obtain ⟨r1, hgr1, hf⟩ := hf
  refine xVw (va_runV (As := [.int 0]) (rest := []) ⟨hx, hb, hml, hown, hts⟩ (c_X3_keep l D cI cJ cZ adm m0 m1 m2 m3 m4 m5 m6 m7 m8 m9 m10 m11 m12 m13 m14 m15 m16 m17 m18 m19 m20 m21 m22 m23 m24 m25 m26 m27 0 r1 hgr1 _) (cwV 1 hts gX3_seek_X3_keep rfl rfl rfl (by decide +kernel) ⟨Nat.le_of_ble_eq_true rfl, Nat.le_of_ble_eq_true rfl⟩) ⟨PreW.blind, xRecv (q0 := 0) hK hP rfl rfl, (xPrew hK hP hD _)⟩ rfl rfl hl.1 rfl (lv_room (Nat.le_of_ble_eq_true rfl)) dX3_seek_2 ⟨Nat.le_of_ble_eq_true rfl, Nat.le_of_ble_eq_true rfl⟩) hD hS hA (fun H locs hP hD hS => ?_)
  replace hP : va_P D vwCl (wMc cI cJ adm m0 m1 m2 m3 m4 m5 m6 m7 m8 m9 m10 m11 m12 m13 m14 r1 m16 m17 m18 m19 m20 m21 m22 m23 m24 m25 m26 m27) H := hP
  replace hD : va_D A (wMc cI cJ adm m0 m1 m2 m3 m4 m5 m6 m7 m8 m9 m10 m11 m12 m13 m14 r1 m16 m17 m18 m19 m20 m21 m22 m23 m24 m25 m26 m27) := hD
  refine lv_iconst (v := 1) hx hb dX3_seek_5 (by decide) ?_
  refine lv_istore_n (lv' := [(2, .int 1), (0, .ref (adm 0)), (1, .int p1)]) hx hb dX3_seek_6 rfl hl (by decide) rfl (fun ls hl => ?_)
  have L7 : ∀ (n : Nat) (l2_7 : Int32) (m7_7 : Al) (m8_7 : Al) (m10_7 : Ar) (m11_7 : Ar) (m12_7 : Al) (m13_7 : Al) (m15_7 : Al) (m24_7 : Int64) (m25_7 : Int64) (m26_7 : Int32) (m27_7 : Int32) (H : Heap) (locs : List Loc) (ls : Array Slot), f_X3_seek_L7 m0 m1 m2 m3 m4 m5 m6 m14 m16 m17 p1 n l2_7 m7_7 m8_7 m10_7 m11_7 m12_7 m13_7 m15_7 m24_7 m25_7 m26_7 m27_7 = some o → va_P D vwCl (wMc cI cJ adm m0 m1 m2 m3 m4 m5 m6 m7_7 m8_7 m9 m10_7 m11_7 m12_7 m13_7 m14 m15_7 m16 m17 m18 m19 m20 m21 m22 m23 m24_7 m25_7 m26_7 m27_7) H → va_D A (wMc cI cJ adm m0 m1 m2 m3 m4 m5 m6 m7_7 m8_7 m9 m10_7 m11_7 m12_7 m13_7 m14 m15_7 m16 m17 m18 m19 m20 m21 m22 m23 m24_7 m25_7 m26_7 m27_7) → va_S A s.heap H locs → lv_has ls 4 [(0, .ref (adm 0)), (1, .int p1), (2, .int l2_7)] → W p l e (headSpec wsX3_seek rmX3_seek).room s m ([.ref (adm 0), .int p1] : List Value).toArray below meth c H locs 0 0 (MQ below (QI D A o.1 (wMc cI cJ adm m0 m1 m2 m3 m4 m5 m6 o.2.1 o.2.2.1 m9 o.2.2.2.1 o.2.2.2.2.1 o.2.2.2.2.2.1 o.2.2.2.2.2.2.1 m14 o.2.2.2.2.2.2.2.1 o.2.2.2.2.2.2.2.2.1 o.2.2.2.2.2.2.2.2.2.1 m18 m19 m20 m21 m22 m23 o.2.2.2.2.2.2.2.2.2.2.1 o.2.2.2.2.2.2.2.2.2.2.2.1 o.2.2.2.2.2.2.2.2.2.2.2.2.1 o.2.2.2.2.2.2.2.2.2.2.2.2.2)) ([.ref (adm 0), .int p1] : List Value).toArray s 0 0 A) (F0 m 7 ls []) := by
    intro n
    induction n with
    | zero => intro l2_7 m7_7 m8_7 m10_7 m11_7 m12_7 m13_7 m15_7 m24_7 m25_7 m26_7 m27_7 H locs ls hf; cases hf
    | succ n ih7 =>
      intro l2_7 m7_7 m8_7 m10_7 m11_7 m12_7 m13_7 m15_7 m24_7 m25_7 m26_7 m27_7 H locs ls hf hP hD hS hl
      replace hf : f_X3_seek_B7 m0 m1 m2 m3 m4 m5 m6 m14 m16 m17 p1 (f_X3_seek_L7 m0 m1 m2 m3 m4 m5 m6 m14 m16 m17 p1 n) l2_7 m7_7 m8_7 m10_7 m11_7 m12_7 m13_7 m15_7 m24_7 m25_7 m26_7 m27_7 = some o := hf
      generalize f_X3_seek_L7 m0 m1 m2 m3 m4 m5 m6 m14 m16 m17 p1 n = rec7 at ih7 hf
      unfold f_X3_seek_B7 at hf
      refine lv_iload_n hx hb dX3_seek_7 rfl (lv_at hl 2 rfl) ?_
      refine lv_iload_n hx hb dX3_seek_8 rfl (lv_at hl 1 rfl) ?_
      refine lv_icmp_gt (tgt := 68) hx hb dX3_seek_9 (by decide) (fun q2 => ?_) (fun q2 => ?_)
      · replace hf := ifT q2 hf
        refine lv_bipush (v := (-2)) hx hb dX3_seek_68 (by decide) ?_
        obtain rfl := Option.some.inj hf
        exact retI hx hb hr hlocks hP hD hS dX3_seek_70
      · replace hf := ifF q2 hf
        refine lv_aload_n hx hb dX3_seek_12 rfl (lv_at hl 0 rfl) ?_
        replace hf := bdE hf
        obtain ⟨r3, hgr3, hf⟩ := hf
        refine xIw (va_runV (As := []) (rest := []) ⟨hx, hb, hml, hown, hts⟩ (c_X3_step l D cI cJ cZ adm m0 m1 m2 m3 m4 m5 m6 m7_7 m8_7 m9 m10_7 m11_7 m12_7 m13_7 m14 m15_7 m16 m17 m18 m19 m20 m21 m22 m23 m24_7 m25_7 m26_7 m27_7 r3 hgr3 _) (cwV 0 hts gX3_seek_X3_step rfl rfl rfl (by decide +kernel) ⟨Nat.le_of_ble_eq_true rfl, Nat.le_of_ble_eq_true rfl⟩) ⟨PreW.blind, xRecv (q0 := 0) hK hP rfl rfl, (xPrew hK hP hD _)⟩ rfl rfl hl.1 rfl (lv_room (Nat.le_of_ble_eq_true rfl)) dX3_seek_13 ⟨Nat.le_of_ble_eq_true rfl, Nat.le_of_ble_eq_true rfl⟩) hD hS hA (fun H locs hP hD hS => ?_)
        replace hP : va_P D vwCl (wMc cI cJ adm m0 m1 m2 m3 m4 m5 m6 r3.2.1 r3.2.2.1 m9 r3.2.2.2.1 r3.2.2.2.2.1 r3.2.2.2.2.2.1 r3.2.2.2.2.2.2.1 m14 m15_7 m16 m17 m18 m19 m20 m21 m22 m23 r3.2.2.2.2.2.2.2.1 r3.2.2.2.2.2.2.2.2.1 r3.2.2.2.2.2.2.2.2.2.1 r3.2.2.2.2.2.2.2.2.2.2) H := hP
        replace hD : va_D A (wMc cI cJ adm m0 m1 m2 m3 m4 m5 m6 r3.2.1 r3.2.2.1 m9 r3.2.2.2.1 r3.2.2.2.2.1 r3.2.2.2.2.2.1 r3.2.2.2.2.2.2.1 m14 m15_7 m16 m17 m18 m19 m20 m21 m22 m23 r3.2.2.2.2.2.2.2.1 r3.2.2.2.2.2.2.2.2.1 r3.2.2.2.2.2.2.2.2.2.1 r3.2.2.2.2.2.2.2.2.2.2) := hD
        refine lv_if_ne (tgt := 22) hx hb dX3_seek_16 (by decide) (fun q4 => ?_) (fun q4 => ?_)
        · replace hf := ifT q4 hf
          refine lv_aload_n hx hb dX3_seek_22 rfl (lv_at hl 0 rfl) ?_
          refine lv_iload_n hx hb dX3_seek_23 rfl (lv_at hl 2 rfl) ?_
          replace hf := bdE hf
          obtain ⟨r5, hgr5, hf⟩ := hf
          refine xVw (va_runV (As := [.int l2_7]) (rest := []) ⟨hx, hb, hml, hown, hts⟩ (c_X3_keep l D cI cJ cZ adm m0 m1 m2 m3 m4 m5 m6 r3.2.1 r3.2.2.1 m9 r3.2.2.2.1 r3.2.2.2.2.1 r3.2.2.2.2.2.1 r3.2.2.2.2.2.2.1 m14 m15_7 m16 m17 m18 m19 m20 m21 m22 m23 r3.2.2.2.2.2.2.2.1 r3.2.2.2.2.2.2.2.2.1 r3.2.2.2.2.2.2.2.2.2.1 r3.2.2.2.2.2.2.2.2.2.2 l2_7 r5 hgr5 _) (cwV 1 hts gX3_seek_X3_keep rfl rfl rfl (by decide +kernel) ⟨Nat.le_of_ble_eq_true rfl, Nat.le_of_ble_eq_true rfl⟩) ⟨PreW.blind, xRecv (q0 := 0) hK hP rfl rfl, (xPrew hK hP hD _)⟩ rfl rfl hl.1 rfl (lv_room (Nat.le_of_ble_eq_true rfl)) dX3_seek_24 ⟨Nat.le_of_ble_eq_true rfl, Nat.le_of_ble_eq_true rfl⟩) hD hS hA (fun H locs hP hD hS => ?_)
          replace hP : va_P D vwCl (wMc cI cJ adm m0 m1 m2 m3 m4 m5 m6 r3.2.1 r3.2.2.1 m9 r3.2.2.2.1 r3.2.2.2.2.1 r3.2.2.2.2.2.1 r3.2.2.2.2.2.2.1 m14 r5 m16 m17 m18 m19 m20 m21 m22 m23 r3.2.2.2.2.2.2.2.1 r3.2.2.2.2.2.2.2.2.1 r3.2.2.2.2.2.2.2.2.2.1 r3.2.2.2.2.2.2.2.2.2.2) H := hP
          replace hD : va_D A (wMc cI cJ adm m0 m1 m2 m3 m4 m5 m6 r3.2.1 r3.2.2.1 m9 r3.2.2.2.1 r3.2.2.2.2.1 r3.2.2.2.2.2.1 r3.2.2.2.2.2.2.1 m14 r5 m16 m17 m18 m19 m20 m21 m22 m23 r3.2.2.2.2.2.2.2.1 r3.2.2.2.2.2.2.2.2.1 r3.2.2.2.2.2.2.2.2.2.1 r3.2.2.2.2.2.2.2.2.2.2) := hD
          refine lv_iconst (v := 0) hx hb dX3_seek_27 (by decide) ?_
          refine lv_istore_n (lv' := [(3, .int 0), (0, .ref (adm 0)), (1, .int p1), (2, .int l2_7)]) hx hb dX3_seek_28 rfl hl (by decide) rfl (fun ls hl => ?_)
          have L29 : ∀ (n : Nat) (l3_29 : Int32) (H : Heap) (locs : List Loc) (ls : Array Slot), f_X3_seek_L29 m17 l2_7 rec7 r3 r5 n l3_29 = some o → va_P D vwCl (wMc cI cJ adm m0 m1 m2 m3 m4 m5 m6 r3.2.1 r3.2.2.1 m9 r3.2.2.2.1 r3.2.2.2.2.1 r3.2.2.2.2.2.1 r3.2.2.2.2.2.2.1 m14 r5 m16 m17 m18 m19 m20 m21 m22 m23 r3.2.2.2.2.2.2.2.1 r3.2.2.2.2.2.2.2.2.1 r3.2.2.2.2.2.2.2.2.2.1 r3.2.2.2.2.2.2.2.2.2.2) H → va_D A (wMc cI cJ adm m0 m1 m2 m3 m4 m5 m6 r3.2.1 r3.2.2.1 m9 r3.2.2.2.1 r3.2.2.2.2.1 r3.2.2.2.2.2.1 r3.2.2.2.2.2.2.1 m14 r5 m16 m17 m18 m19 m20 m21 m22 m23 r3.2.2.2.2.2.2.2.1 r3.2.2.2.2.2.2.2.2.1 r3.2.2.2.2.2.2.2.2.2.1 r3.2.2.2.2.2.2.2.2.2.2) → va_S A s.heap H locs → lv_has ls 4 [(0, .ref (adm 0)), (1, .int p1), (2, .int l2_7), (3, .int l3_29)] → W p l e (headSpec wsX3_seek rmX3_seek).room s m ([.ref (adm 0), .int p1] : List Value).toArray below meth c H locs 0 0 (MQ below (QI D A o.1 (wMc cI cJ adm m0 m1 m2 m3 m4 m5 m6 o.2.1 o.2.2.1 m9 o.2.2.2.1 o.2.2.2.2.1 o.2.2.2.2.2.1 o.2.2.2.2.2.2.1 m14 o.2.2.2.2.2.2.2.1 o.2.2.2.2.2.2.2.2.1 o.2.2.2.2.2.2.2.2.2.1 m18 m19 m20 m21 m22 m23 o.2.2.2.2.2.2.2.2.2.2.1 o.2.2.2.2.2.2.2.2.2.2.2.1 o.2.2.2.2.2.2.2.2.2.2.2.2.1 o.2.2.2.2.2.2.2.2.2.2.2.2.2)) ([.ref (adm 0), .int p1] : List Value).toArray s 0 0 A) (F0 m 29 ls []) := by
            intro n
            induction n with
            | zero => intro l3_29 H locs ls hf; cases hf
            | succ n ih29 =>
              intro l3_29 H locs ls hf hP hD hS hl
              replace hf : f_X3_seek_B29 m17 l2_7 rec7 r3 r5 (f_X3_seek_L29 m17 l2_7 rec7 r3 r5 n) l3_29 = some o := hf
              generalize f_X3_seek_L29 m17 l2_7 rec7 r3 r5 n = rec29 at ih29 hf
              unfold f_X3_seek_B29 at hf
              refine lv_iload_n hx hb dX3_seek_29 rfl (lv_at hl 3 rfl) ?_
              refine lv_iload_n hx hb dX3_seek_30 rfl (lv_at hl 2 rfl) ?_
              refine lv_icmp_ge (tgt := 62) hx hb dX3_seek_31 (by decide) (fun q6 => ?_) (fun q6 => ?_)
              · replace hf := ifT q6 hf
                refine lv_iinc (v := l2_7 + 1) (lv' := [(2, .int (l2_7 + 1)), (0, .ref (adm 0)), (1, .int p1), (3, .int l3_29)]) hx hb dX3_seek_62 hl (k := 2) rfl (by rfl) (by decide) rfl (fun ls hl => ?_)
                refine lv_goto (tgt := 7) hx hb dX3_seek_65 (by decide) ?_
                exact ih7 (l2_7 + 1) r3.2.1 r3.2.2.1 r3.2.2.2.1 r3.2.2.2.2.1 r3.2.2.2.2.2.1 r3.2.2.2.2.2.2.1 r5 r3.2.2.2.2.2.2.2.1 r3.2.2.2.2.2.2.2.2.1 r3.2.2.2.2.2.2.2.2.2.1 r3.2.2.2.2.2.2.2.2.2.2 _ _ _ hf hP hD hS (lv_sub hl [1, 2, 0] rfl)
              · replace hf := ifF q6 hf
                refine lv_aload_n hx hb dX3_seek_34 rfl (lv_at hl 0 rfl) ?_
                refine lv_iload_n hx hb dX3_seek_35 rfl (lv_at hl 3 rfl) ?_
                refine lv_iload_n hx hb dX3_seek_36 rfl (lv_at hl 2 rfl) ?_
                replace hf := bdE hf
                obtain ⟨r7, hgr7, hf⟩ := hf
                refine xIw (va_runV (As := [.int l3_29, .int l2_7]) (rest := []) ⟨hx, hb, hml, hown, hts⟩ (c_X3_areAlike l D cI cJ cZ adm m0 m1 m2 m3 m4 m5 m6 r3.2.1 r3.2.2.1 m9 r3.2.2.2.1 r3.2.2.2.2.1 r3.2.2.2.2.2.1 r3.2.2.2.2.2.2.1 m14 r5 m16 m17 m18 m19 m20 m21 m22 m23 r3.2.2.2.2.2.2.2.1 r3.2.2.2.2.2.2.2.2.1 r3.2.2.2.2.2.2.2.2.2.1 r3.2.2.2.2.2.2.2.2.2.2 l3_29 l2_7 r7 hgr7 _) (cwV 2 hts gX3_seek_X3_areAlike rfl rfl rfl (by decide +kernel) ⟨Nat.le_of_ble_eq_true rfl, Nat.le_of_ble_eq_true rfl⟩) ⟨PreW.blind, xRecv (q0 := 0) hK hP rfl rfl, (xPrew hK hP hD _)⟩ rfl rfl hl.1 rfl (lv_room (Nat.le_of_ble_eq_true rfl)) dX3_seek_37 ⟨Nat.le_of_ble_eq_true rfl, Nat.le_of_ble_eq_true rfl⟩) hD hS hA (fun H locs hP hD hS => ?_)
                replace hP : va_P D vwCl (wMc cI cJ adm m0 m1 m2 m3 m4 m5 m6 r3.2.1 r3.2.2.1 m9 r3.2.2.2.1 r3.2.2.2.2.1 r3.2.2.2.2.2.1 r3.2.2.2.2.2.2.1 m14 r5 m16 m17 m18 m19 m20 m21 m22 m23 r3.2.2.2.2.2.2.2.1 r3.2.2.2.2.2.2.2.2.1 r3.2.2.2.2.2.2.2.2.2.1 r3.2.2.2.2.2.2.2.2.2.2) H := hP
                replace hD : va_D A (wMc cI cJ adm m0 m1 m2 m3 m4 m5 m6 r3.2.1 r3.2.2.1 m9 r3.2.2.2.1 r3.2.2.2.2.1 r3.2.2.2.2.2.1 r3.2.2.2.2.2.2.1 m14 r5 m16 m17 m18 m19 m20 m21 m22 m23 r3.2.2.2.2.2.2.2.1 r3.2.2.2.2.2.2.2.2.1 r3.2.2.2.2.2.2.2.2.2.1 r3.2.2.2.2.2.2.2.2.2.2) := hD
                refine lv_if_ne (tgt := 46) hx hb dX3_seek_40 (by decide) (fun q8 => ?_) (fun q8 => ?_)
                · replace hf := ifT q8 hf
                  refine lv_aload_n hx hb dX3_seek_46 rfl (lv_at hl 0 rfl) ?_
                  refine lv_iload_n hx hb dX3_seek_47 rfl (lv_at hl 3 rfl) ?_
                  refine lv_iload_n hx hb dX3_seek_48 rfl (lv_at hl 2 rfl) ?_
                  replace hf := bdE hf
                  obtain ⟨r9, hgr9, hf⟩ := hf
                  refine xVw (va_runV (As := [.int l3_29, .int l2_7]) (rest := []) ⟨hx, hb, hml, hown, hts⟩ (c_X3_tell l D cI cJ cZ adm m0 m1 m2 m3 m4 m5 m6 r3.2.1 r3.2.2.1 m9 r3.2.2.2.1 r3.2.2.2.2.1 r3.2.2.2.2.2.1 r3.2.2.2.2.2.2.1 m14 r5 m16 m17 m18 m19 m20 m21 m22 m23 r3.2.2.2.2.2.2.2.1 r3.2.2.2.2.2.2.2.2.1 r3.2.2.2.2.2.2.2.2.2.1 r3.2.2.2.2.2.2.2.2.2.2 l3_29 l2_7 r9 hgr9 _) (cwV 2 hts gX3_seek_X3_tell rfl rfl rfl (by decide +kernel) ⟨Nat.le_of_ble_eq_true rfl, Nat.le_of_ble_eq_true rfl⟩) ⟨PreW.blind, xRecv (q0 := 0) hK hP rfl rfl, (xPrew hK hP hD _)⟩ rfl rfl hl.1 rfl (lv_room (Nat.le_of_ble_eq_true rfl)) dX3_seek_49 ⟨Nat.le_of_ble_eq_true rfl, Nat.le_of_ble_eq_true rfl⟩) hD hS hA (fun H locs hP hD hS => ?_)
                  replace hP : va_P D vwCl (wMc cI cJ adm m0 m1 m2 m3 m4 m5 m6 r3.2.1 r3.2.2.1 m9 r3.2.2.2.1 r3.2.2.2.2.1 r3.2.2.2.2.2.1 r3.2.2.2.2.2.2.1 m14 r5 r9.1 r9.2.1 m18 m19 m20 m21 m22 m23 r9.2.2.1 r9.2.2.2 r3.2.2.2.2.2.2.2.2.2.1 r3.2.2.2.2.2.2.2.2.2.2) H := hP
                  replace hD : va_D A (wMc cI cJ adm m0 m1 m2 m3 m4 m5 m6 r3.2.1 r3.2.2.1 m9 r3.2.2.2.1 r3.2.2.2.2.1 r3.2.2.2.2.2.1 r3.2.2.2.2.2.2.1 m14 r5 r9.1 r9.2.1 m18 m19 m20 m21 m22 m23 r9.2.2.1 r9.2.2.2 r3.2.2.2.2.2.2.2.2.2.1 r3.2.2.2.2.2.2.2.2.2.2) := hD
                  refine lv_iload_n hx hb dX3_seek_52 rfl (lv_at hl 2 rfl) ?_
                  refine lv_iload_n hx hb dX3_seek_53 rfl (lv_at hl 3 rfl) ?_
                  refine lv_isub hx hb dX3_seek_54 ?_
                  obtain rfl := Option.some.inj hf
                  exact retI hx hb hr hlocks hP hD hS dX3_seek_55
                · replace hf := ifN q8 hf
                  refine lv_goto (tgt := 56) hx hb dX3_seek_43 (by decide) ?_
                  refine lv_iinc (v := l3_29 + 1) (lv' := [(3, .int (l3_29 + 1)), (0, .ref (adm 0)), (1, .int p1), (2, .int l2_7)]) hx hb dX3_seek_56 hl (k := 3) rfl (by rfl) (by decide) rfl (fun ls hl => ?_)
                  refine lv_goto (tgt := 29) hx hb dX3_seek_59 (by decide) ?_
                  exact ih29 (l3_29 + 1) _ _ _ hf hP hD hS (lv_sub hl [1, 2, 3, 0] rfl)
          exact L29 fuel 0 _ _ _ hf hP hD hS (lv_sub hl [1, 2, 3, 0] rfl)
        · replace hf := ifN q4 hf
          refine lv_bipush (v := (-3)) hx hb dX3_seek_19 (by decide) ?_
          obtain rfl := Option.some.inj hf
          exact retI hx hb hr hlocks hP hD hS dX3_seek_21
  exact L7 fuel 1 m7 m8 m10 m11 m12 m13 r1 m24 m25 m26 m27 _ _ _ hf hP hD hS (lv_sub hl [1, 2, 0] rfl)

def f_X3_isFraction (p1 : Int32) (p2 : Int32) : Option Bool :=
(f_X3_in p1 1 1000000).bind (fun r1 =>
if (b2i r1) = 0 then
some false
else
(f_X3_in p2 1 1000000).bind (fun r3 =>
if (b2i r3) = 0 then
some false
else
some true))
abbrev rmX3_isFraction : Room := { frames := 1, cells := 0, slots := 0, locals := 22 }
set_option maxHeartbeats 40000000 in
set_option maxRecDepth 100000 in
theorem c_X3_isFraction (l : Launch) (D : va_G) (cI cJ cZ : ClassId) (p1 : Int32) (p2 : Int32) (o : Bool) (hf : f_X3_isFraction p1 p2 = some o) : CtI l yX3_isFraction wsX3_isFraction rmX3_isFraction D cI cJ cZ [.int p1, .int p2] [] [] (b2i o) := by
  intro sz
  refine Met.ofW (cc := cX3_isFraction) (maxL := 2) (ret := (some .boolean)) (by decide) rfl ?_
  intro p e s m args below meth c s₁ B hml hv
  obtain ⟨rfl, hsz, hP, hK, hD0⟩ := hv
  have hx := B.exec
  have hb := B.bytes
  have hr := B.returns
  have hts := atoms_spec (ws := wsX3_isFraction) B.pre
  have hown : s.vm.findClass RX3 = some m.cls := findClass_of_methodNamed B.named
  have hlocks := B.notSynchronized
  subst hsz
  have hD := hD0.self (sz := s.heap.size)
  clear hD0
  generalize hAe : va_A [] s.heap.size = A at hD ⊢
  have hA : ∀ q : Nat, s.heap.size ≤ q → A q := fun q h => by rw [← hAe]; exact Or.inr h
  have hS : va_S A s.heap s.heap [] := va_S.rf
  have hw0 : (Cond.constant RX3 179 (1000000)).before _ s = true := hts _ (by decide +kernel)
  have hl := lv_entry ([.int p1, .int p2]) (n := 2) (Nat.le_of_ble_eq_true rfl)
  rw [lg_entry_eq]
  generalize (lg_sl ([.int p1, .int p2]) ++ List.replicate (2 - (lg_sl ([.int p1, .int p2])).length) Slot.unset).toArray = ls at hl ⊢
  replace hl : lv_has ls 2 [(0, .int p1), (1, .int p2)] := hl
  unfold f_X3_isFraction at hf
  refine lv_iload_n hx hb dX3_isFraction_0 rfl (lv_at hl 0 rfl) ?_
  refine lv_iconst (v := 1) hx hb dX3_isFraction_1 (by decide) ?_
  refine lv_ldc hx hb hown hw0 dX3_isFraction_2 ?_
  replace hf := bdE hf
  obtain ⟨r1, hgr1, hf⟩ := hf
  refine xI0 (va_runS (As := [.int p1, .int 1, .int 1000000]) (rest := []) ⟨hx, hb, hml, hown, hts⟩ (c_X3_in l D cI cJ cZ p1 1 1000000 r1 hgr1 _) (va_cwS 3 hts gX3_isFraction_X3_in rfl rfl rfl (by decide +kernel) ⟨Nat.le_of_ble_eq_true rfl, Nat.le_of_ble_eq_true rfl⟩) ⟨PreW.blind, (xPre0 hK _)⟩ rfl rfl hl.1 rfl (lv_room (Nat.le_of_ble_eq_true rfl)) dX3_isFraction_4 ⟨Nat.le_of_ble_eq_true rfl, Nat.le_of_ble_eq_true rfl⟩) hP hS hA (fun H locs hP hS => ?_)
  refine lv_if_eq (tgt := 24) hx hb dX3_isFraction_7 (by decide) (fun q2 => ?_) (fun q2 => ?_)
  · replace hf := ifT q2 hf
    refine lv_iconst (v := 0) hx hb dX3_isFraction_24 (by decide) ?_
    obtain rfl := Option.some.inj hf
    exact retZ false rfl hx hb hr hlocks hP hD hS dX3_isFraction_25
  · replace hf := ifF q2 hf
    refine lv_iload_n hx hb dX3_isFraction_10 rfl (lv_at hl 1 rfl) ?_
    refine lv_iconst (v := 1) hx hb dX3_isFraction_11 (by decide) ?_
    refine lv_ldc hx hb hown hw0 dX3_isFraction_12 ?_
    replace hf := bdE hf
    obtain ⟨r3, hgr3, hf⟩ := hf
    refine xI0 (va_runS (As := [.int p2, .int 1, .int 1000000]) (rest := []) ⟨hx, hb, hml, hown, hts⟩ (c_X3_in l D cI cJ cZ p2 1 1000000 r3 hgr3 _) (va_cwS 3 hts gX3_isFraction_X3_in rfl rfl rfl (by decide +kernel) ⟨Nat.le_of_ble_eq_true rfl, Nat.le_of_ble_eq_true rfl⟩) ⟨PreW.blind, (xPre0 hK _)⟩ rfl rfl hl.1 rfl (lv_room (Nat.le_of_ble_eq_true rfl)) dX3_isFraction_14 ⟨Nat.le_of_ble_eq_true rfl, Nat.le_of_ble_eq_true rfl⟩) hP hS hA (fun H locs hP hS => ?_)
    refine lv_if_eq (tgt := 24) hx hb dX3_isFraction_17 (by decide) (fun q4 => ?_) (fun q4 => ?_)
    · replace hf := ifT q4 hf
      refine lv_iconst (v := 0) hx hb dX3_isFraction_24 (by decide) ?_
      obtain rfl := Option.some.inj hf
      exact retZ false rfl hx hb hr hlocks hP hD hS dX3_isFraction_25
    · replace hf := ifF q4 hf
      refine lv_iconst (v := 1) hx hb dX3_isFraction_20 (by decide) ?_
      refine lv_goto (tgt := 25) hx hb dX3_isFraction_21 (by decide) ?_
      obtain rfl := Option.some.inj hf
      exact retZ true rfl hx hb hr hlocks hP hD hS dX3_isFraction_25

def f_X3_ways_J96 (l7_18 : Int32) (rec18 : (Int32 → Int32 → Int64 → Int64 → Option (Int32 × Int64 × Int64))) (r6 : (Int64 × Int64)) (l5_96 : Int32) : Option (Int32 × Int64 × Int64) :=
rec18 l5_96 (l7_18 + 1) r6.1 r6.2
def f_X3_ways_B18 (m0 : Ar) (m1 : Ar) (m18 : Ar) (m19 : Int32) (p1 : Int32) (p2 : Int32) (p3 : Int32) (p4 : Int32) (l6_6 : Int32) (rec6 : (Int32 → Int32 → Int64 → Int64 → Option (Int32 × Int64 × Int64))) (rec18 : Int32 → Int32 → Int64 → Int64 → Option (Int32 × Int64 × Int64)) (l5_18 : Int32) (l7_18 : Int32) (m24_18 : Int64) (m25_18 : Int64) : Option (Int32 × Int64 × Int64) :=
if m19 ≤ l7_18 then
rec6 l5_18 (l6_6 + 1) m24_18 m25_18
else
gd (ib l6_6 10) (
gd (ib l7_18 10) (
(f_X3_beat m0 m1 p1 (m18 l6_6.toNatClampNeg) (m18 l7_18.toNatClampNeg)).bind (fun r6 =>
if (lg_cmp (r6.1 * p3.toInt64) (r6.2 * p2.toInt64)) = 0 then
if ¬ l5_18 = p4 then
f_X3_ways_J96 l7_18 rec18 r6 (l5_18 + 1)
else
some ((100 * (m18 l6_6.toNatClampNeg)) + (m18 l7_18.toNatClampNeg), r6.1, r6.2)
else
f_X3_ways_J96 l7_18 rec18 r6 l5_18)))
def f_X3_ways_L18 (m0 : Ar) (m1 : Ar) (m18 : Ar) (m19 : Int32) (p1 : Int32) (p2 : Int32) (p3 : Int32) (p4 : Int32) (l6_6 : Int32) (rec6 : (Int32 → Int32 → Int64 → Int64 → Option (Int32 × Int64 × Int64))) : Nat → Int32 → Int32 → Int64 → Int64 → Option (Int32 × Int64 × Int64)
  | 0 => fun _ _ _ _ => none
  | n + 1 => f_X3_ways_B18 m0 m1 m18 m19 p1 p2 p3 p4 l6_6 rec6 (f_X3_ways_L18 m0 m1 m18 m19 p1 p2 p3 p4 l6_6 rec6 n)
def f_X3_ways_B6 (m0 : Ar) (m1 : Ar) (m18 : Ar) (m19 : Int32) (p1 : Int32) (p2 : Int32) (p3 : Int32) (p4 : Int32) (rec6 : Int32 → Int32 → Int64 → Int64 → Option (Int32 × Int64 × Int64)) (l5_6 : Int32) (l6_6 : Int32) (m24_6 : Int64) (m25_6 : Int64) : Option (Int32 × Int64 × Int64) :=
if m19 ≤ l6_6 then
if ¬ p4 = ((-1)) then
some ((-1), m24_6, m25_6)
else
some (l5_6, m24_6, m25_6)
else
f_X3_ways_L18 m0 m1 m18 m19 p1 p2 p3 p4 l6_6 rec6 fuel l5_6 0 m24_6 m25_6
def f_X3_ways_L6 (m0 : Ar) (m1 : Ar) (m18 : Ar) (m19 : Int32) (p1 : Int32) (p2 : Int32) (p3 : Int32) (p4 : Int32) : Nat → Int32 → Int32 → Int64 → Int64 → Option (Int32 × Int64 × Int64)
  | 0 => fun _ _ _ _ => none
  | n + 1 => f_X3_ways_B6 m0 m1 m18 m19 p1 p2 p3 p4 (f_X3_ways_L6 m0 m1 m18 m19 p1 p2 p3 p4 n)
def f_X3_ways (m0 : Ar) (m1 : Ar) (m18 : Ar) (m19 : Int32) (m24 : Int64) (m25 : Int64) (p1 : Int32) (p2 : Int32) (p3 : Int32) (p4 : Int32) : Option (Int32 × Int64 × Int64) :=
f_X3_ways_L6 m0 m1 m18 m19 p1 p2 p3 p4 fuel 0 0 m24 m25
abbrev rmX3_ways : Room := { frames := 123, cells := 0, slots := 0, locals := 2832 }
set_option maxHeartbeats 40000000 in
set_option maxRecDepth 100000 in
theorem c_X3_ways (l : Launch) (D : va_G) (cI cJ cZ : ClassId) (adm : Nat → Nat) (m0 : Ar) (m1 : Ar) (m2 : Ar) (m3 : Ar) (m4 : Int32) (m5 : Ar) (m6 : Int32) (m7 : Al) (m8 : Al) (m9 : Al) (m10 : Ar) (m11 : Ar) (m12 : Al) (m13 : Al) (m14 : Int32) (m15 : Al) (m16 : Int32) (m17 : Al) (m18 : Ar) (m19 : Int32) (m20 : Al) (m21 : Al) (m22 : Int32) (m23 : Int32) (m24 : Int64) (m25 : Int64) (m26 : Int32) (m27 : Int32) (p1 : Int32) (p2 : Int32) (p3 : Int32) (p4 : Int32) (o : (Int32 × Int64 × Int64)) (hf : f_X3_ways m0 m1 m18 m19 m24 m25 p1 p2 p3 p4 = some o) : CtI l yX3_ways wsX3_ways rmX3_ways D cI cJ cZ [.ref (adm 0), .int p1, .int p2, .int p3, .int p4] (wMc cI cJ adm m0 m1 m2 m3 m4 m5 m6 m7 m8 m9 m10 m11 m12 m13 m14 m15 m16 m17 m18 m19 m20 m21 m22 m23 m24 m25 m26 m27) (wMc cI cJ adm m0 m1 m2 m3 m4 m5 m6 m7 m8 m9 m10 m11 m12 m13 m14 m15 m16 m17 m18 m19 m20 m21 m22 m23 o.2.1 o.2.2 m26 m27) o.1 := by
  intro sz
  refine Met.ofW (cc := cX3_ways) (maxL := 8) (ret := (some .int)) (by decide) rfl ?_
  intro p e s m args below meth c s₁ B hml hv
  obtain ⟨rfl, hsz, hP, hK, hD0⟩ := hv
  have hx := B.exec
  have hb := B.bytes
  have hr := B.returns
  have hts := atoms_spec (ws := wsX3_ways) B.pre
  have hown : s.vm.findClass RX3 = some m.cls := findClass_of_methodNamed B.named
  have hlocks := B.notSynchronized
  subst hsz
  have hD := hD0.self (sz := s.heap.size)
  clear hD0
  generalize hAe : va_A (wMc cI cJ adm m0 m1 m2 m3 m4 m5 m6 m7 m8 m9 m10 m11 m12 m13 m14 m15 m16 m17 m18 m19 m20 m21 m22 m23 m24 m25 m26 m27) s.heap.size = A at hD ⊢
  have hA : ∀ q : Nat, s.heap.size ≤ q → A q := fun q h => by rw [← hAe]; exact Or.inr h
  have hS : va_S A s.heap s.heap [] := va_S.rf
  have hinX3 : ∀ w ∈ wsX30, w ∈ wsX3_ways := by decide +kernel
  have hw0 : (Cond.fieldLink RX3 149 "SwingCircuitsModel" "drawn" "I").before _ s = true := hts _ (by decide +kernel)
  have hw1 : (Cond.fieldLink RX3 57 "SwingCircuitsModel" "drawer" "[I").before _ s = true := hts _ (by decide +kernel)
  have hw2 : (Cond.fieldLink RX3 90 "SwingCircuitsModel" "num" "J").before _ s = true := hts _ (by decide +kernel)
  have hw3 : (Cond.fieldLink RX3 94 "SwingCircuitsModel" "den" "J").before _ s = true := hts _ (by decide +kernel)
  have hl := lv_entry ([.ref (adm 0), .int p1, .int p2, .int p3, .int p4]) (n := 8) (Nat.le_of_ble_eq_true rfl)
  rw [lg_entry_eq]
  generalize (lg_sl ([.ref (adm 0), .int p1, .int p2, .int p3, .int p4]) ++ List.replicate (8 - (lg_sl ([.ref (adm 0), .int p1, .int p2, .int p3, .int p4])).length) Slot.unset).toArray = ls at hl ⊢
  replace hl : lv_has ls 8 [(0, .ref (adm 0)), (1, .int p1), (2, .int p2), (3, .int p3), (4, .int p4)] := hl
  unfold f_X3_ways at hf
  refine lv_iconst (v := 0) hx hb dX3_ways_0 (by decide) ?_
  refine lv_istore (lv' := [(5, .int 0), (0, .ref (adm 0)), (1, .int p1), (2, .int p2), (3, .int p3), (4, .int p4)]) hx hb dX3_ways_1 hl (by decide) rfl (fun ls hl => ?_)
  refine lv_iconst (v := 0) hx hb dX3_ways_3 (by decide) ?_
  refine lv_istore (lv' := [(6, .int 0), (5, .int 0), (0, .ref (adm 0)), (1, .int p1), (2, .int p2), (3, .int p3), (4, .int p4)]) hx hb dX3_ways_4 hl (by decide) rfl (fun ls hl => ?_)
  have L6 : ∀ (n : Nat) (l5_6 : Int32) (l6_6 : Int32) (m24_6 : Int64) (m25_6 : Int64) (H : Heap) (locs : List Loc) (ls : Array Slot), f_X3_ways_L6 m0 m1 m18 m19 p1 p2 p3 p4 n l5_6 l6_6 m24_6 m25_6 = some o → va_P D vwCl (wMc cI cJ adm m0 m1 m2 m3 m4 m5 m6 m7 m8 m9 m10 m11 m12 m13 m14 m15 m16 m17 m18 m19 m20 m21 m22 m23 m24_6 m25_6 m26 m27) H → va_D A (wMc cI cJ adm m0 m1 m2 m3 m4 m5 m6 m7 m8 m9 m10 m11 m12 m13 m14 m15 m16 m17 m18 m19 m20 m21 m22 m23 m24_6 m25_6 m26 m27) → va_S A s.heap H locs → lv_has ls 8 [(0, .ref (adm 0)), (1, .int p1), (2, .int p2), (3, .int p3), (4, .int p4), (5, .int l5_6), (6, .int l6_6)] → W p l e (headSpec wsX3_ways rmX3_ways).room s m ([.ref (adm 0), .int p1, .int p2, .int p3, .int p4] : List Value).toArray below meth c H locs 0 0 (MQ below (QI D A o.1 (wMc cI cJ adm m0 m1 m2 m3 m4 m5 m6 m7 m8 m9 m10 m11 m12 m13 m14 m15 m16 m17 m18 m19 m20 m21 m22 m23 o.2.1 o.2.2 m26 m27)) ([.ref (adm 0), .int p1, .int p2, .int p3, .int p4] : List Value).toArray s 0 0 A) (F0 m 6 ls []) := by
    intro n
    induction n with
    | zero => intro l5_6 l6_6 m24_6 m25_6 H locs ls hf; cases hf
    | succ n ih6 =>
      intro l5_6 l6_6 m24_6 m25_6 H locs ls hf hP hD hS hl
      replace hf : f_X3_ways_B6 m0 m1 m18 m19 p1 p2 p3 p4 (f_X3_ways_L6 m0 m1 m18 m19 p1 p2 p3 p4 n) l5_6 l6_6 m24_6 m25_6 = some o := hf
      generalize f_X3_ways_L6 m0 m1 m18 m19 p1 p2 p3 p4 n = rec6 at ih6 hf
      unfold f_X3_ways_B6 at hf
      refine lv_iload hx hb dX3_ways_6 (lv_at hl 6 rfl) ?_
      refine lv_aload_n hx hb dX3_ways_8 rfl (lv_at hl 0 rfl) ?_
      refine va_get (D := D) (ci := 3) (v := .int m19) (C := RX3) (T := TX3) (N := 28) hx hb hts hinX3 hown hK.1 hP 0 rfl rfl 19 (by decide) hw0 (fun _ h9 => h9) rfl dX3_ways_9 ?_
      refine lv_icmp_ge (tgt := 108) hx hb dX3_ways_12 (by decide) (fun q1 => ?_) (fun q1 => ?_)
      · replace hf := ifT q1 hf
        refine lv_iload hx hb dX3_ways_108 (lv_at hl 4 rfl) ?_
        refine lv_iconst (v := (-1)) hx hb dX3_ways_110 (by decide) ?_
        refine lv_icmp_ne (tgt := 119) hx hb dX3_ways_111 (by decide) (fun q2 => ?_) (fun q2 => ?_)
        · replace hf := ifT q2 hf
          refine lv_iconst (v := (-1)) hx hb dX3_ways_119 (by decide) ?_
          obtain rfl := Option.some.inj hf
          exact retI hx hb hr hlocks hP hD hS dX3_ways_120
        · replace hf := ifN q2 hf
          refine lv_iload hx hb dX3_ways_114 (lv_at hl 5 rfl) ?_
          refine lv_goto (tgt := 120) hx hb dX3_ways_116 (by decide) ?_
          obtain rfl := Option.some.inj hf
          exact retI hx hb hr hlocks hP hD hS dX3_ways_120
      · replace hf := ifF q1 hf
        refine lv_iconst (v := 0) hx hb dX3_ways_15 (by decide) ?_
        refine lv_istore (lv' := [(7, .int 0), (0, .ref (adm 0)), (1, .int p1), (2, .int p2), (3, .int p3), (4, .int p4), (5, .int l5_6), (6, .int l6_6)]) hx hb dX3_ways_16 hl (by decide) rfl (fun ls hl => ?_)
        have L18 : ∀ (n : Nat) (l5_18 : Int32) (l7_18 : Int32) (m24_18 : Int64) (m25_18 : Int64) (H : Heap) (locs : List Loc) (ls : Array Slot), f_X3_ways_L18 m0 m1 m18 m19 p1 p2 p3 p4 l6_6 rec6 n l5_18 l7_18 m24_18 m25_18 = some o → va_P D vwCl (wMc cI cJ adm m0 m1 m2 m3 m4 m5 m6 m7 m8 m9 m10 m11 m12 m13 m14 m15 m16 m17 m18 m19 m20 m21 m22 m23 m24_18 m25_18 m26 m27) H → va_D A (wMc cI cJ adm m0 m1 m2 m3 m4 m5 m6 m7 m8 m9 m10 m11 m12 m13 m14 m15 m16 m17 m18 m19 m20 m21 m22 m23 m24_18 m25_18 m26 m27) → va_S A s.heap H locs → lv_has ls 8 [(0, .ref (adm 0)), (1, .int p1), (2, .int p2), (3, .int p3), (4, .int p4), (5, .int l5_18), (6, .int l6_6), (7, .int l7_18)] → W p l e (headSpec wsX3_ways rmX3_ways).room s m ([.ref (adm 0), .int p1, .int p2, .int p3, .int p4] : List Value).toArray below meth c H locs 0 0 (MQ below (QI D A o.1 (wMc cI cJ adm m0 m1 m2 m3 m4 m5 m6 m7 m8 m9 m10 m11 m12 m13 m14 m15 m16 m17 m18 m19 m20 m21 m22 m23 o.2.1 o.2.2 m26 m27)) ([.ref (adm 0), .int p1, .int p2, .int p3, .int p4] : List Value).toArray s 0 0 A) (F0 m 18 ls []) := by
          intro n
          induction n with
          | zero => intro l5_18 l7_18 m24_18 m25_18 H locs ls hf; cases hf
          | succ n ih18 =>
            intro l5_18 l7_18 m24_18 m25_18 H locs ls hf hP hD hS hl
            replace hf : f_X3_ways_B18 m0 m1 m18 m19 p1 p2 p3 p4 l6_6 rec6 (f_X3_ways_L18 m0 m1 m18 m19 p1 p2 p3 p4 l6_6 rec6 n) l5_18 l7_18 m24_18 m25_18 = some o := hf
            generalize f_X3_ways_L18 m0 m1 m18 m19 p1 p2 p3 p4 l6_6 rec6 n = rec18 at ih18 hf
            unfold f_X3_ways_B18 at hf
            refine lv_iload hx hb dX3_ways_18 (lv_at hl 7 rfl) ?_
            refine lv_aload_n hx hb dX3_ways_20 rfl (lv_at hl 0 rfl) ?_
            refine va_get (D := D) (ci := 3) (v := .int m19) (C := RX3) (T := TX3) (N := 28) hx hb hts hinX3 hown hK.1 hP 0 rfl rfl 19 (by decide) hw0 (fun _ h9 => h9) rfl dX3_ways_21 ?_
            refine lv_icmp_ge (tgt := 102) hx hb dX3_ways_24 (by decide) (fun q3 => ?_) (fun q3 => ?_)
            · replace hf := ifT q3 hf
              refine lv_iinc (v := l6_6 + 1) (lv' := [(6, .int (l6_6 + 1)), (0, .ref (adm 0)), (1, .int p1), (2, .int p2), (3, .int p3), (4, .int p4), (5, .int l5_18), (7, .int l7_18)]) hx hb dX3_ways_102 hl (k := 6) rfl (by rfl) (by decide) rfl (fun ls hl => ?_)
              refine lv_goto (tgt := 6) hx hb dX3_ways_105 (by decide) ?_
              exact ih6 l5_18 (l6_6 + 1) m24_18 m25_18 _ _ _ hf hP hD hS (lv_sub hl [1, 2, 3, 4, 5, 6, 0] rfl)
            · replace hf := ifF q3 hf
              refine lv_aload_n hx hb dX3_ways_27 rfl (lv_at hl 0 rfl) ?_
              refine lv_iload_n hx hb dX3_ways_28 rfl (lv_at hl 1 rfl) ?_
              refine lv_aload_n hx hb dX3_ways_29 rfl (lv_at hl 0 rfl) ?_
              refine va_get (D := D) (ci := 3) (v := .ref (adm 15)) (C := RX3) (T := TX3) (N := 28) hx hb hts hinX3 hown hK.1 hP 0 rfl rfl 18 (by decide) hw1 (fun _ h9 => h9) rfl dX3_ways_30 ?_
              refine lv_iload hx hb dX3_ways_33 (lv_at hl 6 rfl) ?_
              replace hf := gdE hf
              obtain ⟨h4, hf⟩ := hf
              refine va_iald hx hb hK.1 hP 15 0 rfl rfl (ib_in h4) dX3_ways_35 ?_
              refine lv_aload_n hx hb dX3_ways_36 rfl (lv_at hl 0 rfl) ?_
              refine va_get (D := D) (ci := 3) (v := .ref (adm 15)) (C := RX3) (T := TX3) (N := 28) hx hb hts hinX3 hown hK.1 hP 0 rfl rfl 18 (by decide) hw1 (fun _ h9 => h9) rfl dX3_ways_37 ?_
              refine lv_iload hx hb dX3_ways_40 (lv_at hl 7 rfl) ?_
              replace hf := gdE hf
              obtain ⟨h5, hf⟩ := hf
              refine va_iald hx hb hK.1 hP 15 0 rfl rfl (ib_in h5) dX3_ways_42 ?_
              replace hf := bdE hf
              obtain ⟨r6, hgr6, hf⟩ := hf
              refine xVw (va_runV (As := [.int p1, .int (m18 l6_6.toNatClampNeg), .int (m18 l7_18.toNatClampNeg)]) (rest := []) ⟨hx, hb, hml, hown, hts⟩ (c_X3_beat l D cI cJ cZ adm m0 m1 m2 m3 m4 m5 m6 m7 m8 m9 m10 m11 m12 m13 m14 m15 m16 m17 m18 m19 m20 m21 m22 m23 m24_18 m25_18 m26 m27 p1 (m18 l6_6.toNatClampNeg) (m18 l7_18.toNatClampNeg) r6 hgr6 _) (cwV 3 hts gX3_ways_X3_beat rfl rfl rfl (by decide +kernel) ⟨Nat.le_of_ble_eq_true rfl, Nat.le_of_ble_eq_true rfl⟩) ⟨PreW.blind, xRecv (q0 := 0) hK hP rfl rfl, (xPrew hK hP hD _)⟩ rfl rfl hl.1 rfl (lv_room (Nat.le_of_ble_eq_true rfl)) dX3_ways_43 ⟨Nat.le_of_ble_eq_true rfl, Nat.le_of_ble_eq_true rfl⟩) hD hS hA (fun H locs hP hD hS => ?_)
              replace hP : va_P D vwCl (wMc cI cJ adm m0 m1 m2 m3 m4 m5 m6 m7 m8 m9 m10 m11 m12 m13 m14 m15 m16 m17 m18 m19 m20 m21 m22 m23 r6.1 r6.2 m26 m27) H := hP
              replace hD : va_D A (wMc cI cJ adm m0 m1 m2 m3 m4 m5 m6 m7 m8 m9 m10 m11 m12 m13 m14 m15 m16 m17 m18 m19 m20 m21 m22 m23 r6.1 r6.2 m26 m27) := hD
              refine lv_aload_n hx hb dX3_ways_46 rfl (lv_at hl 0 rfl) ?_
              refine va_get (D := D) (ci := 3) (v := .long r6.1) (C := RX3) (T := TX3) (N := 28) hx hb hts hinX3 hown hK.1 hP 0 rfl rfl 24 (by decide) hw2 (fun _ h9 => h9) rfl dX3_ways_47 ?_
              refine lv_iload_n hx hb dX3_ways_50 rfl (lv_at hl 3 rfl) ?_
              refine lv_i2l hx hb dX3_ways_51 rfl ?_
              refine lv_lmul hx hb dX3_ways_52 ?_
              refine lv_aload_n hx hb dX3_ways_53 rfl (lv_at hl 0 rfl) ?_
              refine va_get (D := D) (ci := 3) (v := .long r6.2) (C := RX3) (T := TX3) (N := 28) hx hb hts hinX3 hown hK.1 hP 0 rfl rfl 25 (by decide) hw3 (fun _ h9 => h9) rfl dX3_ways_54 ?_
              refine lv_iload_n hx hb dX3_ways_57 rfl (lv_at hl 2 rfl) ?_
              refine lv_i2l hx hb dX3_ways_58 rfl ?_
              refine lv_lmul hx hb dX3_ways_59 ?_
              refine W.lcmp hx hb dX3_ways_60 ?_
              have J96 : ∀ (l5_96 : Int32) (H : Heap) (locs : List Loc) (ls : Array Slot), f_X3_ways_J96 l7_18 rec18 r6 l5_96 = some o → va_P D vwCl (wMc cI cJ adm m0 m1 m2 m3 m4 m5 m6 m7 m8 m9 m10 m11 m12 m13 m14 m15 m16 m17 m18 m19 m20 m21 m22 m23 r6.1 r6.2 m26 m27) H → va_D A (wMc cI cJ adm m0 m1 m2 m3 m4 m5 m6 m7 m8 m9 m10 m11 m12 m13 m14 m15 m16 m17 m18 m19 m20 m21 m22 m23 r6.1 r6.2 m26 m27) → va_S A s.heap H locs → lv_has ls 8 [(0, .ref (adm 0)), (1, .int p1), (2, .int p2), (3, .int p3), (4, .int p4), (5, .int l5_96), (6, .int l6_6), (7, .int l7_18)] → W p l e (headSpec wsX3_ways rmX3_ways).room s m ([.ref (adm 0), .int p1, .int p2, .int p3, .int p4] : List Value).toArray below meth c H locs 0 0 (MQ below (QI D A o.1 (wMc cI cJ adm m0 m1 m2 m3 m4 m5 m6 m7 m8 m9 m10 m11 m12 m13 m14 m15 m16 m17 m18 m19 m20 m21 m22 m23 o.2.1 o.2.2 m26 m27)) ([.ref (adm 0), .int p1, .int p2, .int p3, .int p4] : List Value).toArray s 0 0 A) (F0 m 96 ls []) := by
                intro l5_96 H locs ls hf hP hD hS hl
                unfold f_X3_ways_J96 at hf
                refine lv_iinc (v := l7_18 + 1) (lv' := [(7, .int (l7_18 + 1)), (0, .ref (adm 0)), (1, .int p1), (2, .int p2), (3, .int p3), (4, .int p4), (5, .int l5_96), (6, .int l6_6)]) hx hb dX3_ways_96 hl (k := 7) rfl (by rfl) (by decide) rfl (fun ls hl => ?_)
                refine lv_goto (tgt := 18) hx hb dX3_ways_99 (by decide) ?_
                exact ih18 l5_96 (l7_18 + 1) r6.1 r6.2 _ _ _ hf hP hD hS (lv_sub hl [1, 2, 3, 4, 5, 6, 7, 0] rfl)
              refine lv_if_eq (tgt := 67) hx hb dX3_ways_61 (by decide) (fun q7 => ?_) (fun q7 => ?_)
              · replace hf := ifT q7 hf
                refine lv_iload hx hb dX3_ways_67 (lv_at hl 5 rfl) ?_
                refine lv_iload hx hb dX3_ways_69 (lv_at hl 4 rfl) ?_
                refine lv_icmp_ne (tgt := 93) hx hb dX3_ways_71 (by decide) (fun q8 => ?_) (fun q8 => ?_)
                · replace hf := ifT q8 hf
                  refine lv_iinc (v := l5_18 + 1) (lv' := [(5, .int (l5_18 + 1)), (0, .ref (adm 0)), (1, .int p1), (2, .int p2), (3, .int p3), (4, .int p4), (6, .int l6_6), (7, .int l7_18)]) hx hb dX3_ways_93 hl (k := 5) rfl (by rfl) (by decide) rfl (fun ls hl => ?_)
                  exact J96 (l5_18 + 1) _ _ _ hf hP hD hS (lv_sub hl [1, 2, 3, 4, 5, 0, 6, 7] rfl)
                · replace hf := ifN q8 hf
                  refine lv_bipush (v := 100) hx hb dX3_ways_74 (by decide) ?_
                  refine lv_aload_n hx hb dX3_ways_76 rfl (lv_at hl 0 rfl) ?_
                  refine va_get (D := D) (ci := 3) (v := .ref (adm 15)) (C := RX3) (T := TX3) (N := 28) hx hb hts hinX3 hown hK.1 hP 0 rfl rfl 18 (by decide) hw1 (fun _ h9 => h9) rfl dX3_ways_77 ?_
                  refine lv_iload hx hb dX3_ways_80 (lv_at hl 6 rfl) ?_
                  refine va_iald hx hb hK.1 hP 15 0 rfl rfl (ib_in h4) dX3_ways_82 ?_
                  refine lv_imul hx hb dX3_ways_83 ?_
                  refine lv_aload_n hx hb dX3_ways_84 rfl (lv_at hl 0 rfl) ?_
                  refine va_get (D := D) (ci := 3) (v := .ref (adm 15)) (C := RX3) (T := TX3) (N := 28) hx hb hts hinX3 hown hK.1 hP 0 rfl rfl 18 (by decide) hw1 (fun _ h9 => h9) rfl dX3_ways_85 ?_
                  refine lv_iload hx hb dX3_ways_88 (lv_at hl 7 rfl) ?_
                  refine va_iald hx hb hK.1 hP 15 0 rfl rfl (ib_in h5) dX3_ways_90 ?_
                  refine lv_iadd hx hb dX3_ways_91 ?_
                  obtain rfl := Option.some.inj hf
                  exact retI hx hb hr hlocks hP hD hS dX3_ways_92
              · replace hf := ifF q7 hf
                refine lv_goto (tgt := 96) hx hb dX3_ways_64 (by decide) ?_
                exact J96 l5_18 _ _ _ hf hP hD hS (lv_sub hl [0, 1, 2, 3, 4, 5, 6, 7] rfl)
        exact L18 fuel l5_6 0 m24_6 m25_6 _ _ _ hf hP hD hS (lv_sub hl [1, 2, 3, 4, 5, 6, 7, 0] rfl)
  exact L6 fuel 0 0 m24 m25 _ _ _ hf hP hD hS (lv_sub hl [2, 3, 4, 5, 6, 1, 0] rfl)

def f_X3_isSo_J195 (m22 : Int32) (r2 : Al) (l2_42 : Int32) (l7_42 : Int32) (m7_42 : Al) (m8_42 : Al) (m10_42 : Ar) (m11_42 : Ar) (m12_42 : Al) (m13_42 : Al) (m24_42 : Int64) (m25_42 : Int64) (m26_42 : Int32) (m27_42 : Int32)  : Option (Bool × Al × Al × Al × Ar × Ar × Al × Al × Int32 × Int64 × Int64 × Int32 × Int32) :=
(f_X3_copy r2 m7_42).bind (fun r4 =>
if l7_42 = 0 then
some (false, r4, m8_42, r2, m10_42, m11_42, m12_42, m13_42, 1, m24_42, m25_42, m26_42, m27_42)
else
if l2_42 ≤ m22 then
some (false, r4, m8_42, r2, m10_42, m11_42, m12_42, m13_42, 1, m24_42, m25_42, m26_42, m27_42)
else
some (true, r4, m8_42, r2, m10_42, m11_42, m12_42, m13_42, 1, m24_42, m25_42, m26_42, m27_42))
def f_X3_isSo_J189 (l8_42 : Int32) (rec42 : (Int32 → Int64 → Int64 → Int32 → Int32 → Al → Al → Ar → Ar → Al → Al → Int64 → Int64 → Int32 → Int32 → Option (Bool × Al × Al × Al × Ar × Ar × Al × Al × Int32 × Int64 × Int64 × Int32 × Int32))) (r10 : (Bool × Al × Al × Ar × Ar × Al × Al × Int64 × Int64 × Int32 × Int32)) (l2_189 : Int32) (l3_189 : Int64) (l5_189 : Int64) (l7_189 : Int32) (m24_189 : Int64) (m25_189 : Int64) : Option (Bool × Al × Al × Al × Ar × Ar × Al × Al × Int32 × Int64 × Int64 × Int32 × Int32) :=
rec42 l2_189 l3_189 l5_189 l7_189 (l8_42 + 1) r10.2.1 r10.2.2.1 r10.2.2.2.1 r10.2.2.2.2.1 r10.2.2.2.2.2.1 r10.2.2.2.2.2.2.1 m24_189 m25_189 r10.2.2.2.2.2.2.2.2.2.1 r10.2.2.2.2.2.2.2.2.2.2
def f_X3_isSo_J169 (l2_42 : Int32) (l8_42 : Int32) (rec42 : (Int32 → Int64 → Int64 → Int32 → Int32 → Al → Al → Ar → Ar → Al → Al → Int64 → Int64 → Int32 → Int32 → Option (Bool × Al × Al × Al × Ar × Ar × Al × Al × Int32 × Int64 × Int64 × Int32 × Int32))) (r10 : (Bool × Al × Al × Ar × Ar × Al × Al × Int64 × Int64 × Int32 × Int32)) (l7_169 : Int32) (m24_169 : Int64) (m25_169 : Int64) : Option (Bool × Al × Al × Al × Ar × Ar × Al × Al × Int32 × Int64 × Int64 × Int32 × Int32) :=
gd (ib 20 31) (
bnd (r10.2.1 (20 : Int32).toNatClampNeg) (fun v15 =>
gd (ib 21 31) (
bnd (r10.2.1 (21 : Int32).toNatClampNeg) (fun v17 =>
f_X3_isSo_J189 l8_42 rec42 r10 (l2_42 + 1) v15 v17 l7_169 m24_169 m25_169))))
def f_X3_isSo_J167 (l2_42 : Int32) (l8_42 : Int32) (rec42 : (Int32 → Int64 → Int64 → Int32 → Int32 → Al → Al → Ar → Ar → Al → Al → Int64 → Int64 → Int32 → Int32 → Option (Bool × Al × Al × Al × Ar × Ar × Al × Al × Int32 × Int64 × Int64 × Int32 × Int32))) (r10 : (Bool × Al × Al × Ar × Ar × Al × Al × Int64 × Int64 × Int32 × Int32)) (r21 : (Int64 × Int64)) (k0_167 : Int32) : Option (Bool × Al × Al × Al × Ar × Ar × Al × Al × Int32 × Int64 × Int64 × Int32 × Int32) :=
f_X3_isSo_J169 l2_42 l8_42 rec42 r10 k0_167 r21.1 r21.2
def f_X3_isSo_J166 (l2_42 : Int32) (l8_42 : Int32) (rec42 : (Int32 → Int64 → Int64 → Int32 → Int32 → Al → Al → Ar → Ar → Al → Al → Int64 → Int64 → Int32 → Int32 → Option (Bool × Al × Al × Al × Ar × Ar × Al × Al × Int32 × Int64 × Int64 × Int32 × Int32))) (r10 : (Bool × Al × Al × Ar × Ar × Al × Al × Int64 × Int64 × Int32 × Int32)) (r21 : (Int64 × Int64))  : Option (Bool × Al × Al × Al × Ar × Ar × Al × Al × Int32 × Int64 × Int64 × Int32 × Int32) :=
f_X3_isSo_J167 l2_42 l8_42 rec42 r10 r21 0
def f_X3_isSo_B42 (m0 : Ar) (m1 : Ar) (m2 : Ar) (m3 : Ar) (m4 : Int32) (m5 : Ar) (m6 : Int32) (m20 : Al) (m21 : Al) (m22 : Int32) (p1 : Int32) (r2 : Al) (rec42 : Int32 → Int64 → Int64 → Int32 → Int32 → Al → Al → Ar → Ar → Al → Al → Int64 → Int64 → Int32 → Int32 → Option (Bool × Al × Al × Al × Ar × Ar × Al × Al × Int32 × Int64 × Int64 × Int32 × Int32)) (l2_42 : Int32) (l3_42 : Int64) (l5_42 : Int64) (l7_42 : Int32) (l8_42 : Int32) (m7_42 : Al) (m8_42 : Al) (m10_42 : Ar) (m11_42 : Ar) (m12_42 : Al) (m13_42 : Al) (m24_42 : Int64) (m25_42 : Int64) (m26_42 : Int32) (m27_42 : Int32) : Option (Bool × Al × Al × Al × Ar × Ar × Al × Al × Int32 × Int64 × Int64 × Int32 × Int32) :=
if (400 : Int32) ≤ l8_42 then
f_X3_isSo_J195 m22 r2 l2_42 l7_42 m7_42 m8_42 m10_42 m11_42 m12_42 m13_42 m24_42 m25_42 m26_42 m27_42
else
if l7_42 = 0 then
f_X3_isSo_J195 m22 r2 l2_42 l7_42 m7_42 m8_42 m10_42 m11_42 m12_42 m13_42 m24_42 m25_42 m26_42 m27_42
else
if m22 < l2_42 then
f_X3_isSo_J195 m22 r2 l2_42 l7_42 m7_42 m8_42 m10_42 m11_42 m12_42 m13_42 m24_42 m25_42 m26_42 m27_42
else
(f_X3_step m0 m1 m2 m3 m4 m5 m6 m7_42 m8_42 m10_42 m11_42 m12_42 m13_42 0 m24_42 m25_42 m26_42 m27_42).bind (fun r10 =>
if (b2i r10.1) = 0 then
f_X3_isSo_J189 l8_42 rec42 r10 l2_42 l3_42 l5_42 (b2i r10.1) r10.2.2.2.2.2.2.2.1 r10.2.2.2.2.2.2.2.2.1
else
if ¬ r10.2.2.2.2.2.2.2.2.2.1 = p1 then
f_X3_isSo_J189 l8_42 rec42 r10 l2_42 l3_42 l5_42 (b2i r10.1) r10.2.2.2.2.2.2.2.1 r10.2.2.2.2.2.2.2.2.1
else
if r10.2.2.2.2.2.2.2.2.2.2 = 0 then
if l2_42 ≤ 0 then
f_X3_isSo_J169 l2_42 l8_42 rec42 r10 (b2i r10.1) r10.2.2.2.2.2.2.2.1 r10.2.2.2.2.2.2.2.2.1
else
gd (ib 20 31) (
gd (ib 21 31) (
(f_X3_make (((r10.2.1 (20 : Int32).toNatClampNeg) * l5_42) - (l3_42 * (r10.2.1 (21 : Int32).toNatClampNeg))) ((r10.2.1 (21 : Int32).toNatClampNeg) * l5_42)).bind (fun r21 =>
gd (ib (l2_42 - 1) 8) (
if ¬ (lg_cmp r21.1 (m20 (l2_42 - 1).toNatClampNeg)) = 0 then
f_X3_isSo_J166 l2_42 l8_42 rec42 r10 r21
else
if ¬ (lg_cmp r21.2 (m21 (l2_42 - 1).toNatClampNeg)) = 0 then
f_X3_isSo_J166 l2_42 l8_42 rec42 r10 r21
else
f_X3_isSo_J167 l2_42 l8_42 rec42 r10 r21 1))))
else
f_X3_isSo_J189 l8_42 rec42 r10 l2_42 l3_42 l5_42 (b2i r10.1) r10.2.2.2.2.2.2.2.1 r10.2.2.2.2.2.2.2.2.1)
def f_X3_isSo_L42 (m0 : Ar) (m1 : Ar) (m2 : Ar) (m3 : Ar) (m4 : Int32) (m5 : Ar) (m6 : Int32) (m20 : Al) (m21 : Al) (m22 : Int32) (p1 : Int32) (r2 : Al) : Nat → Int32 → Int64 → Int64 → Int32 → Int32 → Al → Al → Ar → Ar → Al → Al → Int64 → Int64 → Int32 → Int32 → Option (Bool × Al × Al × Al × Ar × Ar × Al × Al × Int32 × Int64 × Int64 × Int32 × Int32)
  | 0 => fun _ _ _ _ _ _ _ _ _ _ _ _ _ _ _ => none
  | n + 1 => f_X3_isSo_B42 m0 m1 m2 m3 m4 m5 m6 m20 m21 m22 p1 r2 (f_X3_isSo_L42 m0 m1 m2 m3 m4 m5 m6 m20 m21 m22 p1 r2 n)
def f_X3_isSo (m0 : Ar) (m1 : Ar) (m2 : Ar) (m3 : Ar) (m4 : Int32) (m5 : Ar) (m6 : Int32) (m7 : Al) (m8 : Al) (m9 : Al) (m10 : Ar) (m11 : Ar) (m12 : Al) (m13 : Al) (m14 : Int32) (m20 : Al) (m21 : Al) (m22 : Int32) (m24 : Int64) (m25 : Int64) (m26 : Int32) (m27 : Int32) (p1 : Int32) : Option (Bool × Al × Al × Al × Ar × Ar × Al × Al × Int32 × Int64 × Int64 × Int32 × Int32) :=
if ¬ m22 = 0 then
(f_X3_copy m7 m9).bind (fun r2 =>
(f_X3_resetAll m0 m7).bind (fun r3 =>
f_X3_isSo_L42 m0 m1 m2 m3 m4 m5 m6 m20 m21 m22 p1 r2 fuel 0 0 1 1 0 r3 m8 m10 m11 m12 m13 m24 m25 m26 m27))
else
some (true, m7, m8, m9, m10, m11, m12, m13, m14, m24, m25, m26, m27)
abbrev rmX3_isSo : Room := { frames := 124, cells := 0, slots := 0, locals := 2867 }
set_option maxHeartbeats 40000000 in
set_option maxRecDepth 100000 in
theorem c_X3_isSo (l : Launch) (D : va_G) (cI cJ cZ : ClassId) (adm : Nat → Nat) (m0 : Ar) (m1 : Ar) (m2 : Ar) (m3 : Ar) (m4 : Int32) (m5 : Ar) (m6 : Int32) (m7 : Al) (m8 : Al) (m9 : Al) (m10 : Ar) (m11 : Ar) (m12 : Al) (m13 : Al) (m14 : Int32) (m15 : Al) (m16 : Int32) (m17 : Al) (m18 : Ar) (m19 : Int32) (m20 : Al) (m21 : Al) (m22 : Int32) (m23 : Int32) (m24 : Int64) (m25 : Int64) (m26 : Int32) (m27 : Int32) (p1 : Int32) (o : (Bool × Al × Al × Al × Ar × Ar × Al × Al × Int32 × Int64 × Int64 × Int32 × Int32)) (hf : f_X3_isSo m0 m1 m2 m3 m4 m5 m6 m7 m8 m9 m10 m11 m12 m13 m14 m20 m21 m22 m24 m25 m26 m27 p1 = some o) : CtI l yX3_isSo wsX3_isSo rmX3_isSo D cI cJ cZ [.ref (adm 0), .int p1] (wMc cI cJ adm m0 m1 m2 m3 m4 m5 m6 m7 m8 m9 m10 m11 m12 m13 m14 m15 m16 m17 m18 m19 m20 m21 m22 m23 m24 m25 m26 m27) (wMc cI cJ adm m0 m1 m2 m3 m4 m5 m6 o.2.1 o.2.2.1 o.2.2.2.1 o.2.2.2.2.1 o.2.2.2.2.2.1 o.2.2.2.2.2.2.1 o.2.2.2.2.2.2.2.1 o.2.2.2.2.2.2.2.2.1 m15 m16 m17 m18 m19 m20 m21 m22 m23 o.2.2.2.2.2.2.2.2.2.1 o.2.2.2.2.2.2.2.2.2.2.1 o.2.2.2.2.2.2.2.2.2.2.2.1 o.2.2.2.2.2.2.2.2.2.2.2.2) (b2i o.1) := by
  intro sz
  refine Met.ofW (cc := cX3_isSo) (maxL := 9) (ret := (some .boolean)) (by decide) rfl ?_
  intro p e s m args below meth c s₁ B hml hv
  obtain ⟨rfl, hsz, hP, hK, hD0⟩ := hv
  have hx := B.exec
  have hb := B.bytes
  have hr := B.returns
  have hts := atoms_spec (ws := wsX3_isSo) B.pre
  have hown : s.vm.findClass RX3 = some m.cls := findClass_of_methodNamed B.named
  have hlocks := B.notSynchronized
  subst hsz
  have hD := hD0.self (sz := s.heap.size)
  clear hD0
  generalize hAe : va_A (wMc cI cJ adm m0 m1 m2 m3 m4 m5 m6 m7 m8 m9 m10 m11 m12 m13 m14 m15 m16 m17 m18 m19 m20 m21 m22 m23 m24 m25 m26 m27) s.heap.size = A at hD ⊢
  have hA : ∀ q : Nat, s.heap.size ≤ q → A q := fun q h => by rw [← hAe]; exact Or.inr h
  have hS : va_S A s.heap s.heap [] := va_S.rf
  have hinX3 : ∀ w ∈ wsX30, w ∈ wsX3_isSo := by decide +kernel
  have hw0 : (Cond.fieldLink RX3 152 "SwingCircuitsModel" "measured" "I").before _ s = true := hts _ (by decide +kernel)
  have hw1 : (Cond.fieldLink RX3 25 "SwingCircuitsModel" "now" "[J").before _ s = true := hts _ (by decide +kernel)
  have hw2 : (Cond.fieldLink RX3 32 "SwingCircuitsModel" "aside" "[J").before _ s = true := hts _ (by decide +kernel)
  have hw3 : (Cond.fieldLink RX3 47 "SwingCircuitsModel" "isLogged" "Z").before _ s = true := hts _ (by decide +kernel)
  have hw4 : (Cond.fieldLink RX3 125 "SwingCircuitsModel" "nextCell" "I").before _ s = true := hts _ (by decide +kernel)
  have hw5 : (Cond.fieldLink RX3 128 "SwingCircuitsModel" "nextAt" "I").before _ s = true := hts _ (by decide +kernel)
  have hw6 : (Cond.fieldLink RX3 90 "SwingCircuitsModel" "num" "J").before _ s = true := hts _ (by decide +kernel)
  have hw7 : (Cond.fieldLink RX3 60 "SwingCircuitsModel" "measuredNum" "[J").before _ s = true := hts _ (by decide +kernel)
  have hw8 : (Cond.fieldLink RX3 94 "SwingCircuitsModel" "den" "J").before _ s = true := hts _ (by decide +kernel)
  have hw9 : (Cond.fieldLink RX3 63 "SwingCircuitsModel" "measuredDen" "[J").before _ s = true := hts _ (by decide +kernel)
  have hl := lv_entry ([.ref (adm 0), .int p1]) (n := 9) (Nat.le_of_ble_eq_true rfl)
  rw [lg_entry_eq]
  generalize (lg_sl ([.ref (adm 0), .int p1]) ++ List.replicate (9 - (lg_sl ([.ref (adm 0), .int p1])).length) Slot.unset).toArray = ls at hl ⊢
  replace hl : lv_has ls 9 [(0, .ref (adm 0)), (1, .int p1)] := hl
  unfold f_X3_isSo at hf
  refine lv_aload_n hx hb dX3_isSo_0 rfl (lv_at hl 0 rfl) ?_
  refine va_get (D := D) (ci := 3) (v := .int m22) (C := RX3) (T := TX3) (N := 28) hx hb hts hinX3 hown hK.1 hP 0 rfl rfl 22 (by decide) hw0 (fun _ h9 => h9) rfl dX3_isSo_1 ?_
  refine lv_if_ne (tgt := 9) hx hb dX3_isSo_4 (by decide) (fun q1 => ?_) (fun q1 => ?_)
  · replace hf := ifT q1 hf
    refine lv_aload_n hx hb dX3_isSo_9 rfl (lv_at hl 0 rfl) ?_
    refine va_get (D := D) (ci := 3) (v := .ref (adm 6)) (C := RX3) (T := TX3) (N := 28) hx hb hts hinX3 hown hK.1 hP 0 rfl rfl 7 (by decide) hw1 (fun _ h9 => h9) rfl dX3_isSo_10 ?_
    refine lv_aload_n hx hb dX3_isSo_13 rfl (lv_at hl 0 rfl) ?_
    refine va_get (D := D) (ci := 3) (v := .ref (adm 8)) (C := RX3) (T := TX3) (N := 28) hx hb hts hinX3 hown hK.1 hP 0 rfl rfl 9 (by decide) hw2 (fun _ h9 => h9) rfl dX3_isSo_14 ?_
    replace hf := bdE hf
    obtain ⟨r2, hgr2, hf⟩ := hf
    refine xV (w2 := (wMc cI cJ adm m0 m1 m2 m3 m4 m5 m6 m7 m8 r2 m10 m11 m12 m13 m14 m15 m16 m17 m18 m19 m20 m21 m22 m23 m24 m25 m26 m27)) (wr := ([((adm 0), .inr (3, [.ref (adm 1), .ref (adm 2), .ref (adm 3), .ref (adm 4), .int m4, .ref (adm 5), .int m6, .ref (adm 6), .ref (adm 7), .ref (adm 8), .ref (adm 9), .ref (adm 10), .ref (adm 11), .ref (adm 12), .int m14, .ref (adm 13), .int m16, .ref (adm 14), .ref (adm 15), .int m19, .ref (adm 16), .ref (adm 17), .int m22, .int m23, .long m24, .long m25, .int m26, .int m27])), ((adm 1), .inl (cI, 4, .inl m0)), ((adm 2), .inl (cI, 4, .inl m1)), ((adm 3), .inl (cI, 4, .inl m2)), ((adm 4), .inl (cI, 4, .inl m3)), ((adm 5), .inl (cI, 48, .inl m5)), ((adm 7), .inl (cJ, 31, .inr (.inl m8))), ((adm 9), .inl (cI, 500, .inl m10)), ((adm 10), .inl (cI, 500, .inl m11)), ((adm 11), .inl (cJ, 500, .inr (.inl m12))), ((adm 12), .inl (cJ, 500, .inr (.inl m13))), ((adm 13), .inl (cJ, 9331, .inr (.inl m15))), ((adm 14), .inl (cJ, 8, .inr (.inl m17))), ((adm 15), .inl (cI, 10, .inl m18)), ((adm 16), .inl (cJ, 8, .inr (.inl m20))), ((adm 17), .inl (cJ, 8, .inr (.inl m21)))])) (va_runS (As := [.ref (adm 6), .ref (adm 8)]) (rest := []) ⟨hx, hb, hml, hown, hts⟩ (c_X3_copy l D cI cJ cZ ((adm 6)) ((adm 8)) m7 m9 r2 hgr2 _) (va_cwS 2 hts gX3_isSo_X3_copy rfl rfl rfl (by decide +kernel) ⟨Nat.le_of_ble_eq_true rfl, Nat.le_of_ble_eq_true rfl⟩) ⟨PreW.blind, (xPre hK hP hD [6, 8] rfl (by decide) _)⟩ rfl rfl hl.1 rfl (lv_room (Nat.le_of_ble_eq_true rfl)) dX3_isSo_17 ⟨Nat.le_of_ble_eq_true rfl, Nat.le_of_ble_eq_true rfl⟩) hP hD hS hA [6, 8] [0, 1, 2, 3, 4, 5, 7, 9, 10, 11, 12, 13, 14, 15, 16, 17] [0, 1, 2, 3, 4, 5, 16, 6, 17, 7, 8, 9, 10, 11, 12, 13, 14, 15] rfl rfl (by decide) (by decide) rfl (by decide) (fun H locs hP hD hS => ?_)
    refine lv_aload_n hx hb dX3_isSo_20 rfl (lv_at hl 0 rfl) ?_
    refine lv_iconst (v := 0) hx hb dX3_isSo_21 (by decide) ?_
    refine va_put (D := D) (ci := 3) (v := .int 0) (ty := .boolean) (C := RX3) (T := TX3) (N := 28) hx hb hts hinX3 tyX3 tyX3_ok nmX3 hown hK.1 hP hD hS 0 rfl rfl 14 (by decide) hw3 (fun _ h9 => h9) rfl (by decide +kernel) rfl rfl (Nat.le_of_ble_eq_true rfl) dX3_isSo_22 (fun H locs hP hD hS => ?_)
    replace hP : va_P D vwCl (wMc cI cJ adm m0 m1 m2 m3 m4 m5 m6 m7 m8 r2 m10 m11 m12 m13 0 m15 m16 m17 m18 m19 m20 m21 m22 m23 m24 m25 m26 m27) H := hP
    replace hD : va_D A (wMc cI cJ adm m0 m1 m2 m3 m4 m5 m6 m7 m8 r2 m10 m11 m12 m13 0 m15 m16 m17 m18 m19 m20 m21 m22 m23 m24 m25 m26 m27) := hD
    refine lv_aload_n hx hb dX3_isSo_25 rfl (lv_at hl 0 rfl) ?_
    replace hf := bdE hf
    obtain ⟨r3, hgr3, hf⟩ := hf
    refine xVw (va_runV (As := []) (rest := []) ⟨hx, hb, hml, hown, hts⟩ (c_X3_resetAll l D cI cJ cZ adm m0 m1 m2 m3 m4 m5 m6 m7 m8 r2 m10 m11 m12 m13 0 m15 m16 m17 m18 m19 m20 m21 m22 m23 m24 m25 m26 m27 r3 hgr3 _) (cwV 0 hts gX3_isSo_X3_resetAll rfl rfl rfl (by decide +kernel) ⟨Nat.le_of_ble_eq_true rfl, Nat.le_of_ble_eq_true rfl⟩) ⟨PreW.blind, xRecv (q0 := 0) hK hP rfl rfl, (xPrew hK hP hD _)⟩ rfl rfl hl.1 rfl (lv_room (Nat.le_of_ble_eq_true rfl)) dX3_isSo_26 ⟨Nat.le_of_ble_eq_true rfl, Nat.le_of_ble_eq_true rfl⟩) hD hS hA (fun H locs hP hD hS => ?_)
    replace hP : va_P D vwCl (wMc cI cJ adm m0 m1 m2 m3 m4 m5 m6 r3 m8 r2 m10 m11 m12 m13 0 m15 m16 m17 m18 m19 m20 m21 m22 m23 m24 m25 m26 m27) H := hP
    replace hD : va_D A (wMc cI cJ adm m0 m1 m2 m3 m4 m5 m6 r3 m8 r2 m10 m11 m12 m13 0 m15 m16 m17 m18 m19 m20 m21 m22 m23 m24 m25 m26 m27) := hD
    refine lv_iconst (v := 0) hx hb dX3_isSo_29 (by decide) ?_
    refine lv_istore_n (lv' := [(2, .int 0), (0, .ref (adm 0)), (1, .int p1)]) hx hb dX3_isSo_30 rfl hl (by decide) rfl (fun ls hl => ?_)
    refine lv_lconst (v := 0) hx hb dX3_isSo_31 (by decide) ?_
    refine lv_lstore_n (lv' := [(3, .long 0), (2, .int 0), (0, .ref (adm 0)), (1, .int p1)]) hx hb dX3_isSo_32 rfl hl (by decide) rfl (fun ls hl => ?_)
    refine lv_lconst (v := 1) hx hb dX3_isSo_33 (by decide) ?_
    refine lv_lstore (lv' := [(5, .long 1), (3, .long 0), (2, .int 0), (0, .ref (adm 0)), (1, .int p1)]) hx hb dX3_isSo_34 hl (by decide) rfl (fun ls hl => ?_)
    refine lv_iconst (v := 1) hx hb dX3_isSo_36 (by decide) ?_
    refine lv_istore (lv' := [(7, .int 1), (5, .long 1), (3, .long 0), (2, .int 0), (0, .ref (adm 0)), (1, .int p1)]) hx hb dX3_isSo_37 hl (by decide) rfl (fun ls hl => ?_)
    refine lv_iconst (v := 0) hx hb dX3_isSo_39 (by decide) ?_
    refine lv_istore (lv' := [(8, .int 0), (7, .int 1), (5, .long 1), (3, .long 0), (2, .int 0), (0, .ref (adm 0)), (1, .int p1)]) hx hb dX3_isSo_40 hl (by decide) rfl (fun ls hl => ?_)
    have L42 : ∀ (n : Nat) (l2_42 : Int32) (l3_42 : Int64) (l5_42 : Int64) (l7_42 : Int32) (l8_42 : Int32) (m7_42 : Al) (m8_42 : Al) (m10_42 : Ar) (m11_42 : Ar) (m12_42 : Al) (m13_42 : Al) (m24_42 : Int64) (m25_42 : Int64) (m26_42 : Int32) (m27_42 : Int32) (H : Heap) (locs : List Loc) (ls : Array Slot), f_X3_isSo_L42 m0 m1 m2 m3 m4 m5 m6 m20 m21 m22 p1 r2 n l2_42 l3_42 l5_42 l7_42 l8_42 m7_42 m8_42 m10_42 m11_42 m12_42 m13_42 m24_42 m25_42 m26_42 m27_42 = some o → va_P D vwCl (wMc cI cJ adm m0 m1 m2 m3 m4 m5 m6 m7_42 m8_42 r2 m10_42 m11_42 m12_42 m13_42 0 m15 m16 m17 m18 m19 m20 m21 m22 m23 m24_42 m25_42 m26_42 m27_42) H → va_D A (wMc cI cJ adm m0 m1 m2 m3 m4 m5 m6 m7_42 m8_42 r2 m10_42 m11_42 m12_42 m13_42 0 m15 m16 m17 m18 m19 m20 m21 m22 m23 m24_42 m25_42 m26_42 m27_42) → va_S A s.heap H locs → lv_has ls 9 [(0, .ref (adm 0)), (1, .int p1), (2, .int l2_42), (3, .long l3_42), (5, .long l5_42), (7, .int l7_42), (8, .int l8_42)] → W p l e (headSpec wsX3_isSo rmX3_isSo).room s m ([.ref (adm 0), .int p1] : List Value).toArray below meth c H locs 0 0 (MQ below (QI D A (b2i o.1) (wMc cI cJ adm m0 m1 m2 m3 m4 m5 m6 o.2.1 o.2.2.1 o.2.2.2.1 o.2.2.2.2.1 o.2.2.2.2.2.1 o.2.2.2.2.2.2.1 o.2.2.2.2.2.2.2.1 o.2.2.2.2.2.2.2.2.1 m15 m16 m17 m18 m19 m20 m21 m22 m23 o.2.2.2.2.2.2.2.2.2.1 o.2.2.2.2.2.2.2.2.2.2.1 o.2.2.2.2.2.2.2.2.2.2.2.1 o.2.2.2.2.2.2.2.2.2.2.2.2)) ([.ref (adm 0), .int p1] : List Value).toArray s 0 0 A) (F0 m 42 ls []) := by
      intro n
      induction n with
      | zero => intro l2_42 l3_42 l5_42 l7_42 l8_42 m7_42 m8_42 m10_42 m11_42 m12_42 m13_42 m24_42 m25_42 m26_42 m27_42 H locs ls hf; cases hf
      | succ n ih42 =>
        intro l2_42 l3_42 l5_42 l7_42 l8_42 m7_42 m8_42 m10_42 m11_42 m12_42 m13_42 m24_42 m25_42 m26_42 m27_42 H locs ls hf hP hD hS hl
        replace hf : f_X3_isSo_B42 m0 m1 m2 m3 m4 m5 m6 m20 m21 m22 p1 r2 (f_X3_isSo_L42 m0 m1 m2 m3 m4 m5 m6 m20 m21 m22 p1 r2 n) l2_42 l3_42 l5_42 l7_42 l8_42 m7_42 m8_42 m10_42 m11_42 m12_42 m13_42 m24_42 m25_42 m26_42 m27_42 = some o := hf
        generalize f_X3_isSo_L42 m0 m1 m2 m3 m4 m5 m6 m20 m21 m22 p1 r2 n = rec42 at ih42 hf
        unfold f_X3_isSo_B42 at hf
        refine lv_iload hx hb dX3_isSo_42 (lv_at hl 6 rfl) ?_
        refine lv_sipush (v := 400) hx hb dX3_isSo_44 (by decide) ?_
        have J195 : ∀  (H : Heap) (locs : List Loc) (ls : Array Slot), f_X3_isSo_J195 m22 r2 l2_42 l7_42 m7_42 m8_42 m10_42 m11_42 m12_42 m13_42 m24_42 m25_42 m26_42 m27_42  = some o → va_P D vwCl (wMc cI cJ adm m0 m1 m2 m3 m4 m5 m6 m7_42 m8_42 r2 m10_42 m11_42 m12_42 m13_42 0 m15 m16 m17 m18 m19 m20 m21 m22 m23 m24_42 m25_42 m26_42 m27_42) H → va_D A (wMc cI cJ adm m0 m1 m2 m3 m4 m5 m6 m7_42 m8_42 r2 m10_42 m11_42 m12_42 m13_42 0 m15 m16 m17 m18 m19 m20 m21 m22 m23 m24_42 m25_42 m26_42 m27_42) → va_S A s.heap H locs → lv_has ls 9 [(0, .ref (adm 0)), (2, .int l2_42), (7, .int l7_42)] → W p l e (headSpec wsX3_isSo rmX3_isSo).room s m ([.ref (adm 0), .int p1] : List Value).toArray below meth c H locs 0 0 (MQ below (QI D A (b2i o.1) (wMc cI cJ adm m0 m1 m2 m3 m4 m5 m6 o.2.1 o.2.2.1 o.2.2.2.1 o.2.2.2.2.1 o.2.2.2.2.2.1 o.2.2.2.2.2.2.1 o.2.2.2.2.2.2.2.1 o.2.2.2.2.2.2.2.2.1 m15 m16 m17 m18 m19 m20 m21 m22 m23 o.2.2.2.2.2.2.2.2.2.1 o.2.2.2.2.2.2.2.2.2.2.1 o.2.2.2.2.2.2.2.2.2.2.2.1 o.2.2.2.2.2.2.2.2.2.2.2.2)) ([.ref (adm 0), .int p1] : List Value).toArray s 0 0 A) (F0 m 195 ls []) := by
          intro  H locs ls hf hP hD hS hl
          unfold f_X3_isSo_J195 at hf
          refine lv_aload_n hx hb dX3_isSo_195 rfl (lv_at hl 0 rfl) ?_
          refine lv_iconst (v := 1) hx hb dX3_isSo_196 (by decide) ?_
          refine va_put (D := D) (ci := 3) (v := .int 1) (ty := .boolean) (C := RX3) (T := TX3) (N := 28) hx hb hts hinX3 tyX3 tyX3_ok nmX3 hown hK.1 hP hD hS 0 rfl rfl 14 (by decide) hw3 (fun _ h9 => h9) rfl (by decide +kernel) rfl rfl (Nat.le_of_ble_eq_true rfl) dX3_isSo_197 (fun H locs hP hD hS => ?_)
          replace hP : va_P D vwCl (wMc cI cJ adm m0 m1 m2 m3 m4 m5 m6 m7_42 m8_42 r2 m10_42 m11_42 m12_42 m13_42 1 m15 m16 m17 m18 m19 m20 m21 m22 m23 m24_42 m25_42 m26_42 m27_42) H := hP
          replace hD : va_D A (wMc cI cJ adm m0 m1 m2 m3 m4 m5 m6 m7_42 m8_42 r2 m10_42 m11_42 m12_42 m13_42 1 m15 m16 m17 m18 m19 m20 m21 m22 m23 m24_42 m25_42 m26_42 m27_42) := hD
          refine lv_aload_n hx hb dX3_isSo_200 rfl (lv_at hl 0 rfl) ?_
          refine va_get (D := D) (ci := 3) (v := .ref (adm 8)) (C := RX3) (T := TX3) (N := 28) hx hb hts hinX3 hown hK.1 hP 0 rfl rfl 9 (by decide) hw2 (fun _ h9 => h9) rfl dX3_isSo_201 ?_
          refine lv_aload_n hx hb dX3_isSo_204 rfl (lv_at hl 0 rfl) ?_
          refine va_get (D := D) (ci := 3) (v := .ref (adm 6)) (C := RX3) (T := TX3) (N := 28) hx hb hts hinX3 hown hK.1 hP 0 rfl rfl 7 (by decide) hw1 (fun _ h9 => h9) rfl dX3_isSo_205 ?_
          replace hf := bdE hf
          obtain ⟨r4, hgr4, hf⟩ := hf
          refine xV (w2 := (wMc cI cJ adm m0 m1 m2 m3 m4 m5 m6 r4 m8_42 r2 m10_42 m11_42 m12_42 m13_42 1 m15 m16 m17 m18 m19 m20 m21 m22 m23 m24_42 m25_42 m26_42 m27_42)) (wr := ([((adm 0), .inr (3, [.ref (adm 1), .ref (adm 2), .ref (adm 3), .ref (adm 4), .int m4, .ref (adm 5), .int m6, .ref (adm 6), .ref (adm 7), .ref (adm 8), .ref (adm 9), .ref (adm 10), .ref (adm 11), .ref (adm 12), .int 1, .ref (adm 13), .int m16, .ref (adm 14), .ref (adm 15), .int m19, .ref (adm 16), .ref (adm 17), .int m22, .int m23, .long m24_42, .long m25_42, .int m26_42, .int m27_42])), ((adm 1), .inl (cI, 4, .inl m0)), ((adm 2), .inl (cI, 4, .inl m1)), ((adm 3), .inl (cI, 4, .inl m2)), ((adm 4), .inl (cI, 4, .inl m3)), ((adm 5), .inl (cI, 48, .inl m5)), ((adm 7), .inl (cJ, 31, .inr (.inl m8_42))), ((adm 9), .inl (cI, 500, .inl m10_42)), ((adm 10), .inl (cI, 500, .inl m11_42)), ((adm 11), .inl (cJ, 500, .inr (.inl m12_42))), ((adm 12), .inl (cJ, 500, .inr (.inl m13_42))), ((adm 13), .inl (cJ, 9331, .inr (.inl m15))), ((adm 14), .inl (cJ, 8, .inr (.inl m17))), ((adm 15), .inl (cI, 10, .inl m18)), ((adm 16), .inl (cJ, 8, .inr (.inl m20))), ((adm 17), .inl (cJ, 8, .inr (.inl m21)))])) (va_runS (As := [.ref (adm 8), .ref (adm 6)]) (rest := []) ⟨hx, hb, hml, hown, hts⟩ (c_X3_copy l D cI cJ cZ ((adm 8)) ((adm 6)) r2 m7_42 r4 hgr4 _) (va_cwS 2 hts gX3_isSo_X3_copy rfl rfl rfl (by decide +kernel) ⟨Nat.le_of_ble_eq_true rfl, Nat.le_of_ble_eq_true rfl⟩) ⟨PreW.blind, (xPre hK hP hD [8, 6] rfl (by decide) _)⟩ rfl rfl hl.1 rfl (lv_room (Nat.le_of_ble_eq_true rfl)) dX3_isSo_208 ⟨Nat.le_of_ble_eq_true rfl, Nat.le_of_ble_eq_true rfl⟩) hP hD hS hA [8, 6] [0, 1, 2, 3, 4, 5, 7, 9, 10, 11, 12, 13, 14, 15, 16, 17] [0, 1, 2, 3, 4, 5, 17, 6, 16, 7, 8, 9, 10, 11, 12, 13, 14, 15] rfl rfl (by decide) (by decide) rfl (by decide) (fun H locs hP hD hS => ?_)
          refine lv_iload hx hb dX3_isSo_211 (lv_at hl 2 rfl) ?_
          refine lv_if_eq (tgt := 228) hx hb dX3_isSo_213 (by decide) (fun q5 => ?_) (fun q5 => ?_)
          · replace hf := ifT q5 hf
            refine lv_iconst (v := 0) hx hb dX3_isSo_228 (by decide) ?_
            obtain rfl := Option.some.inj hf
            exact retZ false rfl hx hb hr hlocks hP hD hS dX3_isSo_229
          · replace hf := ifF q5 hf
            refine lv_iload_n hx hb dX3_isSo_216 rfl (lv_at hl 1 rfl) ?_
            refine lv_aload_n hx hb dX3_isSo_217 rfl (lv_at hl 0 rfl) ?_
            refine va_get (D := D) (ci := 3) (v := .int m22) (C := RX3) (T := TX3) (N := 28) hx hb hts hinX3 hown hK.1 hP 0 rfl rfl 22 (by decide) hw0 (fun _ h9 => h9) rfl dX3_isSo_218 ?_
            refine lv_icmp_le (tgt := 228) hx hb dX3_isSo_221 (by decide) (fun q6 => ?_) (fun q6 => ?_)
            · replace hf := ifT q6 hf
              refine lv_iconst (v := 0) hx hb dX3_isSo_228 (by decide) ?_
              obtain rfl := Option.some.inj hf
              exact retZ false rfl hx hb hr hlocks hP hD hS dX3_isSo_229
            · replace hf := ifF q6 hf
              refine lv_iconst (v := 1) hx hb dX3_isSo_224 (by decide) ?_
              refine lv_goto (tgt := 229) hx hb dX3_isSo_225 (by decide) ?_
              obtain rfl := Option.some.inj hf
              exact retZ true rfl hx hb hr hlocks hP hD hS dX3_isSo_229
        refine lv_icmp_ge (tgt := 195) hx hb dX3_isSo_47 (by decide) (fun q7 => ?_) (fun q7 => ?_)
        · replace hf := ifT q7 hf
          exact J195  _ _ _ hf hP hD hS (lv_sub hl [0, 2, 5] rfl)
        · replace hf := ifF q7 hf
          refine lv_iload hx hb dX3_isSo_50 (lv_at hl 5 rfl) ?_
          refine lv_if_eq (tgt := 195) hx hb dX3_isSo_52 (by decide) (fun q8 => ?_) (fun q8 => ?_)
          · replace hf := ifT q8 hf
            exact J195  _ _ _ hf hP hD hS (lv_sub hl [0, 2, 5] rfl)
          · replace hf := ifF q8 hf
            refine lv_iload_n hx hb dX3_isSo_55 rfl (lv_at hl 2 rfl) ?_
            refine lv_aload_n hx hb dX3_isSo_56 rfl (lv_at hl 0 rfl) ?_
            refine va_get (D := D) (ci := 3) (v := .int m22) (C := RX3) (T := TX3) (N := 28) hx hb hts hinX3 hown hK.1 hP 0 rfl rfl 22 (by decide) hw0 (fun _ h9 => h9) rfl dX3_isSo_57 ?_
            refine lv_icmp_gt (tgt := 195) hx hb dX3_isSo_60 (by decide) (fun q9 => ?_) (fun q9 => ?_)
            · replace hf := ifT q9 hf
              exact J195  _ _ _ hf hP hD hS (lv_sub hl [0, 2, 5] rfl)
            · replace hf := ifF q9 hf
              refine lv_aload_n hx hb dX3_isSo_63 rfl (lv_at hl 0 rfl) ?_
              replace hf := bdE hf
              obtain ⟨r10, hgr10, hf⟩ := hf
              refine xIw (va_runV (As := []) (rest := []) ⟨hx, hb, hml, hown, hts⟩ (c_X3_step l D cI cJ cZ adm m0 m1 m2 m3 m4 m5 m6 m7_42 m8_42 r2 m10_42 m11_42 m12_42 m13_42 0 m15 m16 m17 m18 m19 m20 m21 m22 m23 m24_42 m25_42 m26_42 m27_42 r10 hgr10 _) (cwV 0 hts gX3_isSo_X3_step rfl rfl rfl (by decide +kernel) ⟨Nat.le_of_ble_eq_true rfl, Nat.le_of_ble_eq_true rfl⟩) ⟨PreW.blind, xRecv (q0 := 0) hK hP rfl rfl, (xPrew hK hP hD _)⟩ rfl rfl hl.1 rfl (lv_room (Nat.le_of_ble_eq_true rfl)) dX3_isSo_64 ⟨Nat.le_of_ble_eq_true rfl, Nat.le_of_ble_eq_true rfl⟩) hD hS hA (fun H locs hP hD hS => ?_)
              replace hP : va_P D vwCl (wMc cI cJ adm m0 m1 m2 m3 m4 m5 m6 r10.2.1 r10.2.2.1 r2 r10.2.2.2.1 r10.2.2.2.2.1 r10.2.2.2.2.2.1 r10.2.2.2.2.2.2.1 0 m15 m16 m17 m18 m19 m20 m21 m22 m23 r10.2.2.2.2.2.2.2.1 r10.2.2.2.2.2.2.2.2.1 r10.2.2.2.2.2.2.2.2.2.1 r10.2.2.2.2.2.2.2.2.2.2) H := hP
              replace hD : va_D A (wMc cI cJ adm m0 m1 m2 m3 m4 m5 m6 r10.2.1 r10.2.2.1 r2 r10.2.2.2.1 r10.2.2.2.2.1 r10.2.2.2.2.2.1 r10.2.2.2.2.2.2.1 0 m15 m16 m17 m18 m19 m20 m21 m22 m23 r10.2.2.2.2.2.2.2.1 r10.2.2.2.2.2.2.2.2.1 r10.2.2.2.2.2.2.2.2.2.1 r10.2.2.2.2.2.2.2.2.2.2) := hD
              refine lv_istore (lv' := [(7, .int (b2i r10.1)), (0, .ref (adm 0)), (1, .int p1), (2, .int l2_42), (3, .long l3_42), (5, .long l5_42), (8, .int l8_42)]) hx hb dX3_isSo_67 hl (by decide) rfl (fun ls hl => ?_)
              refine lv_iload hx hb dX3_isSo_69 (lv_at hl 0 rfl) ?_
              have J189 : ∀ (l2_189 : Int32) (l3_189 : Int64) (l5_189 : Int64) (l7_189 : Int32) (m24_189 : Int64) (m25_189 : Int64) (H : Heap) (locs : List Loc) (ls : Array Slot), f_X3_isSo_J189 l8_42 rec42 r10 l2_189 l3_189 l5_189 l7_189 m24_189 m25_189 = some o → va_P D vwCl (wMc cI cJ adm m0 m1 m2 m3 m4 m5 m6 r10.2.1 r10.2.2.1 r2 r10.2.2.2.1 r10.2.2.2.2.1 r10.2.2.2.2.2.1 r10.2.2.2.2.2.2.1 0 m15 m16 m17 m18 m19 m20 m21 m22 m23 m24_189 m25_189 r10.2.2.2.2.2.2.2.2.2.1 r10.2.2.2.2.2.2.2.2.2.2) H → va_D A (wMc cI cJ adm m0 m1 m2 m3 m4 m5 m6 r10.2.1 r10.2.2.1 r2 r10.2.2.2.1 r10.2.2.2.2.1 r10.2.2.2.2.2.1 r10.2.2.2.2.2.2.1 0 m15 m16 m17 m18 m19 m20 m21 m22 m23 m24_189 m25_189 r10.2.2.2.2.2.2.2.2.2.1 r10.2.2.2.2.2.2.2.2.2.2) → va_S A s.heap H locs → lv_has ls 9 [(0, .ref (adm 0)), (1, .int p1), (2, .int l2_189), (3, .long l3_189), (5, .long l5_189), (7, .int l7_189), (8, .int l8_42)] → W p l e (headSpec wsX3_isSo rmX3_isSo).room s m ([.ref (adm 0), .int p1] : List Value).toArray below meth c H locs 0 0 (MQ below (QI D A (b2i o.1) (wMc cI cJ adm m0 m1 m2 m3 m4 m5 m6 o.2.1 o.2.2.1 o.2.2.2.1 o.2.2.2.2.1 o.2.2.2.2.2.1 o.2.2.2.2.2.2.1 o.2.2.2.2.2.2.2.1 o.2.2.2.2.2.2.2.2.1 m15 m16 m17 m18 m19 m20 m21 m22 m23 o.2.2.2.2.2.2.2.2.2.1 o.2.2.2.2.2.2.2.2.2.2.1 o.2.2.2.2.2.2.2.2.2.2.2.1 o.2.2.2.2.2.2.2.2.2.2.2.2)) ([.ref (adm 0), .int p1] : List Value).toArray s 0 0 A) (F0 m 189 ls []) := by
                intro l2_189 l3_189 l5_189 l7_189 m24_189 m25_189 H locs ls hf hP hD hS hl
                unfold f_X3_isSo_J189 at hf
                refine lv_iinc (v := l8_42 + 1) (lv' := [(8, .int (l8_42 + 1)), (0, .ref (adm 0)), (1, .int p1), (2, .int l2_189), (3, .long l3_189), (5, .long l5_189), (7, .int l7_189)]) hx hb dX3_isSo_189 hl (k := 6) rfl (by rfl) (by decide) rfl (fun ls hl => ?_)
                refine lv_goto (tgt := 42) hx hb dX3_isSo_192 (by decide) ?_
                exact ih42 l2_189 l3_189 l5_189 l7_189 (l8_42 + 1) r10.2.1 r10.2.2.1 r10.2.2.2.1 r10.2.2.2.2.1 r10.2.2.2.2.2.1 r10.2.2.2.2.2.2.1 m24_189 m25_189 r10.2.2.2.2.2.2.2.2.2.1 r10.2.2.2.2.2.2.2.2.2.2 _ _ _ hf hP hD hS (lv_sub hl [1, 2, 3, 4, 5, 6, 0] rfl)
              refine lv_if_eq (tgt := 189) hx hb dX3_isSo_71 (by decide) (fun q11 => ?_) (fun q11 => ?_)
              · replace hf := ifT q11 hf
                exact J189 l2_42 l3_42 l5_42 (b2i r10.1) r10.2.2.2.2.2.2.2.1 r10.2.2.2.2.2.2.2.2.1 _ _ _ hf hP hD hS (lv_sub hl [1, 2, 3, 4, 5, 0, 6] rfl)
              · replace hf := ifF q11 hf
                refine lv_aload_n hx hb dX3_isSo_74 rfl (lv_at hl 1 rfl) ?_
                refine va_get (D := D) (ci := 3) (v := .int r10.2.2.2.2.2.2.2.2.2.1) (C := RX3) (T := TX3) (N := 28) hx hb hts hinX3 hown hK.1 hP 0 rfl rfl 26 (by decide) hw4 (fun _ h9 => h9) rfl dX3_isSo_75 ?_
                refine lv_iload_n hx hb dX3_isSo_78 rfl (lv_at hl 2 rfl) ?_
                refine lv_icmp_ne (tgt := 189) hx hb dX3_isSo_79 (by decide) (fun q12 => ?_) (fun q12 => ?_)
                · replace hf := ifT q12 hf
                  exact J189 l2_42 l3_42 l5_42 (b2i r10.1) r10.2.2.2.2.2.2.2.1 r10.2.2.2.2.2.2.2.2.1 _ _ _ hf hP hD hS (lv_sub hl [1, 2, 3, 4, 5, 0, 6] rfl)
                · replace hf := ifN q12 hf
                  refine lv_aload_n hx hb dX3_isSo_82 rfl (lv_at hl 1 rfl) ?_
                  refine va_get (D := D) (ci := 3) (v := .int r10.2.2.2.2.2.2.2.2.2.2) (C := RX3) (T := TX3) (N := 28) hx hb hts hinX3 hown hK.1 hP 0 rfl rfl 27 (by decide) hw5 (fun _ h9 => h9) rfl dX3_isSo_83 ?_
                  refine lv_if_eq (tgt := 92) hx hb dX3_isSo_86 (by decide) (fun q13 => ?_) (fun q13 => ?_)
                  · replace hf := ifT q13 hf
                    refine lv_iload_n hx hb dX3_isSo_92 rfl (lv_at hl 3 rfl) ?_
                    have J169 : ∀ (l7_169 : Int32) (m24_169 : Int64) (m25_169 : Int64) (H : Heap) (locs : List Loc) (ls : Array Slot), f_X3_isSo_J169 l2_42 l8_42 rec42 r10 l7_169 m24_169 m25_169 = some o → va_P D vwCl (wMc cI cJ adm m0 m1 m2 m3 m4 m5 m6 r10.2.1 r10.2.2.1 r2 r10.2.2.2.1 r10.2.2.2.2.1 r10.2.2.2.2.2.1 r10.2.2.2.2.2.2.1 0 m15 m16 m17 m18 m19 m20 m21 m22 m23 m24_169 m25_169 r10.2.2.2.2.2.2.2.2.2.1 r10.2.2.2.2.2.2.2.2.2.2) H → va_D A (wMc cI cJ adm m0 m1 m2 m3 m4 m5 m6 r10.2.1 r10.2.2.1 r2 r10.2.2.2.1 r10.2.2.2.2.1 r10.2.2.2.2.2.1 r10.2.2.2.2.2.2.1 0 m15 m16 m17 m18 m19 m20 m21 m22 m23 m24_169 m25_169 r10.2.2.2.2.2.2.2.2.2.1 r10.2.2.2.2.2.2.2.2.2.2) → va_S A s.heap H locs → lv_has ls 9 [(0, .ref (adm 0)), (1, .int p1), (2, .int l2_42), (7, .int l7_169), (8, .int l8_42)] → W p l e (headSpec wsX3_isSo rmX3_isSo).room s m ([.ref (adm 0), .int p1] : List Value).toArray below meth c H locs 0 0 (MQ below (QI D A (b2i o.1) (wMc cI cJ adm m0 m1 m2 m3 m4 m5 m6 o.2.1 o.2.2.1 o.2.2.2.1 o.2.2.2.2.1 o.2.2.2.2.2.1 o.2.2.2.2.2.2.1 o.2.2.2.2.2.2.2.1 o.2.2.2.2.2.2.2.2.1 m15 m16 m17 m18 m19 m20 m21 m22 m23 o.2.2.2.2.2.2.2.2.2.1 o.2.2.2.2.2.2.2.2.2.2.1 o.2.2.2.2.2.2.2.2.2.2.2.1 o.2.2.2.2.2.2.2.2.2.2.2.2)) ([.ref (adm 0), .int p1] : List Value).toArray s 0 0 A) (F0 m 169 ls []) := by
                      intro l7_169 m24_169 m25_169 H locs ls hf hP hD hS hl
                      unfold f_X3_isSo_J169 at hf
                      refine lv_iinc (v := l2_42 + 1) (lv' := [(2, .int (l2_42 + 1)), (0, .ref (adm 0)), (1, .int p1), (7, .int l7_169), (8, .int l8_42)]) hx hb dX3_isSo_169 hl (k := 2) rfl (by rfl) (by decide) rfl (fun ls hl => ?_)
                      refine lv_aload_n hx hb dX3_isSo_172 rfl (lv_at hl 1 rfl) ?_
                      refine va_get (D := D) (ci := 3) (v := .ref (adm 6)) (C := RX3) (T := TX3) (N := 28) hx hb hts hinX3 hown hK.1 hP 0 rfl rfl 7 (by decide) hw1 (fun _ h9 => h9) rfl dX3_isSo_173 ?_
                      refine lv_bipush (v := 20) hx hb dX3_isSo_176 (by decide) ?_
                      replace hf := gdE hf
                      obtain ⟨h14, hf⟩ := hf
                      refine va_lald hx hb hK.1 hP 6 1 rfl rfl (ib_in h14) dX3_isSo_178 ?_
                      refine lv_topl (fun v15 ev15 => ?_)
                      replace hf := bndE hf ev15
                      refine lv_lstore_n (lv' := [(3, .long v15), (2, .int (l2_42 + 1)), (0, .ref (adm 0)), (1, .int p1), (7, .int l7_169), (8, .int l8_42)]) hx hb dX3_isSo_179 rfl hl (by decide) rfl (fun ls hl => ?_)
                      refine lv_aload_n hx hb dX3_isSo_180 rfl (lv_at hl 2 rfl) ?_
                      refine va_get (D := D) (ci := 3) (v := .ref (adm 6)) (C := RX3) (T := TX3) (N := 28) hx hb hts hinX3 hown hK.1 hP 0 rfl rfl 7 (by decide) hw1 (fun _ h9 => h9) rfl dX3_isSo_181 ?_
                      refine lv_bipush (v := 21) hx hb dX3_isSo_184 (by decide) ?_
                      replace hf := gdE hf
                      obtain ⟨h16, hf⟩ := hf
                      refine va_lald hx hb hK.1 hP 6 1 rfl rfl (ib_in h16) dX3_isSo_186 ?_
                      refine lv_topl (fun v17 ev17 => ?_)
                      replace hf := bndE hf ev17
                      refine lv_lstore (lv' := [(5, .long v17), (3, .long v15), (2, .int (l2_42 + 1)), (0, .ref (adm 0)), (1, .int p1), (7, .int l7_169), (8, .int l8_42)]) hx hb dX3_isSo_187 hl (by decide) rfl (fun ls hl => ?_)
                      exact J189 (l2_42 + 1) v15 v17 l7_169 m24_169 m25_169 _ _ _ hf hP hD hS (lv_sub hl [3, 4, 2, 1, 0, 5, 6] rfl)
                    refine lv_if_le (tgt := 169) hx hb dX3_isSo_93 (by decide) (fun q18 => ?_) (fun q18 => ?_)
                    · replace hf := ifT q18 hf
                      exact J169 (b2i r10.1) r10.2.2.2.2.2.2.2.1 r10.2.2.2.2.2.2.2.2.1 _ _ _ hf hP hD hS (lv_sub hl [1, 2, 3, 0, 6] rfl)
                    · replace hf := ifF q18 hf
                      refine lv_aload_n hx hb dX3_isSo_96 rfl (lv_at hl 1 rfl) ?_
                      refine lv_aload_n hx hb dX3_isSo_97 rfl (lv_at hl 1 rfl) ?_
                      refine va_get (D := D) (ci := 3) (v := .ref (adm 6)) (C := RX3) (T := TX3) (N := 28) hx hb hts hinX3 hown hK.1 hP 0 rfl rfl 7 (by decide) hw1 (fun _ h9 => h9) rfl dX3_isSo_98 ?_
                      refine lv_bipush (v := 20) hx hb dX3_isSo_101 (by decide) ?_
                      replace hf := gdE hf
                      obtain ⟨h19, hf⟩ := hf
                      refine va_lald hx hb hK.1 hP 6 1 rfl rfl (ib_in h19) dX3_isSo_103 ?_
                      refine lv_lload hx hb dX3_isSo_104 (lv_at hl 5 rfl) ?_
                      refine lv_lmul hx hb dX3_isSo_106 ?_
                      refine lv_lload_n hx hb dX3_isSo_107 rfl (lv_at hl 4 rfl) ?_
                      refine lv_aload_n hx hb dX3_isSo_108 rfl (lv_at hl 1 rfl) ?_
                      refine va_get (D := D) (ci := 3) (v := .ref (adm 6)) (C := RX3) (T := TX3) (N := 28) hx hb hts hinX3 hown hK.1 hP 0 rfl rfl 7 (by decide) hw1 (fun _ h9 => h9) rfl dX3_isSo_109 ?_
                      refine lv_bipush (v := 21) hx hb dX3_isSo_112 (by decide) ?_
                      replace hf := gdE hf
                      obtain ⟨h20, hf⟩ := hf
                      refine va_lald hx hb hK.1 hP 6 1 rfl rfl (ib_in h20) dX3_isSo_114 ?_
                      refine lv_lmul hx hb dX3_isSo_115 ?_
                      refine lv_lsub hx hb dX3_isSo_116 ?_
                      refine lv_aload_n hx hb dX3_isSo_117 rfl (lv_at hl 1 rfl) ?_
                      refine va_get (D := D) (ci := 3) (v := .ref (adm 6)) (C := RX3) (T := TX3) (N := 28) hx hb hts hinX3 hown hK.1 hP 0 rfl rfl 7 (by decide) hw1 (fun _ h9 => h9) rfl dX3_isSo_118 ?_
                      refine lv_bipush (v := 21) hx hb dX3_isSo_121 (by decide) ?_
                      refine va_lald hx hb hK.1 hP 6 1 rfl rfl (ib_in h20) dX3_isSo_123 ?_
                      refine lv_lload hx hb dX3_isSo_124 (lv_at hl 5 rfl) ?_
                      refine lv_lmul hx hb dX3_isSo_126 ?_
                      replace hf := bdE hf
                      obtain ⟨r21, hgr21, hf⟩ := hf
                      refine xVw (va_runV (As := [.long (((r10.2.1 (20 : Int32).toNatClampNeg) * l5_42) - (l3_42 * (r10.2.1 (21 : Int32).toNatClampNeg))), .long ((r10.2.1 (21 : Int32).toNatClampNeg) * l5_42)]) (rest := []) ⟨hx, hb, hml, hown, hts⟩ (c_X3_make l D cI cJ cZ adm m0 m1 m2 m3 m4 m5 m6 r10.2.1 r10.2.2.1 r2 r10.2.2.2.1 r10.2.2.2.2.1 r10.2.2.2.2.2.1 r10.2.2.2.2.2.2.1 0 m15 m16 m17 m18 m19 m20 m21 m22 m23 r10.2.2.2.2.2.2.2.1 r10.2.2.2.2.2.2.2.2.1 r10.2.2.2.2.2.2.2.2.2.1 r10.2.2.2.2.2.2.2.2.2.2 (((r10.2.1 (20 : Int32).toNatClampNeg) * l5_42) - (l3_42 * (r10.2.1 (21 : Int32).toNatClampNeg))) ((r10.2.1 (21 : Int32).toNatClampNeg) * l5_42) r21 hgr21 _) (cwV 2 hts gX3_isSo_X3_make rfl rfl rfl (by decide +kernel) ⟨Nat.le_of_ble_eq_true rfl, Nat.le_of_ble_eq_true rfl⟩) ⟨PreW.blind, xRecv (q0 := 0) hK hP rfl rfl, (xPrew hK hP hD _)⟩ rfl rfl hl.1 rfl (lv_room (Nat.le_of_ble_eq_true rfl)) dX3_isSo_127 ⟨Nat.le_of_ble_eq_true rfl, Nat.le_of_ble_eq_true rfl⟩) hD hS hA (fun H locs hP hD hS => ?_)
                      replace hP : va_P D vwCl (wMc cI cJ adm m0 m1 m2 m3 m4 m5 m6 r10.2.1 r10.2.2.1 r2 r10.2.2.2.1 r10.2.2.2.2.1 r10.2.2.2.2.2.1 r10.2.2.2.2.2.2.1 0 m15 m16 m17 m18 m19 m20 m21 m22 m23 r21.1 r21.2 r10.2.2.2.2.2.2.2.2.2.1 r10.2.2.2.2.2.2.2.2.2.2) H := hP
                      replace hD : va_D A (wMc cI cJ adm m0 m1 m2 m3 m4 m5 m6 r10.2.1 r10.2.2.1 r2 r10.2.2.2.1 r10.2.2.2.2.1 r10.2.2.2.2.2.1 r10.2.2.2.2.2.2.1 0 m15 m16 m17 m18 m19 m20 m21 m22 m23 r21.1 r21.2 r10.2.2.2.2.2.2.2.2.2.1 r10.2.2.2.2.2.2.2.2.2.2) := hD
                      refine lv_aload_n hx hb dX3_isSo_130 rfl (lv_at hl 1 rfl) ?_
                      refine va_get (D := D) (ci := 3) (v := .long r21.1) (C := RX3) (T := TX3) (N := 28) hx hb hts hinX3 hown hK.1 hP 0 rfl rfl 24 (by decide) hw6 (fun _ h9 => h9) rfl dX3_isSo_131 ?_
                      refine lv_aload_n hx hb dX3_isSo_134 rfl (lv_at hl 1 rfl) ?_
                      refine va_get (D := D) (ci := 3) (v := .ref (adm 16)) (C := RX3) (T := TX3) (N := 28) hx hb hts hinX3 hown hK.1 hP 0 rfl rfl 20 (by decide) hw7 (fun _ h9 => h9) rfl dX3_isSo_135 ?_
                      refine lv_iload_n hx hb dX3_isSo_138 rfl (lv_at hl 3 rfl) ?_
                      refine lv_iconst (v := 1) hx hb dX3_isSo_139 (by decide) ?_
                      refine lv_isub hx hb dX3_isSo_140 ?_
                      replace hf := gdE hf
                      obtain ⟨h22, hf⟩ := hf
                      refine va_lald hx hb hK.1 hP 16 1 rfl rfl (ib_in h22) dX3_isSo_141 ?_
                      refine W.lcmp hx hb dX3_isSo_142 ?_
                      have J167 : ∀ (k0_167 : Int32) (H : Heap) (locs : List Loc) (ls : Array Slot), f_X3_isSo_J167 l2_42 l8_42 rec42 r10 r21 k0_167 = some o → va_P D vwCl (wMc cI cJ adm m0 m1 m2 m3 m4 m5 m6 r10.2.1 r10.2.2.1 r2 r10.2.2.2.1 r10.2.2.2.2.1 r10.2.2.2.2.2.1 r10.2.2.2.2.2.2.1 0 m15 m16 m17 m18 m19 m20 m21 m22 m23 r21.1 r21.2 r10.2.2.2.2.2.2.2.2.2.1 r10.2.2.2.2.2.2.2.2.2.2) H → va_D A (wMc cI cJ adm m0 m1 m2 m3 m4 m5 m6 r10.2.1 r10.2.2.1 r2 r10.2.2.2.1 r10.2.2.2.2.1 r10.2.2.2.2.2.1 r10.2.2.2.2.2.2.1 0 m15 m16 m17 m18 m19 m20 m21 m22 m23 r21.1 r21.2 r10.2.2.2.2.2.2.2.2.2.1 r10.2.2.2.2.2.2.2.2.2.2) → va_S A s.heap H locs → lv_has ls 9 [(0, .ref (adm 0)), (1, .int p1), (2, .int l2_42), (8, .int l8_42)] → W p l e (headSpec wsX3_isSo rmX3_isSo).room s m ([.ref (adm 0), .int p1] : List Value).toArray below meth c H locs 0 0 (MQ below (QI D A (b2i o.1) (wMc cI cJ adm m0 m1 m2 m3 m4 m5 m6 o.2.1 o.2.2.1 o.2.2.2.1 o.2.2.2.2.1 o.2.2.2.2.2.1 o.2.2.2.2.2.2.1 o.2.2.2.2.2.2.2.1 o.2.2.2.2.2.2.2.2.1 m15 m16 m17 m18 m19 m20 m21 m22 m23 o.2.2.2.2.2.2.2.2.2.1 o.2.2.2.2.2.2.2.2.2.2.1 o.2.2.2.2.2.2.2.2.2.2.2.1 o.2.2.2.2.2.2.2.2.2.2.2.2)) ([.ref (adm 0), .int p1] : List Value).toArray s 0 0 A) (F0 m 167 ls [.int k0_167]) := by
                        intro k0_167 H locs ls hf hP hD hS hl
                        unfold f_X3_isSo_J167 at hf
                        refine lv_istore (lv' := [(7, .int k0_167), (0, .ref (adm 0)), (1, .int p1), (2, .int l2_42), (8, .int l8_42)]) hx hb dX3_isSo_167 hl (by decide) rfl (fun ls hl => ?_)
                        exact J169 k0_167 r21.1 r21.2 _ _ _ hf hP hD hS (lv_sub hl [1, 2, 3, 0, 4] rfl)
                      have J166 : ∀  (H : Heap) (locs : List Loc) (ls : Array Slot), f_X3_isSo_J166 l2_42 l8_42 rec42 r10 r21  = some o → va_P D vwCl (wMc cI cJ adm m0 m1 m2 m3 m4 m5 m6 r10.2.1 r10.2.2.1 r2 r10.2.2.2.1 r10.2.2.2.2.1 r10.2.2.2.2.2.1 r10.2.2.2.2.2.2.1 0 m15 m16 m17 m18 m19 m20 m21 m22 m23 r21.1 r21.2 r10.2.2.2.2.2.2.2.2.2.1 r10.2.2.2.2.2.2.2.2.2.2) H → va_D A (wMc cI cJ adm m0 m1 m2 m3 m4 m5 m6 r10.2.1 r10.2.2.1 r2 r10.2.2.2.1 r10.2.2.2.2.1 r10.2.2.2.2.2.1 r10.2.2.2.2.2.2.1 0 m15 m16 m17 m18 m19 m20 m21 m22 m23 r21.1 r21.2 r10.2.2.2.2.2.2.2.2.2.1 r10.2.2.2.2.2.2.2.2.2.2) → va_S A s.heap H locs → lv_has ls 9 [(0, .ref (adm 0)), (1, .int p1), (2, .int l2_42), (8, .int l8_42)] → W p l e (headSpec wsX3_isSo rmX3_isSo).room s m ([.ref (adm 0), .int p1] : List Value).toArray below meth c H locs 0 0 (MQ below (QI D A (b2i o.1) (wMc cI cJ adm m0 m1 m2 m3 m4 m5 m6 o.2.1 o.2.2.1 o.2.2.2.1 o.2.2.2.2.1 o.2.2.2.2.2.1 o.2.2.2.2.2.2.1 o.2.2.2.2.2.2.2.1 o.2.2.2.2.2.2.2.2.1 m15 m16 m17 m18 m19 m20 m21 m22 m23 o.2.2.2.2.2.2.2.2.2.1 o.2.2.2.2.2.2.2.2.2.2.1 o.2.2.2.2.2.2.2.2.2.2.2.1 o.2.2.2.2.2.2.2.2.2.2.2.2)) ([.ref (adm 0), .int p1] : List Value).toArray s 0 0 A) (F0 m 166 ls []) := by
                        intro  H locs ls hf hP hD hS hl
                        unfold f_X3_isSo_J166 at hf
                        refine lv_iconst (v := 0) hx hb dX3_isSo_166 (by decide) ?_
                        exact J167 0 _ _ _ hf hP hD hS (lv_sub hl [0, 1, 2, 3] rfl)
                      refine lv_if_ne (tgt := 166) hx hb dX3_isSo_143 (by decide) (fun q23 => ?_) (fun q23 => ?_)
                      · replace hf := ifT q23 hf
                        exact J166  _ _ _ hf hP hD hS (lv_sub hl [1, 2, 3, 6] rfl)
                      · replace hf := ifN q23 hf
                        refine lv_aload_n hx hb dX3_isSo_146 rfl (lv_at hl 1 rfl) ?_
                        refine va_get (D := D) (ci := 3) (v := .long r21.2) (C := RX3) (T := TX3) (N := 28) hx hb hts hinX3 hown hK.1 hP 0 rfl rfl 25 (by decide) hw8 (fun _ h9 => h9) rfl dX3_isSo_147 ?_
                        refine lv_aload_n hx hb dX3_isSo_150 rfl (lv_at hl 1 rfl) ?_
                        refine va_get (D := D) (ci := 3) (v := .ref (adm 17)) (C := RX3) (T := TX3) (N := 28) hx hb hts hinX3 hown hK.1 hP 0 rfl rfl 21 (by decide) hw9 (fun _ h9 => h9) rfl dX3_isSo_151 ?_
                        refine lv_iload_n hx hb dX3_isSo_154 rfl (lv_at hl 3 rfl) ?_
                        refine lv_iconst (v := 1) hx hb dX3_isSo_155 (by decide) ?_
                        refine lv_isub hx hb dX3_isSo_156 ?_
                        refine va_lald hx hb hK.1 hP 17 1 rfl rfl (ib_in h22) dX3_isSo_157 ?_
                        refine W.lcmp hx hb dX3_isSo_158 ?_
                        refine lv_if_ne (tgt := 166) hx hb dX3_isSo_159 (by decide) (fun q24 => ?_) (fun q24 => ?_)
                        · replace hf := ifT q24 hf
                          exact J166  _ _ _ hf hP hD hS (lv_sub hl [1, 2, 3, 6] rfl)
                        · replace hf := ifN q24 hf
                          refine lv_iconst (v := 1) hx hb dX3_isSo_162 (by decide) ?_
                          refine lv_goto (tgt := 167) hx hb dX3_isSo_163 (by decide) ?_
                          exact J167 1 _ _ _ hf hP hD hS (lv_sub hl [1, 2, 3, 6] rfl)
                  · replace hf := ifF q13 hf
                    refine lv_goto (tgt := 189) hx hb dX3_isSo_89 (by decide) ?_
                    exact J189 l2_42 l3_42 l5_42 (b2i r10.1) r10.2.2.2.2.2.2.2.1 r10.2.2.2.2.2.2.2.2.1 _ _ _ hf hP hD hS (lv_sub hl [1, 2, 3, 4, 5, 0, 6] rfl)
    exact L42 fuel 0 0 1 1 0 r3 m8 m10 m11 m12 m13 m24 m25 m26 m27 _ _ _ hf hP hD hS (lv_sub hl [5, 6, 4, 3, 2, 1, 0] rfl)
  · replace hf := ifN q1 hf
    refine lv_iconst (v := 1) hx hb dX3_isSo_7 (by decide) ?_
    obtain rfl := Option.some.inj hf
    exact retZ true rfl hx hb hr hlocks hP hD hS dX3_isSo_8

def f_X3_explains_J53 (m0 : Ar) (m1 : Ar) (m4 : Int32) (m5 : Ar) (m6 : Int32) (m7 : Al) (m8 : Al) (m9 : Al) (m10 : Ar) (m11 : Ar) (m12 : Al) (m13 : Al) (m14 : Int32) (m20 : Al) (m21 : Al) (m22 : Int32) (m24 : Int64) (m25 : Int64) (m26 : Int32) (m27 : Int32) (p1 : Int32) (p2 : Int32) (p3 : Int32) (k0_19 : Int32) (m2_53 : Ar) (m3_53 : Ar) : Option (Bool × Ar × Ar × Al × Al × Al × Ar × Ar × Al × Al × Int32 × Int64 × Int64 × Int32 × Int32) :=
(f_X3_isSo m0 m1 m2_53 m3_53 m4 m5 m6 m7 m8 m9 m10 m11 m12 m13 m14 m20 m21 m22 m24 m25 m26 m27 p1).bind (fun r2 =>
if ¬ p3 = 0 then
gd (ib p2 4) (
some (r2.1, m2_53, upd m3_53 p2.toNatClampNeg k0_19, r2.2.1, r2.2.2.1, r2.2.2.2.1, r2.2.2.2.2.1, r2.2.2.2.2.2.1, r2.2.2.2.2.2.2.1, r2.2.2.2.2.2.2.2.1, r2.2.2.2.2.2.2.2.2.1, r2.2.2.2.2.2.2.2.2.2.1, r2.2.2.2.2.2.2.2.2.2.2.1, r2.2.2.2.2.2.2.2.2.2.2.2.1, r2.2.2.2.2.2.2.2.2.2.2.2.2))
else
gd (ib p2 4) (
some (r2.1, upd m2_53 p2.toNatClampNeg k0_19, m3_53, r2.2.1, r2.2.2.1, r2.2.2.2.1, r2.2.2.2.2.1, r2.2.2.2.2.2.1, r2.2.2.2.2.2.2.1, r2.2.2.2.2.2.2.2.1, r2.2.2.2.2.2.2.2.2.1, r2.2.2.2.2.2.2.2.2.2.1, r2.2.2.2.2.2.2.2.2.2.2.1, r2.2.2.2.2.2.2.2.2.2.2.2.1, r2.2.2.2.2.2.2.2.2.2.2.2.2)))
def f_X3_explains_J19 (m0 : Ar) (m1 : Ar) (m2 : Ar) (m3 : Ar) (m4 : Int32) (m5 : Ar) (m6 : Int32) (m7 : Al) (m8 : Al) (m9 : Al) (m10 : Ar) (m11 : Ar) (m12 : Al) (m13 : Al) (m14 : Int32) (m20 : Al) (m21 : Al) (m22 : Int32) (m24 : Int64) (m25 : Int64) (m26 : Int32) (m27 : Int32) (p1 : Int32) (p2 : Int32) (p3 : Int32) (p4 : Int32) (k0_19 : Int32) : Option (Bool × Ar × Ar × Al × Al × Al × Ar × Ar × Al × Al × Int32 × Int64 × Int64 × Int32 × Int32) :=
if ¬ p4 = k0_19 then
if ¬ p3 = 0 then
gd (ib p2 4) (
f_X3_explains_J53 m0 m1 m4 m5 m6 m7 m8 m9 m10 m11 m12 m13 m14 m20 m21 m22 m24 m25 m26 m27 p1 p2 p3 k0_19 m2 (upd m3 p2.toNatClampNeg p4))
else
gd (ib p2 4) (
f_X3_explains_J53 m0 m1 m4 m5 m6 m7 m8 m9 m10 m11 m12 m13 m14 m20 m21 m22 m24 m25 m26 m27 p1 p2 p3 k0_19 (upd m2 p2.toNatClampNeg p4) m3)
else
some (false, m2, m3, m7, m8, m9, m10, m11, m12, m13, m14, m24, m25, m26, m27)
def f_X3_explains (m0 : Ar) (m1 : Ar) (m2 : Ar) (m3 : Ar) (m4 : Int32) (m5 : Ar) (m6 : Int32) (m7 : Al) (m8 : Al) (m9 : Al) (m10 : Ar) (m11 : Ar) (m12 : Al) (m13 : Al) (m14 : Int32) (m20 : Al) (m21 : Al) (m22 : Int32) (m24 : Int64) (m25 : Int64) (m26 : Int32) (m27 : Int32) (p1 : Int32) (p2 : Int32) (p3 : Int32) (p4 : Int32) : Option (Bool × Ar × Ar × Al × Al × Al × Ar × Ar × Al × Al × Int32 × Int64 × Int64 × Int32 × Int32) :=
if ¬ p3 = 0 then
gd (ib p2 4) (
f_X3_explains_J19 m0 m1 m2 m3 m4 m5 m6 m7 m8 m9 m10 m11 m12 m13 m14 m20 m21 m22 m24 m25 m26 m27 p1 p2 p3 p4 (m3 p2.toNatClampNeg))
else
gd (ib p2 4) (
f_X3_explains_J19 m0 m1 m2 m3 m4 m5 m6 m7 m8 m9 m10 m11 m12 m13 m14 m20 m21 m22 m24 m25 m26 m27 p1 p2 p3 p4 (m2 p2.toNatClampNeg))
abbrev rmX3_explains : Room := { frames := 125, cells := 0, slots := 0, locals := 2895 }
set_option maxHeartbeats 40000000 in
set_option maxRecDepth 100000 in
theorem c_X3_explains (l : Launch) (D : va_G) (cI cJ cZ : ClassId) (adm : Nat → Nat) (m0 : Ar) (m1 : Ar) (m2 : Ar) (m3 : Ar) (m4 : Int32) (m5 : Ar) (m6 : Int32) (m7 : Al) (m8 : Al) (m9 : Al) (m10 : Ar) (m11 : Ar) (m12 : Al) (m13 : Al) (m14 : Int32) (m15 : Al) (m16 : Int32) (m17 : Al) (m18 : Ar) (m19 : Int32) (m20 : Al) (m21 : Al) (m22 : Int32) (m23 : Int32) (m24 : Int64) (m25 : Int64) (m26 : Int32) (m27 : Int32) (p1 : Int32) (p2 : Int32) (p3 : Int32) (p4 : Int32) (o : (Bool × Ar × Ar × Al × Al × Al × Ar × Ar × Al × Al × Int32 × Int64 × Int64 × Int32 × Int32)) (hf : f_X3_explains m0 m1 m2 m3 m4 m5 m6 m7 m8 m9 m10 m11 m12 m13 m14 m20 m21 m22 m24 m25 m26 m27 p1 p2 p3 p4 = some o) : CtI l yX3_explains wsX3_explains rmX3_explains D cI cJ cZ [.ref (adm 0), .int p1, .int p2, .int p3, .int p4] (wMc cI cJ adm m0 m1 m2 m3 m4 m5 m6 m7 m8 m9 m10 m11 m12 m13 m14 m15 m16 m17 m18 m19 m20 m21 m22 m23 m24 m25 m26 m27) (wMc cI cJ adm m0 m1 o.2.1 o.2.2.1 m4 m5 m6 o.2.2.2.1 o.2.2.2.2.1 o.2.2.2.2.2.1 o.2.2.2.2.2.2.1 o.2.2.2.2.2.2.2.1 o.2.2.2.2.2.2.2.2.1 o.2.2.2.2.2.2.2.2.2.1 o.2.2.2.2.2.2.2.2.2.2.1 m15 m16 m17 m18 m19 m20 m21 m22 m23 o.2.2.2.2.2.2.2.2.2.2.2.1 o.2.2.2.2.2.2.2.2.2.2.2.2.1 o.2.2.2.2.2.2.2.2.2.2.2.2.2.1 o.2.2.2.2.2.2.2.2.2.2.2.2.2.2) (b2i o.1) := by
  intro sz
  refine Met.ofW (cc := cX3_explains) (maxL := 7) (ret := (some .boolean)) (by decide) rfl ?_
  intro p e s m args below meth c s₁ B hml hv
  obtain ⟨rfl, hsz, hP, hK, hD0⟩ := hv
  have hx := B.exec
  have hb := B.bytes
  have hr := B.returns
  have hts := atoms_spec (ws := wsX3_explains) B.pre
  have hown : s.vm.findClass RX3 = some m.cls := findClass_of_methodNamed B.named
  have hlocks := B.notSynchronized
  subst hsz
  have hD := hD0.self (sz := s.heap.size)
  clear hD0
  generalize hAe : va_A (wMc cI cJ adm m0 m1 m2 m3 m4 m5 m6 m7 m8 m9 m10 m11 m12 m13 m14 m15 m16 m17 m18 m19 m20 m21 m22 m23 m24 m25 m26 m27) s.heap.size = A at hD ⊢
  have hA : ∀ q : Nat, s.heap.size ≤ q → A q := fun q h => by rw [← hAe]; exact Or.inr h
  have hS : va_S A s.heap s.heap [] := va_S.rf
  have hinX3 : ∀ w ∈ wsX30, w ∈ wsX3_explains := by decide +kernel
  have hw0 : (Cond.fieldLink RX3 16 "SwingCircuitsModel" "rise" "[I").before _ s = true := hts _ (by decide +kernel)
  have hw1 : (Cond.fieldLink RX3 19 "SwingCircuitsModel" "fall" "[I").before _ s = true := hts _ (by decide +kernel)
  have hl := lv_entry ([.ref (adm 0), .int p1, .int p2, .int p3, .int p4]) (n := 7) (Nat.le_of_ble_eq_true rfl)
  rw [lg_entry_eq]
  generalize (lg_sl ([.ref (adm 0), .int p1, .int p2, .int p3, .int p4]) ++ List.replicate (7 - (lg_sl ([.ref (adm 0), .int p1, .int p2, .int p3, .int p4])).length) Slot.unset).toArray = ls at hl ⊢
  replace hl : lv_has ls 7 [(0, .ref (adm 0)), (1, .int p1), (2, .int p2), (3, .int p3), (4, .int p4)] := hl
  unfold f_X3_explains at hf
  refine lv_iload_n hx hb dX3_explains_0 rfl (lv_at hl 3 rfl) ?_
  have J19 : ∀ (k0_19 : Int32) (H : Heap) (locs : List Loc) (ls : Array Slot), f_X3_explains_J19 m0 m1 m2 m3 m4 m5 m6 m7 m8 m9 m10 m11 m12 m13 m14 m20 m21 m22 m24 m25 m26 m27 p1 p2 p3 p4 k0_19 = some o → va_P D vwCl (wMc cI cJ adm m0 m1 m2 m3 m4 m5 m6 m7 m8 m9 m10 m11 m12 m13 m14 m15 m16 m17 m18 m19 m20 m21 m22 m23 m24 m25 m26 m27) H → va_D A (wMc cI cJ adm m0 m1 m2 m3 m4 m5 m6 m7 m8 m9 m10 m11 m12 m13 m14 m15 m16 m17 m18 m19 m20 m21 m22 m23 m24 m25 m26 m27) → va_S A s.heap H locs → lv_has ls 7 [(0, .ref (adm 0)), (1, .int p1), (2, .int p2), (3, .int p3), (4, .int p4)] → W p l e (headSpec wsX3_explains rmX3_explains).room s m ([.ref (adm 0), .int p1, .int p2, .int p3, .int p4] : List Value).toArray below meth c H locs 0 0 (MQ below (QI D A (b2i o.1) (wMc cI cJ adm m0 m1 o.2.1 o.2.2.1 m4 m5 m6 o.2.2.2.1 o.2.2.2.2.1 o.2.2.2.2.2.1 o.2.2.2.2.2.2.1 o.2.2.2.2.2.2.2.1 o.2.2.2.2.2.2.2.2.1 o.2.2.2.2.2.2.2.2.2.1 o.2.2.2.2.2.2.2.2.2.2.1 m15 m16 m17 m18 m19 m20 m21 m22 m23 o.2.2.2.2.2.2.2.2.2.2.2.1 o.2.2.2.2.2.2.2.2.2.2.2.2.1 o.2.2.2.2.2.2.2.2.2.2.2.2.2.1 o.2.2.2.2.2.2.2.2.2.2.2.2.2.2)) ([.ref (adm 0), .int p1, .int p2, .int p3, .int p4] : List Value).toArray s 0 0 A) (F0 m 19 ls [.int k0_19]) := by
    intro k0_19 H locs ls hf hP hD hS hl
    unfold f_X3_explains_J19 at hf
    refine lv_istore (lv' := [(5, .int k0_19), (0, .ref (adm 0)), (1, .int p1), (2, .int p2), (3, .int p3), (4, .int p4)]) hx hb dX3_explains_19 hl (by decide) rfl (fun ls hl => ?_)
    refine lv_iload hx hb dX3_explains_21 (lv_at hl 5 rfl) ?_
    refine lv_iload hx hb dX3_explains_23 (lv_at hl 0 rfl) ?_
    refine lv_icmp_ne (tgt := 30) hx hb dX3_explains_25 (by decide) (fun q1 => ?_) (fun q1 => ?_)
    · replace hf := ifT q1 hf
      refine lv_iload_n hx hb dX3_explains_30 rfl (lv_at hl 4 rfl) ?_
      have J53 : ∀ (m2_53 : Ar) (m3_53 : Ar) (H : Heap) (locs : List Loc) (ls : Array Slot), f_X3_explains_J53 m0 m1 m4 m5 m6 m7 m8 m9 m10 m11 m12 m13 m14 m20 m21 m22 m24 m25 m26 m27 p1 p2 p3 k0_19 m2_53 m3_53 = some o → va_P D vwCl (wMc cI cJ adm m0 m1 m2_53 m3_53 m4 m5 m6 m7 m8 m9 m10 m11 m12 m13 m14 m15 m16 m17 m18 m19 m20 m21 m22 m23 m24 m25 m26 m27) H → va_D A (wMc cI cJ adm m0 m1 m2_53 m3_53 m4 m5 m6 m7 m8 m9 m10 m11 m12 m13 m14 m15 m16 m17 m18 m19 m20 m21 m22 m23 m24 m25 m26 m27) → va_S A s.heap H locs → lv_has ls 7 [(0, .ref (adm 0)), (1, .int p1), (2, .int p2), (3, .int p3), (5, .int k0_19)] → W p l e (headSpec wsX3_explains rmX3_explains).room s m ([.ref (adm 0), .int p1, .int p2, .int p3, .int p4] : List Value).toArray below meth c H locs 0 0 (MQ below (QI D A (b2i o.1) (wMc cI cJ adm m0 m1 o.2.1 o.2.2.1 m4 m5 m6 o.2.2.2.1 o.2.2.2.2.1 o.2.2.2.2.2.1 o.2.2.2.2.2.2.1 o.2.2.2.2.2.2.2.1 o.2.2.2.2.2.2.2.2.1 o.2.2.2.2.2.2.2.2.2.1 o.2.2.2.2.2.2.2.2.2.2.1 m15 m16 m17 m18 m19 m20 m21 m22 m23 o.2.2.2.2.2.2.2.2.2.2.2.1 o.2.2.2.2.2.2.2.2.2.2.2.2.1 o.2.2.2.2.2.2.2.2.2.2.2.2.2.1 o.2.2.2.2.2.2.2.2.2.2.2.2.2.2)) ([.ref (adm 0), .int p1, .int p2, .int p3, .int p4] : List Value).toArray s 0 0 A) (F0 m 53 ls []) := by
        intro m2_53 m3_53 H locs ls hf hP hD hS hl
        unfold f_X3_explains_J53 at hf
        refine lv_aload_n hx hb dX3_explains_53 rfl (lv_at hl 0 rfl) ?_
        refine lv_iload_n hx hb dX3_explains_54 rfl (lv_at hl 1 rfl) ?_
        replace hf := bdE hf
        obtain ⟨r2, hgr2, hf⟩ := hf
        refine xIw (va_runV (As := [.int p1]) (rest := []) ⟨hx, hb, hml, hown, hts⟩ (c_X3_isSo l D cI cJ cZ adm m0 m1 m2_53 m3_53 m4 m5 m6 m7 m8 m9 m10 m11 m12 m13 m14 m15 m16 m17 m18 m19 m20 m21 m22 m23 m24 m25 m26 m27 p1 r2 hgr2 _) (cwV 1 hts gX3_explains_X3_isSo rfl rfl rfl (by decide +kernel) ⟨Nat.le_of_ble_eq_true rfl, Nat.le_of_ble_eq_true rfl⟩) ⟨PreW.blind, xRecv (q0 := 0) hK hP rfl rfl, (xPrew hK hP hD _)⟩ rfl rfl hl.1 rfl (lv_room (Nat.le_of_ble_eq_true rfl)) dX3_explains_55 ⟨Nat.le_of_ble_eq_true rfl, Nat.le_of_ble_eq_true rfl⟩) hD hS hA (fun H locs hP hD hS => ?_)
        replace hP : va_P D vwCl (wMc cI cJ adm m0 m1 m2_53 m3_53 m4 m5 m6 r2.2.1 r2.2.2.1 r2.2.2.2.1 r2.2.2.2.2.1 r2.2.2.2.2.2.1 r2.2.2.2.2.2.2.1 r2.2.2.2.2.2.2.2.1 r2.2.2.2.2.2.2.2.2.1 m15 m16 m17 m18 m19 m20 m21 m22 m23 r2.2.2.2.2.2.2.2.2.2.1 r2.2.2.2.2.2.2.2.2.2.2.1 r2.2.2.2.2.2.2.2.2.2.2.2.1 r2.2.2.2.2.2.2.2.2.2.2.2.2) H := hP
        replace hD : va_D A (wMc cI cJ adm m0 m1 m2_53 m3_53 m4 m5 m6 r2.2.1 r2.2.2.1 r2.2.2.2.1 r2.2.2.2.2.1 r2.2.2.2.2.2.1 r2.2.2.2.2.2.2.1 r2.2.2.2.2.2.2.2.1 r2.2.2.2.2.2.2.2.2.1 m15 m16 m17 m18 m19 m20 m21 m22 m23 r2.2.2.2.2.2.2.2.2.2.1 r2.2.2.2.2.2.2.2.2.2.2.1 r2.2.2.2.2.2.2.2.2.2.2.2.1 r2.2.2.2.2.2.2.2.2.2.2.2.2) := hD
        refine lv_istore (lv' := [(6, .int (b2i r2.1)), (0, .ref (adm 0)), (1, .int p1), (2, .int p2), (3, .int p3), (5, .int k0_19)]) hx hb dX3_explains_58 hl (by decide) rfl (fun ls hl => ?_)
        refine lv_iload_n hx hb dX3_explains_60 rfl (lv_at hl 4 rfl) ?_
        refine lv_if_ne (tgt := 75) hx hb dX3_explains_61 (by decide) (fun q3 => ?_) (fun q3 => ?_)
        · replace hf := ifT q3 hf
          refine lv_aload_n hx hb dX3_explains_75 rfl (lv_at hl 1 rfl) ?_
          refine va_get (D := D) (ci := 3) (v := .ref (adm 4)) (C := RX3) (T := TX3) (N := 28) hx hb hts hinX3 hown hK.1 hP 0 rfl rfl 3 (by decide) hw1 (fun _ h9 => h9) rfl dX3_explains_76 ?_
          refine lv_iload_n hx hb dX3_explains_79 rfl (lv_at hl 3 rfl) ?_
          refine lv_iload hx hb dX3_explains_80 (lv_at hl 5 rfl) ?_
          replace hf := gdE hf
          obtain ⟨h4, hf⟩ := hf
          refine va_iast hx hb hK.1 hP hD hS 4 0 rfl rfl (ib_in h4) dX3_explains_82 (fun H locs hP hD hS => ?_)
          replace hP : va_P D vwCl (wMc cI cJ adm m0 m1 m2_53 (upd m3_53 p2.toNatClampNeg k0_19) m4 m5 m6 r2.2.1 r2.2.2.1 r2.2.2.2.1 r2.2.2.2.2.1 r2.2.2.2.2.2.1 r2.2.2.2.2.2.2.1 r2.2.2.2.2.2.2.2.1 r2.2.2.2.2.2.2.2.2.1 m15 m16 m17 m18 m19 m20 m21 m22 m23 r2.2.2.2.2.2.2.2.2.2.1 r2.2.2.2.2.2.2.2.2.2.2.1 r2.2.2.2.2.2.2.2.2.2.2.2.1 r2.2.2.2.2.2.2.2.2.2.2.2.2) H := hP
          replace hD : va_D A (wMc cI cJ adm m0 m1 m2_53 (upd m3_53 p2.toNatClampNeg k0_19) m4 m5 m6 r2.2.1 r2.2.2.1 r2.2.2.2.1 r2.2.2.2.2.1 r2.2.2.2.2.2.1 r2.2.2.2.2.2.2.1 r2.2.2.2.2.2.2.2.1 r2.2.2.2.2.2.2.2.2.1 m15 m16 m17 m18 m19 m20 m21 m22 m23 r2.2.2.2.2.2.2.2.2.2.1 r2.2.2.2.2.2.2.2.2.2.2.1 r2.2.2.2.2.2.2.2.2.2.2.2.1 r2.2.2.2.2.2.2.2.2.2.2.2.2) := hD
          refine lv_iload hx hb dX3_explains_83 (lv_at hl 0 rfl) ?_
          obtain rfl := Option.some.inj hf
          exact retZ r2.1 rfl hx hb hr hlocks hP hD hS dX3_explains_85
        · replace hf := ifN q3 hf
          refine lv_aload_n hx hb dX3_explains_64 rfl (lv_at hl 1 rfl) ?_
          refine va_get (D := D) (ci := 3) (v := .ref (adm 3)) (C := RX3) (T := TX3) (N := 28) hx hb hts hinX3 hown hK.1 hP 0 rfl rfl 2 (by decide) hw0 (fun _ h9 => h9) rfl dX3_explains_65 ?_
          refine lv_iload_n hx hb dX3_explains_68 rfl (lv_at hl 3 rfl) ?_
          refine lv_iload hx hb dX3_explains_69 (lv_at hl 5 rfl) ?_
          replace hf := gdE hf
          obtain ⟨h5, hf⟩ := hf
          refine va_iast hx hb hK.1 hP hD hS 3 0 rfl rfl (ib_in h5) dX3_explains_71 (fun H locs hP hD hS => ?_)
          replace hP : va_P D vwCl (wMc cI cJ adm m0 m1 (upd m2_53 p2.toNatClampNeg k0_19) m3_53 m4 m5 m6 r2.2.1 r2.2.2.1 r2.2.2.2.1 r2.2.2.2.2.1 r2.2.2.2.2.2.1 r2.2.2.2.2.2.2.1 r2.2.2.2.2.2.2.2.1 r2.2.2.2.2.2.2.2.2.1 m15 m16 m17 m18 m19 m20 m21 m22 m23 r2.2.2.2.2.2.2.2.2.2.1 r2.2.2.2.2.2.2.2.2.2.2.1 r2.2.2.2.2.2.2.2.2.2.2.2.1 r2.2.2.2.2.2.2.2.2.2.2.2.2) H := hP
          replace hD : va_D A (wMc cI cJ adm m0 m1 (upd m2_53 p2.toNatClampNeg k0_19) m3_53 m4 m5 m6 r2.2.1 r2.2.2.1 r2.2.2.2.1 r2.2.2.2.2.1 r2.2.2.2.2.2.1 r2.2.2.2.2.2.2.1 r2.2.2.2.2.2.2.2.1 r2.2.2.2.2.2.2.2.2.1 m15 m16 m17 m18 m19 m20 m21 m22 m23 r2.2.2.2.2.2.2.2.2.2.1 r2.2.2.2.2.2.2.2.2.2.2.1 r2.2.2.2.2.2.2.2.2.2.2.2.1 r2.2.2.2.2.2.2.2.2.2.2.2.2) := hD
          refine lv_goto (tgt := 83) hx hb dX3_explains_72 (by decide) ?_
          refine lv_iload hx hb dX3_explains_83 (lv_at hl 0 rfl) ?_
          obtain rfl := Option.some.inj hf
          exact retZ r2.1 rfl hx hb hr hlocks hP hD hS dX3_explains_85
      refine lv_if_ne (tgt := 45) hx hb dX3_explains_31 (by decide) (fun q6 => ?_) (fun q6 => ?_)
      · replace hf := ifT q6 hf
        refine lv_aload_n hx hb dX3_explains_45 rfl (lv_at hl 1 rfl) ?_
        refine va_get (D := D) (ci := 3) (v := .ref (adm 4)) (C := RX3) (T := TX3) (N := 28) hx hb hts hinX3 hown hK.1 hP 0 rfl rfl 3 (by decide) hw1 (fun _ h9 => h9) rfl dX3_explains_46 ?_
        refine lv_iload_n hx hb dX3_explains_49 rfl (lv_at hl 3 rfl) ?_
        refine lv_iload hx hb dX3_explains_50 (lv_at hl 5 rfl) ?_
        replace hf := gdE hf
        obtain ⟨h7, hf⟩ := hf
        refine va_iast hx hb hK.1 hP hD hS 4 0 rfl rfl (ib_in h7) dX3_explains_52 (fun H locs hP hD hS => ?_)
        replace hP : va_P D vwCl (wMc cI cJ adm m0 m1 m2 (upd m3 p2.toNatClampNeg p4) m4 m5 m6 m7 m8 m9 m10 m11 m12 m13 m14 m15 m16 m17 m18 m19 m20 m21 m22 m23 m24 m25 m26 m27) H := hP
        replace hD : va_D A (wMc cI cJ adm m0 m1 m2 (upd m3 p2.toNatClampNeg p4) m4 m5 m6 m7 m8 m9 m10 m11 m12 m13 m14 m15 m16 m17 m18 m19 m20 m21 m22 m23 m24 m25 m26 m27) := hD
        exact J53 m2 (upd m3 p2.toNatClampNeg p4) _ _ _ hf hP hD hS (lv_sub hl [1, 2, 3, 4, 0] rfl)
      · replace hf := ifN q6 hf
        refine lv_aload_n hx hb dX3_explains_34 rfl (lv_at hl 1 rfl) ?_
        refine va_get (D := D) (ci := 3) (v := .ref (adm 3)) (C := RX3) (T := TX3) (N := 28) hx hb hts hinX3 hown hK.1 hP 0 rfl rfl 2 (by decide) hw0 (fun _ h9 => h9) rfl dX3_explains_35 ?_
        refine lv_iload_n hx hb dX3_explains_38 rfl (lv_at hl 3 rfl) ?_
        refine lv_iload hx hb dX3_explains_39 (lv_at hl 5 rfl) ?_
        replace hf := gdE hf
        obtain ⟨h8, hf⟩ := hf
        refine va_iast hx hb hK.1 hP hD hS 3 0 rfl rfl (ib_in h8) dX3_explains_41 (fun H locs hP hD hS => ?_)
        replace hP : va_P D vwCl (wMc cI cJ adm m0 m1 (upd m2 p2.toNatClampNeg p4) m3 m4 m5 m6 m7 m8 m9 m10 m11 m12 m13 m14 m15 m16 m17 m18 m19 m20 m21 m22 m23 m24 m25 m26 m27) H := hP
        replace hD : va_D A (wMc cI cJ adm m0 m1 (upd m2 p2.toNatClampNeg p4) m3 m4 m5 m6 m7 m8 m9 m10 m11 m12 m13 m14 m15 m16 m17 m18 m19 m20 m21 m22 m23 m24 m25 m26 m27) := hD
        refine lv_goto (tgt := 53) hx hb dX3_explains_42 (by decide) ?_
        exact J53 (upd m2 p2.toNatClampNeg p4) m3 _ _ _ hf hP hD hS (lv_sub hl [1, 2, 3, 4, 0] rfl)
    · replace hf := ifN q1 hf
      refine lv_iconst (v := 0) hx hb dX3_explains_28 (by decide) ?_
      obtain rfl := Option.some.inj hf
      exact retZ false rfl hx hb hr hlocks hP hD hS dX3_explains_29
  refine lv_if_ne (tgt := 13) hx hb dX3_explains_1 (by decide) (fun q9 => ?_) (fun q9 => ?_)
  · replace hf := ifT q9 hf
    refine lv_aload_n hx hb dX3_explains_13 rfl (lv_at hl 0 rfl) ?_
    refine va_get (D := D) (ci := 3) (v := .ref (adm 4)) (C := RX3) (T := TX3) (N := 28) hx hb hts hinX3 hown hK.1 hP 0 rfl rfl 3 (by decide) hw1 (fun _ h9 => h9) rfl dX3_explains_14 ?_
    refine lv_iload_n hx hb dX3_explains_17 rfl (lv_at hl 2 rfl) ?_
    replace hf := gdE hf
    obtain ⟨h10, hf⟩ := hf
    refine va_iald hx hb hK.1 hP 4 0 rfl rfl (ib_in h10) dX3_explains_18 ?_
    exact J19 (m3 p2.toNatClampNeg) _ _ _ hf hP hD hS (lv_sub hl [0, 1, 2, 3, 4] rfl)
  · replace hf := ifN q9 hf
    refine lv_aload_n hx hb dX3_explains_4 rfl (lv_at hl 0 rfl) ?_
    refine va_get (D := D) (ci := 3) (v := .ref (adm 3)) (C := RX3) (T := TX3) (N := 28) hx hb hts hinX3 hown hK.1 hP 0 rfl rfl 2 (by decide) hw0 (fun _ h9 => h9) rfl dX3_explains_5 ?_
    refine lv_iload_n hx hb dX3_explains_8 rfl (lv_at hl 2 rfl) ?_
    replace hf := gdE hf
    obtain ⟨h11, hf⟩ := hf
    refine va_iald hx hb hK.1 hP 3 0 rfl rfl (ib_in h11) dX3_explains_9 ?_
    refine lv_goto (tgt := 19) hx hb dX3_explains_10 (by decide) ?_
    exact J19 (m2 p2.toNatClampNeg) _ _ _ hf hP hD hS (lv_sub hl [0, 1, 2, 3, 4] rfl)

def f_X3_explaining_J86 (l6_26 : Int32) (rec26 : (Int32 → Int32 → Ar → Ar → Al → Al → Al → Ar → Ar → Al → Al → Int32 → Int64 → Int64 → Int32 → Int32 → Option (Int32 × Ar × Ar × Al × Al × Al × Ar × Ar × Al × Al × Int32 × Int64 × Int64 × Int32 × Int32))) (r6 : (Bool × Ar × Ar × Al × Al × Al × Ar × Ar × Al × Al × Int32 × Int64 × Int64 × Int32 × Int32)) (l3_86 : Int32) : Option (Int32 × Ar × Ar × Al × Al × Al × Ar × Ar × Al × Al × Int32 × Int64 × Int64 × Int32 × Int32) :=
rec26 l3_86 (l6_26 + 1) r6.2.1 r6.2.2.1 r6.2.2.2.1 r6.2.2.2.2.1 r6.2.2.2.2.2.1 r6.2.2.2.2.2.2.1 r6.2.2.2.2.2.2.2.1 r6.2.2.2.2.2.2.2.2.1 r6.2.2.2.2.2.2.2.2.2.1 r6.2.2.2.2.2.2.2.2.2.2.1 r6.2.2.2.2.2.2.2.2.2.2.2.1 r6.2.2.2.2.2.2.2.2.2.2.2.2.1 r6.2.2.2.2.2.2.2.2.2.2.2.2.2.1 r6.2.2.2.2.2.2.2.2.2.2.2.2.2.2
def f_X3_explaining_B26 (m0 : Ar) (m1 : Ar) (m4 : Int32) (m5 : Ar) (m6 : Int32) (m18 : Ar) (m19 : Int32) (m20 : Al) (m21 : Al) (m22 : Int32) (p1 : Int32) (p2 : Int32) (l4_5 : Int32) (l5_17 : Int32) (rec17 : (Int32 → Int32 → Ar → Ar → Al → Al → Al → Ar → Ar → Al → Al → Int32 → Int64 → Int64 → Int32 → Int32 → Option (Int32 × Ar × Ar × Al × Al × Al × Ar × Ar × Al × Al × Int32 × Int64 × Int64 × Int32 × Int32))) (rec26 : Int32 → Int32 → Ar → Ar → Al → Al → Al → Ar → Ar → Al → Al → Int32 → Int64 → Int64 → Int32 → Int32 → Option (Int32 × Ar × Ar × Al × Al × Al × Ar × Ar × Al × Al × Int32 × Int64 × Int64 × Int32 × Int32)) (l3_26 : Int32) (l6_26 : Int32) (m2_26 : Ar) (m3_26 : Ar) (m7_26 : Al) (m8_26 : Al) (m9_26 : Al) (m10_26 : Ar) (m11_26 : Ar) (m12_26 : Al) (m13_26 : Al) (m14_26 : Int32) (m24_26 : Int64) (m25_26 : Int64) (m26_26 : Int32) (m27_26 : Int32) : Option (Int32 × Ar × Ar × Al × Al × Al × Ar × Ar × Al × Al × Int32 × Int64 × Int64 × Int32 × Int32) :=
if m19 ≤ l6_26 then
rec17 l3_26 (l5_17 + 1) m2_26 m3_26 m7_26 m8_26 m9_26 m10_26 m11_26 m12_26 m13_26 m14_26 m24_26 m25_26 m26_26 m27_26
else
gd (ib l6_26 10) (
(f_X3_explains m0 m1 m2_26 m3_26 m4 m5 m6 m7_26 m8_26 m9_26 m10_26 m11_26 m12_26 m13_26 m14_26 m20 m21 m22 m24_26 m25_26 m26_26 m27_26 p1 l4_5 l5_17 (m18 l6_26.toNatClampNeg)).bind (fun r6 =>
if ¬ (b2i r6.1) = 0 then
if ¬ l3_26 = p2 then
f_X3_explaining_J86 l6_26 rec26 r6 (l3_26 + 1)
else
some (((1000 * l4_5) + (100 * l5_17)) + (m18 l6_26.toNatClampNeg), r6.2.1, r6.2.2.1, r6.2.2.2.1, r6.2.2.2.2.1, r6.2.2.2.2.2.1, r6.2.2.2.2.2.2.1, r6.2.2.2.2.2.2.2.1, r6.2.2.2.2.2.2.2.2.1, r6.2.2.2.2.2.2.2.2.2.1, r6.2.2.2.2.2.2.2.2.2.2.1, r6.2.2.2.2.2.2.2.2.2.2.2.1, r6.2.2.2.2.2.2.2.2.2.2.2.2.1, r6.2.2.2.2.2.2.2.2.2.2.2.2.2.1, r6.2.2.2.2.2.2.2.2.2.2.2.2.2.2)
else
f_X3_explaining_J86 l6_26 rec26 r6 l3_26))
def f_X3_explaining_L26 (m0 : Ar) (m1 : Ar) (m4 : Int32) (m5 : Ar) (m6 : Int32) (m18 : Ar) (m19 : Int32) (m20 : Al) (m21 : Al) (m22 : Int32) (p1 : Int32) (p2 : Int32) (l4_5 : Int32) (l5_17 : Int32) (rec17 : (Int32 → Int32 → Ar → Ar → Al → Al → Al → Ar → Ar → Al → Al → Int32 → Int64 → Int64 → Int32 → Int32 → Option (Int32 × Ar × Ar × Al × Al × Al × Ar × Ar × Al × Al × Int32 × Int64 × Int64 × Int32 × Int32))) : Nat → Int32 → Int32 → Ar → Ar → Al → Al → Al → Ar → Ar → Al → Al → Int32 → Int64 → Int64 → Int32 → Int32 → Option (Int32 × Ar × Ar × Al × Al × Al × Ar × Ar × Al × Al × Int32 × Int64 × Int64 × Int32 × Int32)
  | 0 => fun _ _ _ _ _ _ _ _ _ _ _ _ _ _ _ _ => none
  | n + 1 => f_X3_explaining_B26 m0 m1 m4 m5 m6 m18 m19 m20 m21 m22 p1 p2 l4_5 l5_17 rec17 (f_X3_explaining_L26 m0 m1 m4 m5 m6 m18 m19 m20 m21 m22 p1 p2 l4_5 l5_17 rec17 n)
def f_X3_explaining_B17 (m0 : Ar) (m1 : Ar) (m4 : Int32) (m5 : Ar) (m6 : Int32) (m18 : Ar) (m19 : Int32) (m20 : Al) (m21 : Al) (m22 : Int32) (p1 : Int32) (p2 : Int32) (l4_5 : Int32) (rec5 : (Int32 → Int32 → Ar → Ar → Al → Al → Al → Ar → Ar → Al → Al → Int32 → Int64 → Int64 → Int32 → Int32 → Option (Int32 × Ar × Ar × Al × Al × Al × Ar × Ar × Al × Al × Int32 × Int64 × Int64 × Int32 × Int32))) (rec17 : Int32 → Int32 → Ar → Ar → Al → Al → Al → Ar → Ar → Al → Al → Int32 → Int64 → Int64 → Int32 → Int32 → Option (Int32 × Ar × Ar × Al × Al × Al × Ar × Ar × Al × Al × Int32 × Int64 × Int64 × Int32 × Int32)) (l3_17 : Int32) (l5_17 : Int32) (m2_17 : Ar) (m3_17 : Ar) (m7_17 : Al) (m8_17 : Al) (m9_17 : Al) (m10_17 : Ar) (m11_17 : Ar) (m12_17 : Al) (m13_17 : Al) (m14_17 : Int32) (m24_17 : Int64) (m25_17 : Int64) (m26_17 : Int32) (m27_17 : Int32) : Option (Int32 × Ar × Ar × Al × Al × Al × Ar × Ar × Al × Al × Int32 × Int64 × Int64 × Int32 × Int32) :=
if (2 : Int32) ≤ l5_17 then
rec5 l3_17 (l4_5 + 1) m2_17 m3_17 m7_17 m8_17 m9_17 m10_17 m11_17 m12_17 m13_17 m14_17 m24_17 m25_17 m26_17 m27_17
else
f_X3_explaining_L26 m0 m1 m4 m5 m6 m18 m19 m20 m21 m22 p1 p2 l4_5 l5_17 rec17 fuel l3_17 0 m2_17 m3_17 m7_17 m8_17 m9_17 m10_17 m11_17 m12_17 m13_17 m14_17 m24_17 m25_17 m26_17 m27_17
def f_X3_explaining_L17 (m0 : Ar) (m1 : Ar) (m4 : Int32) (m5 : Ar) (m6 : Int32) (m18 : Ar) (m19 : Int32) (m20 : Al) (m21 : Al) (m22 : Int32) (p1 : Int32) (p2 : Int32) (l4_5 : Int32) (rec5 : (Int32 → Int32 → Ar → Ar → Al → Al → Al → Ar → Ar → Al → Al → Int32 → Int64 → Int64 → Int32 → Int32 → Option (Int32 × Ar × Ar × Al × Al × Al × Ar × Ar × Al × Al × Int32 × Int64 × Int64 × Int32 × Int32))) : Nat → Int32 → Int32 → Ar → Ar → Al → Al → Al → Ar → Ar → Al → Al → Int32 → Int64 → Int64 → Int32 → Int32 → Option (Int32 × Ar × Ar × Al × Al × Al × Ar × Ar × Al × Al × Int32 × Int64 × Int64 × Int32 × Int32)
  | 0 => fun _ _ _ _ _ _ _ _ _ _ _ _ _ _ _ _ => none
  | n + 1 => f_X3_explaining_B17 m0 m1 m4 m5 m6 m18 m19 m20 m21 m22 p1 p2 l4_5 rec5 (f_X3_explaining_L17 m0 m1 m4 m5 m6 m18 m19 m20 m21 m22 p1 p2 l4_5 rec5 n)
def f_X3_explaining_B5 (m0 : Ar) (m1 : Ar) (m4 : Int32) (m5 : Ar) (m6 : Int32) (m18 : Ar) (m19 : Int32) (m20 : Al) (m21 : Al) (m22 : Int32) (p1 : Int32) (p2 : Int32) (rec5 : Int32 → Int32 → Ar → Ar → Al → Al → Al → Ar → Ar → Al → Al → Int32 → Int64 → Int64 → Int32 → Int32 → Option (Int32 × Ar × Ar × Al × Al × Al × Ar × Ar × Al × Al × Int32 × Int64 × Int64 × Int32 × Int32)) (l3_5 : Int32) (l4_5 : Int32) (m2_5 : Ar) (m3_5 : Ar) (m7_5 : Al) (m8_5 : Al) (m9_5 : Al) (m10_5 : Ar) (m11_5 : Ar) (m12_5 : Al) (m13_5 : Al) (m14_5 : Int32) (m24_5 : Int64) (m25_5 : Int64) (m26_5 : Int32) (m27_5 : Int32) : Option (Int32 × Ar × Ar × Al × Al × Al × Ar × Ar × Al × Al × Int32 × Int64 × Int64 × Int32 × Int32) :=
if m4 ≤ l4_5 then
if ¬ p2 = ((-1)) then
some ((-1), m2_5, m3_5, m7_5, m8_5, m9_5, m10_5, m11_5, m12_5, m13_5, m14_5, m24_5, m25_5, m26_5, m27_5)
else
some (l3_5, m2_5, m3_5, m7_5, m8_5, m9_5, m10_5, m11_5, m12_5, m13_5, m14_5, m24_5, m25_5, m26_5, m27_5)
else
f_X3_explaining_L17 m0 m1 m4 m5 m6 m18 m19 m20 m21 m22 p1 p2 l4_5 rec5 fuel l3_5 0 m2_5 m3_5 m7_5 m8_5 m9_5 m10_5 m11_5 m12_5 m13_5 m14_5 m24_5 m25_5 m26_5 m27_5
def f_X3_explaining_L5 (m0 : Ar) (m1 : Ar) (m4 : Int32) (m5 : Ar) (m6 : Int32) (m18 : Ar) (m19 : Int32) (m20 : Al) (m21 : Al) (m22 : Int32) (p1 : Int32) (p2 : Int32) : Nat → Int32 → Int32 → Ar → Ar → Al → Al → Al → Ar → Ar → Al → Al → Int32 → Int64 → Int64 → Int32 → Int32 → Option (Int32 × Ar × Ar × Al × Al × Al × Ar × Ar × Al × Al × Int32 × Int64 × Int64 × Int32 × Int32)
  | 0 => fun _ _ _ _ _ _ _ _ _ _ _ _ _ _ _ _ => none
  | n + 1 => f_X3_explaining_B5 m0 m1 m4 m5 m6 m18 m19 m20 m21 m22 p1 p2 (f_X3_explaining_L5 m0 m1 m4 m5 m6 m18 m19 m20 m21 m22 p1 p2 n)
def f_X3_explaining (m0 : Ar) (m1 : Ar) (m2 : Ar) (m3 : Ar) (m4 : Int32) (m5 : Ar) (m6 : Int32) (m7 : Al) (m8 : Al) (m9 : Al) (m10 : Ar) (m11 : Ar) (m12 : Al) (m13 : Al) (m14 : Int32) (m18 : Ar) (m19 : Int32) (m20 : Al) (m21 : Al) (m22 : Int32) (m24 : Int64) (m25 : Int64) (m26 : Int32) (m27 : Int32) (p1 : Int32) (p2 : Int32) : Option (Int32 × Ar × Ar × Al × Al × Al × Ar × Ar × Al × Al × Int32 × Int64 × Int64 × Int32 × Int32) :=
f_X3_explaining_L5 m0 m1 m4 m5 m6 m18 m19 m20 m21 m22 p1 p2 fuel 0 0 m2 m3 m7 m8 m9 m10 m11 m12 m13 m14 m24 m25 m26 m27
abbrev rmX3_explaining : Room := { frames := 126, cells := 0, slots := 0, locals := 2921 }
set_option maxHeartbeats 40000000 in
set_option maxRecDepth 100000 in
theorem c_X3_explaining (l : Launch) (D : va_G) (cI cJ cZ : ClassId) (adm : Nat → Nat) (m0 : Ar) (m1 : Ar) (m2 : Ar) (m3 : Ar) (m4 : Int32) (m5 : Ar) (m6 : Int32) (m7 : Al) (m8 : Al) (m9 : Al) (m10 : Ar) (m11 : Ar) (m12 : Al) (m13 : Al) (m14 : Int32) (m15 : Al) (m16 : Int32) (m17 : Al) (m18 : Ar) (m19 : Int32) (m20 : Al) (m21 : Al) (m22 : Int32) (m23 : Int32) (m24 : Int64) (m25 : Int64) (m26 : Int32) (m27 : Int32) (p1 : Int32) (p2 : Int32) (o : (Int32 × Ar × Ar × Al × Al × Al × Ar × Ar × Al × Al × Int32 × Int64 × Int64 × Int32 × Int32)) (hf : f_X3_explaining m0 m1 m2 m3 m4 m5 m6 m7 m8 m9 m10 m11 m12 m13 m14 m18 m19 m20 m21 m22 m24 m25 m26 m27 p1 p2 = some o) : CtI l yX3_explaining wsX3_explaining rmX3_explaining D cI cJ cZ [.ref (adm 0), .int p1, .int p2] (wMc cI cJ adm m0 m1 m2 m3 m4 m5 m6 m7 m8 m9 m10 m11 m12 m13 m14 m15 m16 m17 m18 m19 m20 m21 m22 m23 m24 m25 m26 m27) (wMc cI cJ adm m0 m1 o.2.1 o.2.2.1 m4 m5 m6 o.2.2.2.1 o.2.2.2.2.1 o.2.2.2.2.2.1 o.2.2.2.2.2.2.1 o.2.2.2.2.2.2.2.1 o.2.2.2.2.2.2.2.2.1 o.2.2.2.2.2.2.2.2.2.1 o.2.2.2.2.2.2.2.2.2.2.1 m15 m16 m17 m18 m19 m20 m21 m22 m23 o.2.2.2.2.2.2.2.2.2.2.2.1 o.2.2.2.2.2.2.2.2.2.2.2.2.1 o.2.2.2.2.2.2.2.2.2.2.2.2.2.1 o.2.2.2.2.2.2.2.2.2.2.2.2.2.2) o.1 := by
  intro sz
  refine Met.ofW (cc := cX3_explaining) (maxL := 7) (ret := (some .int)) (by decide) rfl ?_
  intro p e s m args below meth c s₁ B hml hv
  obtain ⟨rfl, hsz, hP, hK, hD0⟩ := hv
  have hx := B.exec
  have hb := B.bytes
  have hr := B.returns
  have hts := atoms_spec (ws := wsX3_explaining) B.pre
  have hown : s.vm.findClass RX3 = some m.cls := findClass_of_methodNamed B.named
  have hlocks := B.notSynchronized
  subst hsz
  have hD := hD0.self (sz := s.heap.size)
  clear hD0
  generalize hAe : va_A (wMc cI cJ adm m0 m1 m2 m3 m4 m5 m6 m7 m8 m9 m10 m11 m12 m13 m14 m15 m16 m17 m18 m19 m20 m21 m22 m23 m24 m25 m26 m27) s.heap.size = A at hD ⊢
  have hA : ∀ q : Nat, s.heap.size ≤ q → A q := fun q h => by rw [← hAe]; exact Or.inr h
  have hS : va_S A s.heap s.heap [] := va_S.rf
  have hinX3 : ∀ w ∈ wsX30, w ∈ wsX3_explaining := by decide +kernel
  have hw0 : (Cond.fieldLink RX3 73 "SwingCircuitsModel" "cells" "I").before _ s = true := hts _ (by decide +kernel)
  have hw1 : (Cond.fieldLink RX3 149 "SwingCircuitsModel" "drawn" "I").before _ s = true := hts _ (by decide +kernel)
  have hw2 : (Cond.fieldLink RX3 57 "SwingCircuitsModel" "drawer" "[I").before _ s = true := hts _ (by decide +kernel)
  have hl := lv_entry ([.ref (adm 0), .int p1, .int p2]) (n := 7) (Nat.le_of_ble_eq_true rfl)
  rw [lg_entry_eq]
  generalize (lg_sl ([.ref (adm 0), .int p1, .int p2]) ++ List.replicate (7 - (lg_sl ([.ref (adm 0), .int p1, .int p2])).length) Slot.unset).toArray = ls at hl ⊢
  replace hl : lv_has ls 7 [(0, .ref (adm 0)), (1, .int p1), (2, .int p2)] := hl
  unfold f_X3_explaining at hf
  refine lv_iconst (v := 0) hx hb dX3_explaining_0 (by decide) ?_
  refine lv_istore_n (lv' := [(3, .int 0), (0, .ref (adm 0)), (1, .int p1), (2, .int p2)]) hx hb dX3_explaining_1 rfl hl (by decide) rfl (fun ls hl => ?_)
  refine lv_iconst (v := 0) hx hb dX3_explaining_2 (by decide) ?_
  refine lv_istore (lv' := [(4, .int 0), (3, .int 0), (0, .ref (adm 0)), (1, .int p1), (2, .int p2)]) hx hb dX3_explaining_3 hl (by decide) rfl (fun ls hl => ?_)
  have L5 : ∀ (n : Nat) (l3_5 : Int32) (l4_5 : Int32) (m2_5 : Ar) (m3_5 : Ar) (m7_5 : Al) (m8_5 : Al) (m9_5 : Al) (m10_5 : Ar) (m11_5 : Ar) (m12_5 : Al) (m13_5 : Al) (m14_5 : Int32) (m24_5 : Int64) (m25_5 : Int64) (m26_5 : Int32) (m27_5 : Int32) (H : Heap) (locs : List Loc) (ls : Array Slot), f_X3_explaining_L5 m0 m1 m4 m5 m6 m18 m19 m20 m21 m22 p1 p2 n l3_5 l4_5 m2_5 m3_5 m7_5 m8_5 m9_5 m10_5 m11_5 m12_5 m13_5 m14_5 m24_5 m25_5 m26_5 m27_5 = some o → va_P D vwCl (wMc cI cJ adm m0 m1 m2_5 m3_5 m4 m5 m6 m7_5 m8_5 m9_5 m10_5 m11_5 m12_5 m13_5 m14_5 m15 m16 m17 m18 m19 m20 m21 m22 m23 m24_5 m25_5 m26_5 m27_5) H → va_D A (wMc cI cJ adm m0 m1 m2_5 m3_5 m4 m5 m6 m7_5 m8_5 m9_5 m10_5 m11_5 m12_5 m13_5 m14_5 m15 m16 m17 m18 m19 m20 m21 m22 m23 m24_5 m25_5 m26_5 m27_5) → va_S A s.heap H locs → lv_has ls 7 [(0, .ref (adm 0)), (1, .int p1), (2, .int p2), (3, .int l3_5), (4, .int l4_5)] → W p l e (headSpec wsX3_explaining rmX3_explaining).room s m ([.ref (adm 0), .int p1, .int p2] : List Value).toArray below meth c H locs 0 0 (MQ below (QI D A o.1 (wMc cI cJ adm m0 m1 o.2.1 o.2.2.1 m4 m5 m6 o.2.2.2.1 o.2.2.2.2.1 o.2.2.2.2.2.1 o.2.2.2.2.2.2.1 o.2.2.2.2.2.2.2.1 o.2.2.2.2.2.2.2.2.1 o.2.2.2.2.2.2.2.2.2.1 o.2.2.2.2.2.2.2.2.2.2.1 m15 m16 m17 m18 m19 m20 m21 m22 m23 o.2.2.2.2.2.2.2.2.2.2.2.1 o.2.2.2.2.2.2.2.2.2.2.2.2.1 o.2.2.2.2.2.2.2.2.2.2.2.2.2.1 o.2.2.2.2.2.2.2.2.2.2.2.2.2.2)) ([.ref (adm 0), .int p1, .int p2] : List Value).toArray s 0 0 A) (F0 m 5 ls []) := by
    intro n
    induction n with
    | zero => intro l3_5 l4_5 m2_5 m3_5 m7_5 m8_5 m9_5 m10_5 m11_5 m12_5 m13_5 m14_5 m24_5 m25_5 m26_5 m27_5 H locs ls hf; cases hf
    | succ n ih5 =>
      intro l3_5 l4_5 m2_5 m3_5 m7_5 m8_5 m9_5 m10_5 m11_5 m12_5 m13_5 m14_5 m24_5 m25_5 m26_5 m27_5 H locs ls hf hP hD hS hl
      replace hf : f_X3_explaining_B5 m0 m1 m4 m5 m6 m18 m19 m20 m21 m22 p1 p2 (f_X3_explaining_L5 m0 m1 m4 m5 m6 m18 m19 m20 m21 m22 p1 p2 n) l3_5 l4_5 m2_5 m3_5 m7_5 m8_5 m9_5 m10_5 m11_5 m12_5 m13_5 m14_5 m24_5 m25_5 m26_5 m27_5 = some o := hf
      generalize f_X3_explaining_L5 m0 m1 m4 m5 m6 m18 m19 m20 m21 m22 p1 p2 n = rec5 at ih5 hf
      unfold f_X3_explaining_B5 at hf
      refine lv_iload hx hb dX3_explaining_5 (lv_at hl 4 rfl) ?_
      refine lv_aload_n hx hb dX3_explaining_7 rfl (lv_at hl 0 rfl) ?_
      refine va_get (D := D) (ci := 3) (v := .int m4) (C := RX3) (T := TX3) (N := 28) hx hb hts hinX3 hown hK.1 hP 0 rfl rfl 4 (by decide) hw0 (fun _ h9 => h9) rfl dX3_explaining_8 ?_
      refine lv_icmp_ge (tgt := 104) hx hb dX3_explaining_11 (by decide) (fun q1 => ?_) (fun q1 => ?_)
      · replace hf := ifT q1 hf
        refine lv_iload_n hx hb dX3_explaining_104 rfl (lv_at hl 2 rfl) ?_
        refine lv_iconst (v := (-1)) hx hb dX3_explaining_105 (by decide) ?_
        refine lv_icmp_ne (tgt := 113) hx hb dX3_explaining_106 (by decide) (fun q2 => ?_) (fun q2 => ?_)
        · replace hf := ifT q2 hf
          refine lv_iconst (v := (-1)) hx hb dX3_explaining_113 (by decide) ?_
          obtain rfl := Option.some.inj hf
          exact retI hx hb hr hlocks hP hD hS dX3_explaining_114
        · replace hf := ifN q2 hf
          refine lv_iload_n hx hb dX3_explaining_109 rfl (lv_at hl 3 rfl) ?_
          refine lv_goto (tgt := 114) hx hb dX3_explaining_110 (by decide) ?_
          obtain rfl := Option.some.inj hf
          exact retI hx hb hr hlocks hP hD hS dX3_explaining_114
      · replace hf := ifF q1 hf
        refine lv_iconst (v := 0) hx hb dX3_explaining_14 (by decide) ?_
        refine lv_istore (lv' := [(5, .int 0), (0, .ref (adm 0)), (1, .int p1), (2, .int p2), (3, .int l3_5), (4, .int l4_5)]) hx hb dX3_explaining_15 hl (by decide) rfl (fun ls hl => ?_)
        have L17 : ∀ (n : Nat) (l3_17 : Int32) (l5_17 : Int32) (m2_17 : Ar) (m3_17 : Ar) (m7_17 : Al) (m8_17 : Al) (m9_17 : Al) (m10_17 : Ar) (m11_17 : Ar) (m12_17 : Al) (m13_17 : Al) (m14_17 : Int32) (m24_17 : Int64) (m25_17 : Int64) (m26_17 : Int32) (m27_17 : Int32) (H : Heap) (locs : List Loc) (ls : Array Slot), f_X3_explaining_L17 m0 m1 m4 m5 m6 m18 m19 m20 m21 m22 p1 p2 l4_5 rec5 n l3_17 l5_17 m2_17 m3_17 m7_17 m8_17 m9_17 m10_17 m11_17 m12_17 m13_17 m14_17 m24_17 m25_17 m26_17 m27_17 = some o → va_P D vwCl (wMc cI cJ adm m0 m1 m2_17 m3_17 m4 m5 m6 m7_17 m8_17 m9_17 m10_17 m11_17 m12_17 m13_17 m14_17 m15 m16 m17 m18 m19 m20 m21 m22 m23 m24_17 m25_17 m26_17 m27_17) H → va_D A (wMc cI cJ adm m0 m1 m2_17 m3_17 m4 m5 m6 m7_17 m8_17 m9_17 m10_17 m11_17 m12_17 m13_17 m14_17 m15 m16 m17 m18 m19 m20 m21 m22 m23 m24_17 m25_17 m26_17 m27_17) → va_S A s.heap H locs → lv_has ls 7 [(0, .ref (adm 0)), (1, .int p1), (2, .int p2), (3, .int l3_17), (4, .int l4_5), (5, .int l5_17)] → W p l e (headSpec wsX3_explaining rmX3_explaining).room s m ([.ref (adm 0), .int p1, .int p2] : List Value).toArray below meth c H locs 0 0 (MQ below (QI D A o.1 (wMc cI cJ adm m0 m1 o.2.1 o.2.2.1 m4 m5 m6 o.2.2.2.1 o.2.2.2.2.1 o.2.2.2.2.2.1 o.2.2.2.2.2.2.1 o.2.2.2.2.2.2.2.1 o.2.2.2.2.2.2.2.2.1 o.2.2.2.2.2.2.2.2.2.1 o.2.2.2.2.2.2.2.2.2.2.1 m15 m16 m17 m18 m19 m20 m21 m22 m23 o.2.2.2.2.2.2.2.2.2.2.2.1 o.2.2.2.2.2.2.2.2.2.2.2.2.1 o.2.2.2.2.2.2.2.2.2.2.2.2.2.1 o.2.2.2.2.2.2.2.2.2.2.2.2.2.2)) ([.ref (adm 0), .int p1, .int p2] : List Value).toArray s 0 0 A) (F0 m 17 ls []) := by
          intro n
          induction n with
          | zero => intro l3_17 l5_17 m2_17 m3_17 m7_17 m8_17 m9_17 m10_17 m11_17 m12_17 m13_17 m14_17 m24_17 m25_17 m26_17 m27_17 H locs ls hf; cases hf
          | succ n ih17 =>
            intro l3_17 l5_17 m2_17 m3_17 m7_17 m8_17 m9_17 m10_17 m11_17 m12_17 m13_17 m14_17 m24_17 m25_17 m26_17 m27_17 H locs ls hf hP hD hS hl
            replace hf : f_X3_explaining_B17 m0 m1 m4 m5 m6 m18 m19 m20 m21 m22 p1 p2 l4_5 rec5 (f_X3_explaining_L17 m0 m1 m4 m5 m6 m18 m19 m20 m21 m22 p1 p2 l4_5 rec5 n) l3_17 l5_17 m2_17 m3_17 m7_17 m8_17 m9_17 m10_17 m11_17 m12_17 m13_17 m14_17 m24_17 m25_17 m26_17 m27_17 = some o := hf
            generalize f_X3_explaining_L17 m0 m1 m4 m5 m6 m18 m19 m20 m21 m22 p1 p2 l4_5 rec5 n = rec17 at ih17 hf
            unfold f_X3_explaining_B17 at hf
            refine lv_iload hx hb dX3_explaining_17 (lv_at hl 5 rfl) ?_
            refine lv_iconst (v := 2) hx hb dX3_explaining_19 (by decide) ?_
            refine lv_icmp_ge (tgt := 98) hx hb dX3_explaining_20 (by decide) (fun q3 => ?_) (fun q3 => ?_)
            · replace hf := ifT q3 hf
              refine lv_iinc (v := l4_5 + 1) (lv' := [(4, .int (l4_5 + 1)), (0, .ref (adm 0)), (1, .int p1), (2, .int p2), (3, .int l3_17), (5, .int l5_17)]) hx hb dX3_explaining_98 hl (k := 4) rfl (by rfl) (by decide) rfl (fun ls hl => ?_)
              refine lv_goto (tgt := 5) hx hb dX3_explaining_101 (by decide) ?_
              exact ih5 l3_17 (l4_5 + 1) m2_17 m3_17 m7_17 m8_17 m9_17 m10_17 m11_17 m12_17 m13_17 m14_17 m24_17 m25_17 m26_17 m27_17 _ _ _ hf hP hD hS (lv_sub hl [1, 2, 3, 4, 0] rfl)
            · replace hf := ifF q3 hf
              refine lv_iconst (v := 0) hx hb dX3_explaining_23 (by decide) ?_
              refine lv_istore (lv' := [(6, .int 0), (0, .ref (adm 0)), (1, .int p1), (2, .int p2), (3, .int l3_17), (4, .int l4_5), (5, .int l5_17)]) hx hb dX3_explaining_24 hl (by decide) rfl (fun ls hl => ?_)
              have L26 : ∀ (n : Nat) (l3_26 : Int32) (l6_26 : Int32) (m2_26 : Ar) (m3_26 : Ar) (m7_26 : Al) (m8_26 : Al) (m9_26 : Al) (m10_26 : Ar) (m11_26 : Ar) (m12_26 : Al) (m13_26 : Al) (m14_26 : Int32) (m24_26 : Int64) (m25_26 : Int64) (m26_26 : Int32) (m27_26 : Int32) (H : Heap) (locs : List Loc) (ls : Array Slot), f_X3_explaining_L26 m0 m1 m4 m5 m6 m18 m19 m20 m21 m22 p1 p2 l4_5 l5_17 rec17 n l3_26 l6_26 m2_26 m3_26 m7_26 m8_26 m9_26 m10_26 m11_26 m12_26 m13_26 m14_26 m24_26 m25_26 m26_26 m27_26 = some o → va_P D vwCl (wMc cI cJ adm m0 m1 m2_26 m3_26 m4 m5 m6 m7_26 m8_26 m9_26 m10_26 m11_26 m12_26 m13_26 m14_26 m15 m16 m17 m18 m19 m20 m21 m22 m23 m24_26 m25_26 m26_26 m27_26) H → va_D A (wMc cI cJ adm m0 m1 m2_26 m3_26 m4 m5 m6 m7_26 m8_26 m9_26 m10_26 m11_26 m12_26 m13_26 m14_26 m15 m16 m17 m18 m19 m20 m21 m22 m23 m24_26 m25_26 m26_26 m27_26) → va_S A s.heap H locs → lv_has ls 7 [(0, .ref (adm 0)), (1, .int p1), (2, .int p2), (3, .int l3_26), (4, .int l4_5), (5, .int l5_17), (6, .int l6_26)] → W p l e (headSpec wsX3_explaining rmX3_explaining).room s m ([.ref (adm 0), .int p1, .int p2] : List Value).toArray below meth c H locs 0 0 (MQ below (QI D A o.1 (wMc cI cJ adm m0 m1 o.2.1 o.2.2.1 m4 m5 m6 o.2.2.2.1 o.2.2.2.2.1 o.2.2.2.2.2.1 o.2.2.2.2.2.2.1 o.2.2.2.2.2.2.2.1 o.2.2.2.2.2.2.2.2.1 o.2.2.2.2.2.2.2.2.2.1 o.2.2.2.2.2.2.2.2.2.2.1 m15 m16 m17 m18 m19 m20 m21 m22 m23 o.2.2.2.2.2.2.2.2.2.2.2.1 o.2.2.2.2.2.2.2.2.2.2.2.2.1 o.2.2.2.2.2.2.2.2.2.2.2.2.2.1 o.2.2.2.2.2.2.2.2.2.2.2.2.2.2)) ([.ref (adm 0), .int p1, .int p2] : List Value).toArray s 0 0 A) (F0 m 26 ls []) := by
                intro n
                induction n with
                | zero => intro l3_26 l6_26 m2_26 m3_26 m7_26 m8_26 m9_26 m10_26 m11_26 m12_26 m13_26 m14_26 m24_26 m25_26 m26_26 m27_26 H locs ls hf; cases hf
                | succ n ih26 =>
                  intro l3_26 l6_26 m2_26 m3_26 m7_26 m8_26 m9_26 m10_26 m11_26 m12_26 m13_26 m14_26 m24_26 m25_26 m26_26 m27_26 H locs ls hf hP hD hS hl
                  replace hf : f_X3_explaining_B26 m0 m1 m4 m5 m6 m18 m19 m20 m21 m22 p1 p2 l4_5 l5_17 rec17 (f_X3_explaining_L26 m0 m1 m4 m5 m6 m18 m19 m20 m21 m22 p1 p2 l4_5 l5_17 rec17 n) l3_26 l6_26 m2_26 m3_26 m7_26 m8_26 m9_26 m10_26 m11_26 m12_26 m13_26 m14_26 m24_26 m25_26 m26_26 m27_26 = some o := hf
                  generalize f_X3_explaining_L26 m0 m1 m4 m5 m6 m18 m19 m20 m21 m22 p1 p2 l4_5 l5_17 rec17 n = rec26 at ih26 hf
                  unfold f_X3_explaining_B26 at hf
                  refine lv_iload hx hb dX3_explaining_26 (lv_at hl 6 rfl) ?_
                  refine lv_aload_n hx hb dX3_explaining_28 rfl (lv_at hl 0 rfl) ?_
                  refine va_get (D := D) (ci := 3) (v := .int m19) (C := RX3) (T := TX3) (N := 28) hx hb hts hinX3 hown hK.1 hP 0 rfl rfl 19 (by decide) hw1 (fun _ h9 => h9) rfl dX3_explaining_29 ?_
                  refine lv_icmp_ge (tgt := 92) hx hb dX3_explaining_32 (by decide) (fun q4 => ?_) (fun q4 => ?_)
                  · replace hf := ifT q4 hf
                    refine lv_iinc (v := l5_17 + 1) (lv' := [(5, .int (l5_17 + 1)), (0, .ref (adm 0)), (1, .int p1), (2, .int p2), (3, .int l3_26), (4, .int l4_5), (6, .int l6_26)]) hx hb dX3_explaining_92 hl (k := 5) rfl (by rfl) (by decide) rfl (fun ls hl => ?_)
                    refine lv_goto (tgt := 17) hx hb dX3_explaining_95 (by decide) ?_
                    exact ih17 l3_26 (l5_17 + 1) m2_26 m3_26 m7_26 m8_26 m9_26 m10_26 m11_26 m12_26 m13_26 m14_26 m24_26 m25_26 m26_26 m27_26 _ _ _ hf hP hD hS (lv_sub hl [1, 2, 3, 4, 5, 0] rfl)
                  · replace hf := ifF q4 hf
                    refine lv_aload_n hx hb dX3_explaining_35 rfl (lv_at hl 0 rfl) ?_
                    refine lv_iload_n hx hb dX3_explaining_36 rfl (lv_at hl 1 rfl) ?_
                    refine lv_iload hx hb dX3_explaining_37 (lv_at hl 4 rfl) ?_
                    refine lv_iload hx hb dX3_explaining_39 (lv_at hl 5 rfl) ?_
                    refine lv_aload_n hx hb dX3_explaining_41 rfl (lv_at hl 0 rfl) ?_
                    refine va_get (D := D) (ci := 3) (v := .ref (adm 15)) (C := RX3) (T := TX3) (N := 28) hx hb hts hinX3 hown hK.1 hP 0 rfl rfl 18 (by decide) hw2 (fun _ h9 => h9) rfl dX3_explaining_42 ?_
                    refine lv_iload hx hb dX3_explaining_45 (lv_at hl 6 rfl) ?_
                    replace hf := gdE hf
                    obtain ⟨h5, hf⟩ := hf
                    refine va_iald hx hb hK.1 hP 15 0 rfl rfl (ib_in h5) dX3_explaining_47 ?_
                    replace hf := bdE hf
                    obtain ⟨r6, hgr6, hf⟩ := hf
                    refine xIw (va_runV (As := [.int p1, .int l4_5, .int l5_17, .int (m18 l6_26.toNatClampNeg)]) (rest := []) ⟨hx, hb, hml, hown, hts⟩ (c_X3_explains l D cI cJ cZ adm m0 m1 m2_26 m3_26 m4 m5 m6 m7_26 m8_26 m9_26 m10_26 m11_26 m12_26 m13_26 m14_26 m15 m16 m17 m18 m19 m20 m21 m22 m23 m24_26 m25_26 m26_26 m27_26 p1 l4_5 l5_17 (m18 l6_26.toNatClampNeg) r6 hgr6 _) (cwV 4 hts gX3_explaining_X3_explains rfl rfl rfl (by decide +kernel) ⟨Nat.le_of_ble_eq_true rfl, Nat.le_of_ble_eq_true rfl⟩) ⟨PreW.blind, xRecv (q0 := 0) hK hP rfl rfl, (xPrew hK hP hD _)⟩ rfl rfl hl.1 rfl (lv_room (Nat.le_of_ble_eq_true rfl)) dX3_explaining_48 ⟨Nat.le_of_ble_eq_true rfl, Nat.le_of_ble_eq_true rfl⟩) hD hS hA (fun H locs hP hD hS => ?_)
                    replace hP : va_P D vwCl (wMc cI cJ adm m0 m1 r6.2.1 r6.2.2.1 m4 m5 m6 r6.2.2.2.1 r6.2.2.2.2.1 r6.2.2.2.2.2.1 r6.2.2.2.2.2.2.1 r6.2.2.2.2.2.2.2.1 r6.2.2.2.2.2.2.2.2.1 r6.2.2.2.2.2.2.2.2.2.1 r6.2.2.2.2.2.2.2.2.2.2.1 m15 m16 m17 m18 m19 m20 m21 m22 m23 r6.2.2.2.2.2.2.2.2.2.2.2.1 r6.2.2.2.2.2.2.2.2.2.2.2.2.1 r6.2.2.2.2.2.2.2.2.2.2.2.2.2.1 r6.2.2.2.2.2.2.2.2.2.2.2.2.2.2) H := hP
                    replace hD : va_D A (wMc cI cJ adm m0 m1 r6.2.1 r6.2.2.1 m4 m5 m6 r6.2.2.2.1 r6.2.2.2.2.1 r6.2.2.2.2.2.1 r6.2.2.2.2.2.2.1 r6.2.2.2.2.2.2.2.1 r6.2.2.2.2.2.2.2.2.1 r6.2.2.2.2.2.2.2.2.2.1 r6.2.2.2.2.2.2.2.2.2.2.1 m15 m16 m17 m18 m19 m20 m21 m22 m23 r6.2.2.2.2.2.2.2.2.2.2.2.1 r6.2.2.2.2.2.2.2.2.2.2.2.2.1 r6.2.2.2.2.2.2.2.2.2.2.2.2.2.1 r6.2.2.2.2.2.2.2.2.2.2.2.2.2.2) := hD
                    have J86 : ∀ (l3_86 : Int32) (H : Heap) (locs : List Loc) (ls : Array Slot), f_X3_explaining_J86 l6_26 rec26 r6 l3_86 = some o → va_P D vwCl (wMc cI cJ adm m0 m1 r6.2.1 r6.2.2.1 m4 m5 m6 r6.2.2.2.1 r6.2.2.2.2.1 r6.2.2.2.2.2.1 r6.2.2.2.2.2.2.1 r6.2.2.2.2.2.2.2.1 r6.2.2.2.2.2.2.2.2.1 r6.2.2.2.2.2.2.2.2.2.1 r6.2.2.2.2.2.2.2.2.2.2.1 m15 m16 m17 m18 m19 m20 m21 m22 m23 r6.2.2.2.2.2.2.2.2.2.2.2.1 r6.2.2.2.2.2.2.2.2.2.2.2.2.1 r6.2.2.2.2.2.2.2.2.2.2.2.2.2.1 r6.2.2.2.2.2.2.2.2.2.2.2.2.2.2) H → va_D A (wMc cI cJ adm m0 m1 r6.2.1 r6.2.2.1 m4 m5 m6 r6.2.2.2.1 r6.2.2.2.2.1 r6.2.2.2.2.2.1 r6.2.2.2.2.2.2.1 r6.2.2.2.2.2.2.2.1 r6.2.2.2.2.2.2.2.2.1 r6.2.2.2.2.2.2.2.2.2.1 r6.2.2.2.2.2.2.2.2.2.2.1 m15 m16 m17 m18 m19 m20 m21 m22 m23 r6.2.2.2.2.2.2.2.2.2.2.2.1 r6.2.2.2.2.2.2.2.2.2.2.2.2.1 r6.2.2.2.2.2.2.2.2.2.2.2.2.2.1 r6.2.2.2.2.2.2.2.2.2.2.2.2.2.2) → va_S A s.heap H locs → lv_has ls 7 [(0, .ref (adm 0)), (1, .int p1), (2, .int p2), (3, .int l3_86), (4, .int l4_5), (5, .int l5_17), (6, .int l6_26)] → W p l e (headSpec wsX3_explaining rmX3_explaining).room s m ([.ref (adm 0), .int p1, .int p2] : List Value).toArray below meth c H locs 0 0 (MQ below (QI D A o.1 (wMc cI cJ adm m0 m1 o.2.1 o.2.2.1 m4 m5 m6 o.2.2.2.1 o.2.2.2.2.1 o.2.2.2.2.2.1 o.2.2.2.2.2.2.1 o.2.2.2.2.2.2.2.1 o.2.2.2.2.2.2.2.2.1 o.2.2.2.2.2.2.2.2.2.1 o.2.2.2.2.2.2.2.2.2.2.1 m15 m16 m17 m18 m19 m20 m21 m22 m23 o.2.2.2.2.2.2.2.2.2.2.2.1 o.2.2.2.2.2.2.2.2.2.2.2.2.1 o.2.2.2.2.2.2.2.2.2.2.2.2.2.1 o.2.2.2.2.2.2.2.2.2.2.2.2.2.2)) ([.ref (adm 0), .int p1, .int p2] : List Value).toArray s 0 0 A) (F0 m 86 ls []) := by
                      intro l3_86 H locs ls hf hP hD hS hl
                      unfold f_X3_explaining_J86 at hf
                      refine lv_iinc (v := l6_26 + 1) (lv' := [(6, .int (l6_26 + 1)), (0, .ref (adm 0)), (1, .int p1), (2, .int p2), (3, .int l3_86), (4, .int l4_5), (5, .int l5_17)]) hx hb dX3_explaining_86 hl (k := 6) rfl (by rfl) (by decide) rfl (fun ls hl => ?_)
                      refine lv_goto (tgt := 26) hx hb dX3_explaining_89 (by decide) ?_
                      exact ih26 l3_86 (l6_26 + 1) r6.2.1 r6.2.2.1 r6.2.2.2.1 r6.2.2.2.2.1 r6.2.2.2.2.2.1 r6.2.2.2.2.2.2.1 r6.2.2.2.2.2.2.2.1 r6.2.2.2.2.2.2.2.2.1 r6.2.2.2.2.2.2.2.2.2.1 r6.2.2.2.2.2.2.2.2.2.2.1 r6.2.2.2.2.2.2.2.2.2.2.2.1 r6.2.2.2.2.2.2.2.2.2.2.2.2.1 r6.2.2.2.2.2.2.2.2.2.2.2.2.2.1 r6.2.2.2.2.2.2.2.2.2.2.2.2.2.2 _ _ _ hf hP hD hS (lv_sub hl [1, 2, 3, 4, 5, 6, 0] rfl)
                    refine lv_if_ne (tgt := 57) hx hb dX3_explaining_51 (by decide) (fun q7 => ?_) (fun q7 => ?_)
                    · replace hf := ifT q7 hf
                      refine lv_iload_n hx hb dX3_explaining_57 rfl (lv_at hl 3 rfl) ?_
                      refine lv_iload_n hx hb dX3_explaining_58 rfl (lv_at hl 2 rfl) ?_
                      refine lv_icmp_ne (tgt := 83) hx hb dX3_explaining_59 (by decide) (fun q8 => ?_) (fun q8 => ?_)
                      · replace hf := ifT q8 hf
                        refine lv_iinc (v := l3_26 + 1) (lv' := [(3, .int (l3_26 + 1)), (0, .ref (adm 0)), (1, .int p1), (2, .int p2), (4, .int l4_5), (5, .int l5_17), (6, .int l6_26)]) hx hb dX3_explaining_83 hl (k := 3) rfl (by rfl) (by decide) rfl (fun ls hl => ?_)
                        exact J86 (l3_26 + 1) _ _ _ hf hP hD hS (lv_sub hl [1, 2, 3, 0, 4, 5, 6] rfl)
                      · replace hf := ifN q8 hf
                        refine lv_sipush (v := 1000) hx hb dX3_explaining_62 (by decide) ?_
                        refine lv_iload hx hb dX3_explaining_65 (lv_at hl 4 rfl) ?_
                        refine lv_imul hx hb dX3_explaining_67 ?_
                        refine lv_bipush (v := 100) hx hb dX3_explaining_68 (by decide) ?_
                        refine lv_iload hx hb dX3_explaining_70 (lv_at hl 5 rfl) ?_
                        refine lv_imul hx hb dX3_explaining_72 ?_
                        refine lv_iadd hx hb dX3_explaining_73 ?_
                        refine lv_aload_n hx hb dX3_explaining_74 rfl (lv_at hl 0 rfl) ?_
                        refine va_get (D := D) (ci := 3) (v := .ref (adm 15)) (C := RX3) (T := TX3) (N := 28) hx hb hts hinX3 hown hK.1 hP 0 rfl rfl 18 (by decide) hw2 (fun _ h9 => h9) rfl dX3_explaining_75 ?_
                        refine lv_iload hx hb dX3_explaining_78 (lv_at hl 6 rfl) ?_
                        refine va_iald hx hb hK.1 hP 15 0 rfl rfl (ib_in h5) dX3_explaining_80 ?_
                        refine lv_iadd hx hb dX3_explaining_81 ?_
                        obtain rfl := Option.some.inj hf
                        exact retI hx hb hr hlocks hP hD hS dX3_explaining_82
                    · replace hf := ifN q7 hf
                      refine lv_goto (tgt := 86) hx hb dX3_explaining_54 (by decide) ?_
                      exact J86 l3_26 _ _ _ hf hP hD hS (lv_sub hl [0, 1, 2, 3, 4, 5, 6] rfl)
              exact L26 fuel l3_17 0 m2_17 m3_17 m7_17 m8_17 m9_17 m10_17 m11_17 m12_17 m13_17 m14_17 m24_17 m25_17 m26_17 m27_17 _ _ _ hf hP hD hS (lv_sub hl [1, 2, 3, 4, 5, 6, 0] rfl)
        exact L17 fuel l3_5 0 m2_5 m3_5 m7_5 m8_5 m9_5 m10_5 m11_5 m12_5 m13_5 m14_5 m24_5 m25_5 m26_5 m27_5 _ _ _ hf hP hD hS (lv_sub hl [1, 2, 3, 4, 5, 0] rfl)
  exact L5 fuel 0 0 m2 m3 m7 m8 m9 m10 m11 m12 m13 m14 m24 m25 m26 m27 _ _ _ hf hP hD hS (lv_sub hl [2, 3, 4, 1, 0] rfl)

def f_X3_run_B20 (m0 : Ar) (m1 : Ar) (m2 : Ar) (m3 : Ar) (m4 : Int32) (m5 : Ar) (m6 : Int32) (m14 : Int32) (p1 : Int32) (rec20 : Int32 → Al → Al → Ar → Ar → Al → Al → Int64 → Int64 → Int32 → Int32 → Option (Int32 × Al × Al × Ar × Ar × Al × Al × Int32 × Int64 × Int64 × Int32 × Int32)) (l2_20 : Int32) (m7_20 : Al) (m8_20 : Al) (m10_20 : Ar) (m11_20 : Ar) (m12_20 : Al) (m13_20 : Al) (m24_20 : Int64) (m25_20 : Int64) (m26_20 : Int32) (m27_20 : Int32) : Option (Int32 × Al × Al × Ar × Ar × Al × Al × Int32 × Int64 × Int64 × Int32 × Int32) :=
if p1 ≤ l2_20 then
some (l2_20, m7_20, m8_20, m10_20, m11_20, m12_20, m13_20, 0, m24_20, m25_20, m26_20, m27_20)
else
(f_X3_step m0 m1 m2 m3 m4 m5 m6 m7_20 m8_20 m10_20 m11_20 m12_20 m13_20 m14 m24_20 m25_20 m26_20 m27_20).bind (fun r4 =>
if (b2i r4.1) = 0 then
some (l2_20, r4.2.1, r4.2.2.1, r4.2.2.2.1, r4.2.2.2.2.1, r4.2.2.2.2.2.1, r4.2.2.2.2.2.2.1, 0, r4.2.2.2.2.2.2.2.1, r4.2.2.2.2.2.2.2.2.1, r4.2.2.2.2.2.2.2.2.2.1, r4.2.2.2.2.2.2.2.2.2.2)
else
rec20 (l2_20 + 1) r4.2.1 r4.2.2.1 r4.2.2.2.1 r4.2.2.2.2.1 r4.2.2.2.2.2.1 r4.2.2.2.2.2.2.1 r4.2.2.2.2.2.2.2.1 r4.2.2.2.2.2.2.2.2.1 r4.2.2.2.2.2.2.2.2.2.1 r4.2.2.2.2.2.2.2.2.2.2)
def f_X3_run_L20 (m0 : Ar) (m1 : Ar) (m2 : Ar) (m3 : Ar) (m4 : Int32) (m5 : Ar) (m6 : Int32) (m14 : Int32) (p1 : Int32) : Nat → Int32 → Al → Al → Ar → Ar → Al → Al → Int64 → Int64 → Int32 → Int32 → Option (Int32 × Al × Al × Ar × Ar × Al × Al × Int32 × Int64 × Int64 × Int32 × Int32)
  | 0 => fun _ _ _ _ _ _ _ _ _ _ _ => none
  | n + 1 => f_X3_run_B20 m0 m1 m2 m3 m4 m5 m6 m14 p1 (f_X3_run_L20 m0 m1 m2 m3 m4 m5 m6 m14 p1 n)
def f_X3_run (m0 : Ar) (m1 : Ar) (m2 : Ar) (m3 : Ar) (m4 : Int32) (m5 : Ar) (m6 : Int32) (m7 : Al) (m8 : Al) (m10 : Ar) (m11 : Ar) (m12 : Al) (m13 : Al) (m14 : Int32) (m24 : Int64) (m25 : Int64) (m26 : Int32) (m27 : Int32) (p1 : Int32) : Option (Int32 × Al × Al × Ar × Ar × Al × Al × Int32 × Int64 × Int64 × Int32 × Int32) :=
(f_X3_in p1 0 500).bind (fun r1 =>
if ¬ (b2i r1) = 0 then
f_X3_run_L20 m0 m1 m2 m3 m4 m5 m6 m14 p1 fuel 0 m7 m8 m10 m11 m12 m13 m24 m25 m26 m27
else
some ((-1), m7, m8, m10, m11, m12, m13, 0, m24, m25, m26, m27))
abbrev rmX3_run : Room := { frames := 124, cells := 0, slots := 0, locals := 2867 }
set_option maxHeartbeats 40000000 in
set_option maxRecDepth 100000 in
theorem c_X3_run (l : Launch) (D : va_G) (cI cJ cZ : ClassId) (adm : Nat → Nat) (m0 : Ar) (m1 : Ar) (m2 : Ar) (m3 : Ar) (m4 : Int32) (m5 : Ar) (m6 : Int32) (m7 : Al) (m8 : Al) (m9 : Al) (m10 : Ar) (m11 : Ar) (m12 : Al) (m13 : Al) (m14 : Int32) (m15 : Al) (m16 : Int32) (m17 : Al) (m18 : Ar) (m19 : Int32) (m20 : Al) (m21 : Al) (m22 : Int32) (m23 : Int32) (m24 : Int64) (m25 : Int64) (m26 : Int32) (m27 : Int32) (p1 : Int32) (o : (Int32 × Al × Al × Ar × Ar × Al × Al × Int32 × Int64 × Int64 × Int32 × Int32)) (hf : f_X3_run m0 m1 m2 m3 m4 m5 m6 m7 m8 m10 m11 m12 m13 m14 m24 m25 m26 m27 p1 = some o) : CtI l yX3_run wsX3_run rmX3_run D cI cJ cZ [.ref (adm 0), .int p1] (wMc cI cJ adm m0 m1 m2 m3 m4 m5 m6 m7 m8 m9 m10 m11 m12 m13 m14 m15 m16 m17 m18 m19 m20 m21 m22 m23 m24 m25 m26 m27) (wMc cI cJ adm m0 m1 m2 m3 m4 m5 m6 o.2.1 o.2.2.1 m9 o.2.2.2.1 o.2.2.2.2.1 o.2.2.2.2.2.1 o.2.2.2.2.2.2.1 m14 m15 m16 m17 m18 m19 m20 m21 m22 o.2.2.2.2.2.2.2.1 o.2.2.2.2.2.2.2.2.1 o.2.2.2.2.2.2.2.2.2.1 o.2.2.2.2.2.2.2.2.2.2.1 o.2.2.2.2.2.2.2.2.2.2.2) o.1 := by
  intro sz
  refine Met.ofW (cc := cX3_run) (maxL := 3) (ret := (some .int)) (by decide) rfl ?_
  intro p e s m args below meth c s₁ B hml hv
  obtain ⟨rfl, hsz, hP, hK, hD0⟩ := hv
  have hx := B.exec
  have hb := B.bytes
  have hr := B.returns
  have hts := atoms_spec (ws := wsX3_run) B.pre
  have hown : s.vm.findClass RX3 = some m.cls := findClass_of_methodNamed B.named
  have hlocks := B.notSynchronized
  subst hsz
  have hD := hD0.self (sz := s.heap.size)
  clear hD0
  generalize hAe : va_A (wMc cI cJ adm m0 m1 m2 m3 m4 m5 m6 m7 m8 m9 m10 m11 m12 m13 m14 m15 m16 m17 m18 m19 m20 m21 m22 m23 m24 m25 m26 m27) s.heap.size = A at hD ⊢
  have hA : ∀ q : Nat, s.heap.size ≤ q → A q := fun q h => by rw [← hAe]; exact Or.inr h
  have hS : va_S A s.heap s.heap [] := va_S.rf
  have hinX3 : ∀ w ∈ wsX30, w ∈ wsX3_run := by decide +kernel
  have hw0 : (Cond.fieldLink RX3 69 "SwingCircuitsModel" "thrown" "I").before _ s = true := hts _ (by decide +kernel)
  have hl := lv_entry ([.ref (adm 0), .int p1]) (n := 3) (Nat.le_of_ble_eq_true rfl)
  rw [lg_entry_eq]
  generalize (lg_sl ([.ref (adm 0), .int p1]) ++ List.replicate (3 - (lg_sl ([.ref (adm 0), .int p1])).length) Slot.unset).toArray = ls at hl ⊢
  replace hl : lv_has ls 3 [(0, .ref (adm 0)), (1, .int p1)] := hl
  unfold f_X3_run at hf
  refine lv_aload_n hx hb dX3_run_0 rfl (lv_at hl 0 rfl) ?_
  refine lv_iconst (v := 0) hx hb dX3_run_1 (by decide) ?_
  refine va_put (D := D) (ci := 3) (v := .int 0) (ty := .int) (C := RX3) (T := TX3) (N := 28) hx hb hts hinX3 tyX3 tyX3_ok nmX3 hown hK.1 hP hD hS 0 rfl rfl 23 (by decide) hw0 (fun _ h9 => h9) rfl (by decide +kernel) rfl rfl (Nat.le_of_ble_eq_true rfl) dX3_run_2 (fun H locs hP hD hS => ?_)
  replace hP : va_P D vwCl (wMc cI cJ adm m0 m1 m2 m3 m4 m5 m6 m7 m8 m9 m10 m11 m12 m13 m14 m15 m16 m17 m18 m19 m20 m21 m22 0 m24 m25 m26 m27) H := hP
  replace hD : va_D A (wMc cI cJ adm m0 m1 m2 m3 m4 m5 m6 m7 m8 m9 m10 m11 m12 m13 m14 m15 m16 m17 m18 m19 m20 m21 m22 0 m24 m25 m26 m27) := hD
  refine lv_iload_n hx hb dX3_run_5 rfl (lv_at hl 1 rfl) ?_
  refine lv_iconst (v := 0) hx hb dX3_run_6 (by decide) ?_
  refine lv_sipush (v := 500) hx hb dX3_run_7 (by decide) ?_
  replace hf := bdE hf
  obtain ⟨r1, hgr1, hf⟩ := hf
  refine xI0 (va_runS (As := [.int p1, .int 0, .int 500]) (rest := []) ⟨hx, hb, hml, hown, hts⟩ (c_X3_in l D cI cJ cZ p1 0 500 r1 hgr1 _) (va_cwS 3 hts gX3_run_X3_in rfl rfl rfl (by decide +kernel) ⟨Nat.le_of_ble_eq_true rfl, Nat.le_of_ble_eq_true rfl⟩) ⟨PreW.blind, (xPre0 hK _)⟩ rfl rfl hl.1 rfl (lv_room (Nat.le_of_ble_eq_true rfl)) dX3_run_10 ⟨Nat.le_of_ble_eq_true rfl, Nat.le_of_ble_eq_true rfl⟩) hP hS hA (fun H locs hP hS => ?_)
  refine lv_if_ne (tgt := 18) hx hb dX3_run_13 (by decide) (fun q2 => ?_) (fun q2 => ?_)
  · replace hf := ifT q2 hf
    refine lv_iconst (v := 0) hx hb dX3_run_18 (by decide) ?_
    refine lv_istore_n (lv' := [(2, .int 0), (0, .ref (adm 0)), (1, .int p1)]) hx hb dX3_run_19 rfl hl (by decide) rfl (fun ls hl => ?_)
    have L20 : ∀ (n : Nat) (l2_20 : Int32) (m7_20 : Al) (m8_20 : Al) (m10_20 : Ar) (m11_20 : Ar) (m12_20 : Al) (m13_20 : Al) (m24_20 : Int64) (m25_20 : Int64) (m26_20 : Int32) (m27_20 : Int32) (H : Heap) (locs : List Loc) (ls : Array Slot), f_X3_run_L20 m0 m1 m2 m3 m4 m5 m6 m14 p1 n l2_20 m7_20 m8_20 m10_20 m11_20 m12_20 m13_20 m24_20 m25_20 m26_20 m27_20 = some o → va_P D vwCl (wMc cI cJ adm m0 m1 m2 m3 m4 m5 m6 m7_20 m8_20 m9 m10_20 m11_20 m12_20 m13_20 m14 m15 m16 m17 m18 m19 m20 m21 m22 0 m24_20 m25_20 m26_20 m27_20) H → va_D A (wMc cI cJ adm m0 m1 m2 m3 m4 m5 m6 m7_20 m8_20 m9 m10_20 m11_20 m12_20 m13_20 m14 m15 m16 m17 m18 m19 m20 m21 m22 0 m24_20 m25_20 m26_20 m27_20) → va_S A s.heap H locs → lv_has ls 3 [(0, .ref (adm 0)), (1, .int p1), (2, .int l2_20)] → W p l e (headSpec wsX3_run rmX3_run).room s m ([.ref (adm 0), .int p1] : List Value).toArray below meth c H locs 0 0 (MQ below (QI D A o.1 (wMc cI cJ adm m0 m1 m2 m3 m4 m5 m6 o.2.1 o.2.2.1 m9 o.2.2.2.1 o.2.2.2.2.1 o.2.2.2.2.2.1 o.2.2.2.2.2.2.1 m14 m15 m16 m17 m18 m19 m20 m21 m22 o.2.2.2.2.2.2.2.1 o.2.2.2.2.2.2.2.2.1 o.2.2.2.2.2.2.2.2.2.1 o.2.2.2.2.2.2.2.2.2.2.1 o.2.2.2.2.2.2.2.2.2.2.2)) ([.ref (adm 0), .int p1] : List Value).toArray s 0 0 A) (F0 m 20 ls []) := by
      intro n
      induction n with
      | zero => intro l2_20 m7_20 m8_20 m10_20 m11_20 m12_20 m13_20 m24_20 m25_20 m26_20 m27_20 H locs ls hf; cases hf
      | succ n ih20 =>
        intro l2_20 m7_20 m8_20 m10_20 m11_20 m12_20 m13_20 m24_20 m25_20 m26_20 m27_20 H locs ls hf hP hD hS hl
        replace hf : f_X3_run_B20 m0 m1 m2 m3 m4 m5 m6 m14 p1 (f_X3_run_L20 m0 m1 m2 m3 m4 m5 m6 m14 p1 n) l2_20 m7_20 m8_20 m10_20 m11_20 m12_20 m13_20 m24_20 m25_20 m26_20 m27_20 = some o := hf
        generalize f_X3_run_L20 m0 m1 m2 m3 m4 m5 m6 m14 p1 n = rec20 at ih20 hf
        unfold f_X3_run_B20 at hf
        refine lv_iload_n hx hb dX3_run_20 rfl (lv_at hl 2 rfl) ?_
        refine lv_iload_n hx hb dX3_run_21 rfl (lv_at hl 1 rfl) ?_
        refine lv_icmp_ge (tgt := 38) hx hb dX3_run_22 (by decide) (fun q3 => ?_) (fun q3 => ?_)
        · replace hf := ifT q3 hf
          refine lv_iload_n hx hb dX3_run_38 rfl (lv_at hl 2 rfl) ?_
          obtain rfl := Option.some.inj hf
          exact retI hx hb hr hlocks hP hD hS dX3_run_39
        · replace hf := ifF q3 hf
          refine lv_aload_n hx hb dX3_run_25 rfl (lv_at hl 0 rfl) ?_
          replace hf := bdE hf
          obtain ⟨r4, hgr4, hf⟩ := hf
          refine xIw (va_runV (As := []) (rest := []) ⟨hx, hb, hml, hown, hts⟩ (c_X3_step l D cI cJ cZ adm m0 m1 m2 m3 m4 m5 m6 m7_20 m8_20 m9 m10_20 m11_20 m12_20 m13_20 m14 m15 m16 m17 m18 m19 m20 m21 m22 0 m24_20 m25_20 m26_20 m27_20 r4 hgr4 _) (cwV 0 hts gX3_run_X3_step rfl rfl rfl (by decide +kernel) ⟨Nat.le_of_ble_eq_true rfl, Nat.le_of_ble_eq_true rfl⟩) ⟨PreW.blind, xRecv (q0 := 0) hK hP rfl rfl, (xPrew hK hP hD _)⟩ rfl rfl hl.1 rfl (lv_room (Nat.le_of_ble_eq_true rfl)) dX3_run_26 ⟨Nat.le_of_ble_eq_true rfl, Nat.le_of_ble_eq_true rfl⟩) hD hS hA (fun H locs hP hD hS => ?_)
          replace hP : va_P D vwCl (wMc cI cJ adm m0 m1 m2 m3 m4 m5 m6 r4.2.1 r4.2.2.1 m9 r4.2.2.2.1 r4.2.2.2.2.1 r4.2.2.2.2.2.1 r4.2.2.2.2.2.2.1 m14 m15 m16 m17 m18 m19 m20 m21 m22 0 r4.2.2.2.2.2.2.2.1 r4.2.2.2.2.2.2.2.2.1 r4.2.2.2.2.2.2.2.2.2.1 r4.2.2.2.2.2.2.2.2.2.2) H := hP
          replace hD : va_D A (wMc cI cJ adm m0 m1 m2 m3 m4 m5 m6 r4.2.1 r4.2.2.1 m9 r4.2.2.2.1 r4.2.2.2.2.1 r4.2.2.2.2.2.1 r4.2.2.2.2.2.2.1 m14 m15 m16 m17 m18 m19 m20 m21 m22 0 r4.2.2.2.2.2.2.2.1 r4.2.2.2.2.2.2.2.2.1 r4.2.2.2.2.2.2.2.2.2.1 r4.2.2.2.2.2.2.2.2.2.2) := hD
          refine lv_if_eq (tgt := 38) hx hb dX3_run_29 (by decide) (fun q5 => ?_) (fun q5 => ?_)
          · replace hf := ifT q5 hf
            refine lv_iload_n hx hb dX3_run_38 rfl (lv_at hl 2 rfl) ?_
            obtain rfl := Option.some.inj hf
            exact retI hx hb hr hlocks hP hD hS dX3_run_39
          · replace hf := ifF q5 hf
            refine lv_iinc (v := l2_20 + 1) (lv' := [(2, .int (l2_20 + 1)), (0, .ref (adm 0)), (1, .int p1)]) hx hb dX3_run_32 hl (k := 2) rfl (by rfl) (by decide) rfl (fun ls hl => ?_)
            refine lv_goto (tgt := 20) hx hb dX3_run_35 (by decide) ?_
            exact ih20 (l2_20 + 1) r4.2.1 r4.2.2.1 r4.2.2.2.1 r4.2.2.2.2.1 r4.2.2.2.2.2.1 r4.2.2.2.2.2.2.1 r4.2.2.2.2.2.2.2.1 r4.2.2.2.2.2.2.2.2.1 r4.2.2.2.2.2.2.2.2.2.1 r4.2.2.2.2.2.2.2.2.2.2 _ _ _ hf hP hD hS (lv_sub hl [1, 2, 0] rfl)
    exact L20 fuel 0 m7 m8 m10 m11 m12 m13 m24 m25 m26 m27 _ _ _ hf hP hD hS (lv_sub hl [1, 2, 0] rfl)
  · replace hf := ifN q2 hf
    refine lv_iconst (v := (-1)) hx hb dX3_run_16 (by decide) ?_
    obtain rfl := Option.some.inj hf
    exact retI hx hb hr hlocks hP hD hS dX3_run_17

def f_X3_ring (m0 : Ar) (m1 : Ar) (m2 : Ar) (m3 : Ar) (m4 : Int32) (m5 : Ar) (m6 : Int32) (m7 : Al) (m8 : Al) (m9 : Al) (m10 : Ar) (m11 : Ar) (m12 : Al) (m13 : Al) (m14 : Int32) (m15 : Al) (m16 : Int32) (m17 : Al) (m24 : Int64) (m25 : Int64) (m26 : Int32) (m27 : Int32) (p1 : Int32) : Option (Int32 × Al × Al × Al × Ar × Ar × Al × Al × Int32 × Al × Int32 × Al × Int32 × Int64 × Int64 × Int32 × Int32) :=
(f_X3_in p1 1 300).bind (fun r1 =>
if (b2i r1) = 0 then
some ((-1), m7, m8, m9, m10, m11, m12, m13, m14, m15, m16, m17, 0, m24, m25, m26, m27)
else
if ¬ m4 = 0 then
(f_X3_copy m7 m9).bind (fun r4 =>
(f_X3_seek m0 m1 m2 m3 m4 m5 m6 m7 m8 m10 m11 m12 m13 0 m15 m16 m17 m24 m25 m26 m27 p1).bind (fun r5 =>
(f_X3_copy r4 r5.2.1).bind (fun r6 =>
some (r5.1, r6, r5.2.2.1, r4, r5.2.2.2.1, r5.2.2.2.2.1, r5.2.2.2.2.2.1, r5.2.2.2.2.2.2.1, 1, r5.2.2.2.2.2.2.2.1, r5.2.2.2.2.2.2.2.2.1, r5.2.2.2.2.2.2.2.2.2.1, 0, r5.2.2.2.2.2.2.2.2.2.2.1, r5.2.2.2.2.2.2.2.2.2.2.2.1, r5.2.2.2.2.2.2.2.2.2.2.2.2.1, r5.2.2.2.2.2.2.2.2.2.2.2.2.2))))
else
some ((-1), m7, m8, m9, m10, m11, m12, m13, m14, m15, m16, m17, 0, m24, m25, m26, m27))
abbrev rmX3_ring : Room := { frames := 125, cells := 0, slots := 0, locals := 2890 }
set_option maxHeartbeats 40000000 in
set_option maxRecDepth 100000 in
theorem c_X3_ring (l : Launch) (D : va_G) (cI cJ cZ : ClassId) (adm : Nat → Nat) (m0 : Ar) (m1 : Ar) (m2 : Ar) (m3 : Ar) (m4 : Int32) (m5 : Ar) (m6 : Int32) (m7 : Al) (m8 : Al) (m9 : Al) (m10 : Ar) (m11 : Ar) (m12 : Al) (m13 : Al) (m14 : Int32) (m15 : Al) (m16 : Int32) (m17 : Al) (m18 : Ar) (m19 : Int32) (m20 : Al) (m21 : Al) (m22 : Int32) (m23 : Int32) (m24 : Int64) (m25 : Int64) (m26 : Int32) (m27 : Int32) (p1 : Int32) (o : (Int32 × Al × Al × Al × Ar × Ar × Al × Al × Int32 × Al × Int32 × Al × Int32 × Int64 × Int64 × Int32 × Int32)) (hf : f_X3_ring m0 m1 m2 m3 m4 m5 m6 m7 m8 m9 m10 m11 m12 m13 m14 m15 m16 m17 m24 m25 m26 m27 p1 = some o) : CtI l yX3_ring wsX3_ring rmX3_ring D cI cJ cZ [.ref (adm 0), .int p1] (wMc cI cJ adm m0 m1 m2 m3 m4 m5 m6 m7 m8 m9 m10 m11 m12 m13 m14 m15 m16 m17 m18 m19 m20 m21 m22 m23 m24 m25 m26 m27) (wMc cI cJ adm m0 m1 m2 m3 m4 m5 m6 o.2.1 o.2.2.1 o.2.2.2.1 o.2.2.2.2.1 o.2.2.2.2.2.1 o.2.2.2.2.2.2.1 o.2.2.2.2.2.2.2.1 o.2.2.2.2.2.2.2.2.1 o.2.2.2.2.2.2.2.2.2.1 o.2.2.2.2.2.2.2.2.2.2.1 o.2.2.2.2.2.2.2.2.2.2.2.1 m18 m19 m20 m21 m22 o.2.2.2.2.2.2.2.2.2.2.2.2.1 o.2.2.2.2.2.2.2.2.2.2.2.2.2.1 o.2.2.2.2.2.2.2.2.2.2.2.2.2.2.1 o.2.2.2.2.2.2.2.2.2.2.2.2.2.2.2.1 o.2.2.2.2.2.2.2.2.2.2.2.2.2.2.2.2) o.1 := by
  intro sz
  refine Met.ofW (cc := cX3_ring) (maxL := 3) (ret := (some .int)) (by decide) rfl ?_
  intro p e s m args below meth c s₁ B hml hv
  obtain ⟨rfl, hsz, hP, hK, hD0⟩ := hv
  have hx := B.exec
  have hb := B.bytes
  have hr := B.returns
  have hts := atoms_spec (ws := wsX3_ring) B.pre
  have hown : s.vm.findClass RX3 = some m.cls := findClass_of_methodNamed B.named
  have hlocks := B.notSynchronized
  subst hsz
  have hD := hD0.self (sz := s.heap.size)
  clear hD0
  generalize hAe : va_A (wMc cI cJ adm m0 m1 m2 m3 m4 m5 m6 m7 m8 m9 m10 m11 m12 m13 m14 m15 m16 m17 m18 m19 m20 m21 m22 m23 m24 m25 m26 m27) s.heap.size = A at hD ⊢
  have hA : ∀ q : Nat, s.heap.size ≤ q → A q := fun q h => by rw [← hAe]; exact Or.inr h
  have hS : va_S A s.heap s.heap [] := va_S.rf
  have hinX3 : ∀ w ∈ wsX30, w ∈ wsX3_ring := by decide +kernel
  have hw0 : (Cond.fieldLink RX3 69 "SwingCircuitsModel" "thrown" "I").before _ s = true := hts _ (by decide +kernel)
  have hw1 : (Cond.fieldLink RX3 73 "SwingCircuitsModel" "cells" "I").before _ s = true := hts _ (by decide +kernel)
  have hw2 : (Cond.fieldLink RX3 25 "SwingCircuitsModel" "now" "[J").before _ s = true := hts _ (by decide +kernel)
  have hw3 : (Cond.fieldLink RX3 32 "SwingCircuitsModel" "aside" "[J").before _ s = true := hts _ (by decide +kernel)
  have hw4 : (Cond.fieldLink RX3 47 "SwingCircuitsModel" "isLogged" "Z").before _ s = true := hts _ (by decide +kernel)
  have hl := lv_entry ([.ref (adm 0), .int p1]) (n := 3) (Nat.le_of_ble_eq_true rfl)
  rw [lg_entry_eq]
  generalize (lg_sl ([.ref (adm 0), .int p1]) ++ List.replicate (3 - (lg_sl ([.ref (adm 0), .int p1])).length) Slot.unset).toArray = ls at hl ⊢
  replace hl : lv_has ls 3 [(0, .ref (adm 0)), (1, .int p1)] := hl
  unfold f_X3_ring at hf
  refine lv_aload_n hx hb dX3_ring_0 rfl (lv_at hl 0 rfl) ?_
  refine lv_iconst (v := 0) hx hb dX3_ring_1 (by decide) ?_
  refine va_put (D := D) (ci := 3) (v := .int 0) (ty := .int) (C := RX3) (T := TX3) (N := 28) hx hb hts hinX3 tyX3 tyX3_ok nmX3 hown hK.1 hP hD hS 0 rfl rfl 23 (by decide) hw0 (fun _ h9 => h9) rfl (by decide +kernel) rfl rfl (Nat.le_of_ble_eq_true rfl) dX3_ring_2 (fun H locs hP hD hS => ?_)
  replace hP : va_P D vwCl (wMc cI cJ adm m0 m1 m2 m3 m4 m5 m6 m7 m8 m9 m10 m11 m12 m13 m14 m15 m16 m17 m18 m19 m20 m21 m22 0 m24 m25 m26 m27) H := hP
  replace hD : va_D A (wMc cI cJ adm m0 m1 m2 m3 m4 m5 m6 m7 m8 m9 m10 m11 m12 m13 m14 m15 m16 m17 m18 m19 m20 m21 m22 0 m24 m25 m26 m27) := hD
  refine lv_iload_n hx hb dX3_ring_5 rfl (lv_at hl 1 rfl) ?_
  refine lv_iconst (v := 1) hx hb dX3_ring_6 (by decide) ?_
  refine lv_sipush (v := 300) hx hb dX3_ring_7 (by decide) ?_
  replace hf := bdE hf
  obtain ⟨r1, hgr1, hf⟩ := hf
  refine xI0 (va_runS (As := [.int p1, .int 1, .int 300]) (rest := []) ⟨hx, hb, hml, hown, hts⟩ (c_X3_in l D cI cJ cZ p1 1 300 r1 hgr1 _) (va_cwS 3 hts gX3_ring_X3_in rfl rfl rfl (by decide +kernel) ⟨Nat.le_of_ble_eq_true rfl, Nat.le_of_ble_eq_true rfl⟩) ⟨PreW.blind, (xPre0 hK _)⟩ rfl rfl hl.1 rfl (lv_room (Nat.le_of_ble_eq_true rfl)) dX3_ring_10 ⟨Nat.le_of_ble_eq_true rfl, Nat.le_of_ble_eq_true rfl⟩) hP hS hA (fun H locs hP hS => ?_)
  refine lv_if_eq (tgt := 23) hx hb dX3_ring_13 (by decide) (fun q2 => ?_) (fun q2 => ?_)
  · replace hf := ifT q2 hf
    refine lv_iconst (v := (-1)) hx hb dX3_ring_23 (by decide) ?_
    obtain rfl := Option.some.inj hf
    exact retI hx hb hr hlocks hP hD hS dX3_ring_24
  · replace hf := ifF q2 hf
    refine lv_aload_n hx hb dX3_ring_16 rfl (lv_at hl 0 rfl) ?_
    refine va_get (D := D) (ci := 3) (v := .int m4) (C := RX3) (T := TX3) (N := 28) hx hb hts hinX3 hown hK.1 hP 0 rfl rfl 4 (by decide) hw1 (fun _ h9 => h9) rfl dX3_ring_17 ?_
    refine lv_if_ne (tgt := 25) hx hb dX3_ring_20 (by decide) (fun q3 => ?_) (fun q3 => ?_)
    · replace hf := ifT q3 hf
      refine lv_aload_n hx hb dX3_ring_25 rfl (lv_at hl 0 rfl) ?_
      refine va_get (D := D) (ci := 3) (v := .ref (adm 6)) (C := RX3) (T := TX3) (N := 28) hx hb hts hinX3 hown hK.1 hP 0 rfl rfl 7 (by decide) hw2 (fun _ h9 => h9) rfl dX3_ring_26 ?_
      refine lv_aload_n hx hb dX3_ring_29 rfl (lv_at hl 0 rfl) ?_
      refine va_get (D := D) (ci := 3) (v := .ref (adm 8)) (C := RX3) (T := TX3) (N := 28) hx hb hts hinX3 hown hK.1 hP 0 rfl rfl 9 (by decide) hw3 (fun _ h9 => h9) rfl dX3_ring_30 ?_
      replace hf := bdE hf
      obtain ⟨r4, hgr4, hf⟩ := hf
      refine xV (w2 := (wMc cI cJ adm m0 m1 m2 m3 m4 m5 m6 m7 m8 r4 m10 m11 m12 m13 m14 m15 m16 m17 m18 m19 m20 m21 m22 0 m24 m25 m26 m27)) (wr := ([((adm 0), .inr (3, [.ref (adm 1), .ref (adm 2), .ref (adm 3), .ref (adm 4), .int m4, .ref (adm 5), .int m6, .ref (adm 6), .ref (adm 7), .ref (adm 8), .ref (adm 9), .ref (adm 10), .ref (adm 11), .ref (adm 12), .int m14, .ref (adm 13), .int m16, .ref (adm 14), .ref (adm 15), .int m19, .ref (adm 16), .ref (adm 17), .int m22, .int 0, .long m24, .long m25, .int m26, .int m27])), ((adm 1), .inl (cI, 4, .inl m0)), ((adm 2), .inl (cI, 4, .inl m1)), ((adm 3), .inl (cI, 4, .inl m2)), ((adm 4), .inl (cI, 4, .inl m3)), ((adm 5), .inl (cI, 48, .inl m5)), ((adm 7), .inl (cJ, 31, .inr (.inl m8))), ((adm 9), .inl (cI, 500, .inl m10)), ((adm 10), .inl (cI, 500, .inl m11)), ((adm 11), .inl (cJ, 500, .inr (.inl m12))), ((adm 12), .inl (cJ, 500, .inr (.inl m13))), ((adm 13), .inl (cJ, 9331, .inr (.inl m15))), ((adm 14), .inl (cJ, 8, .inr (.inl m17))), ((adm 15), .inl (cI, 10, .inl m18)), ((adm 16), .inl (cJ, 8, .inr (.inl m20))), ((adm 17), .inl (cJ, 8, .inr (.inl m21)))])) (va_runS (As := [.ref (adm 6), .ref (adm 8)]) (rest := []) ⟨hx, hb, hml, hown, hts⟩ (c_X3_copy l D cI cJ cZ ((adm 6)) ((adm 8)) m7 m9 r4 hgr4 _) (va_cwS 2 hts gX3_ring_X3_copy rfl rfl rfl (by decide +kernel) ⟨Nat.le_of_ble_eq_true rfl, Nat.le_of_ble_eq_true rfl⟩) ⟨PreW.blind, (xPre hK hP hD [6, 8] rfl (by decide) _)⟩ rfl rfl hl.1 rfl (lv_room (Nat.le_of_ble_eq_true rfl)) dX3_ring_33 ⟨Nat.le_of_ble_eq_true rfl, Nat.le_of_ble_eq_true rfl⟩) hP hD hS hA [6, 8] [0, 1, 2, 3, 4, 5, 7, 9, 10, 11, 12, 13, 14, 15, 16, 17] [0, 1, 2, 3, 4, 5, 16, 6, 17, 7, 8, 9, 10, 11, 12, 13, 14, 15] rfl rfl (by decide) (by decide) rfl (by decide) (fun H locs hP hD hS => ?_)
      refine lv_aload_n hx hb dX3_ring_36 rfl (lv_at hl 0 rfl) ?_
      refine lv_iconst (v := 0) hx hb dX3_ring_37 (by decide) ?_
      refine va_put (D := D) (ci := 3) (v := .int 0) (ty := .boolean) (C := RX3) (T := TX3) (N := 28) hx hb hts hinX3 tyX3 tyX3_ok nmX3 hown hK.1 hP hD hS 0 rfl rfl 14 (by decide) hw4 (fun _ h9 => h9) rfl (by decide +kernel) rfl rfl (Nat.le_of_ble_eq_true rfl) dX3_ring_38 (fun H locs hP hD hS => ?_)
      replace hP : va_P D vwCl (wMc cI cJ adm m0 m1 m2 m3 m4 m5 m6 m7 m8 r4 m10 m11 m12 m13 0 m15 m16 m17 m18 m19 m20 m21 m22 0 m24 m25 m26 m27) H := hP
      replace hD : va_D A (wMc cI cJ adm m0 m1 m2 m3 m4 m5 m6 m7 m8 r4 m10 m11 m12 m13 0 m15 m16 m17 m18 m19 m20 m21 m22 0 m24 m25 m26 m27) := hD
      refine lv_aload_n hx hb dX3_ring_41 rfl (lv_at hl 0 rfl) ?_
      refine lv_iload_n hx hb dX3_ring_42 rfl (lv_at hl 1 rfl) ?_
      replace hf := bdE hf
      obtain ⟨r5, hgr5, hf⟩ := hf
      refine xIw (va_runV (As := [.int p1]) (rest := []) ⟨hx, hb, hml, hown, hts⟩ (c_X3_seek l D cI cJ cZ adm m0 m1 m2 m3 m4 m5 m6 m7 m8 r4 m10 m11 m12 m13 0 m15 m16 m17 m18 m19 m20 m21 m22 0 m24 m25 m26 m27 p1 r5 hgr5 _) (cwV 1 hts gX3_ring_X3_seek rfl rfl rfl (by decide +kernel) ⟨Nat.le_of_ble_eq_true rfl, Nat.le_of_ble_eq_true rfl⟩) ⟨PreW.blind, xRecv (q0 := 0) hK hP rfl rfl, (xPrew hK hP hD _)⟩ rfl rfl hl.1 rfl (lv_room (Nat.le_of_ble_eq_true rfl)) dX3_ring_43 ⟨Nat.le_of_ble_eq_true rfl, Nat.le_of_ble_eq_true rfl⟩) hD hS hA (fun H locs hP hD hS => ?_)
      replace hP : va_P D vwCl (wMc cI cJ adm m0 m1 m2 m3 m4 m5 m6 r5.2.1 r5.2.2.1 r4 r5.2.2.2.1 r5.2.2.2.2.1 r5.2.2.2.2.2.1 r5.2.2.2.2.2.2.1 0 r5.2.2.2.2.2.2.2.1 r5.2.2.2.2.2.2.2.2.1 r5.2.2.2.2.2.2.2.2.2.1 m18 m19 m20 m21 m22 0 r5.2.2.2.2.2.2.2.2.2.2.1 r5.2.2.2.2.2.2.2.2.2.2.2.1 r5.2.2.2.2.2.2.2.2.2.2.2.2.1 r5.2.2.2.2.2.2.2.2.2.2.2.2.2) H := hP
      replace hD : va_D A (wMc cI cJ adm m0 m1 m2 m3 m4 m5 m6 r5.2.1 r5.2.2.1 r4 r5.2.2.2.1 r5.2.2.2.2.1 r5.2.2.2.2.2.1 r5.2.2.2.2.2.2.1 0 r5.2.2.2.2.2.2.2.1 r5.2.2.2.2.2.2.2.2.1 r5.2.2.2.2.2.2.2.2.2.1 m18 m19 m20 m21 m22 0 r5.2.2.2.2.2.2.2.2.2.2.1 r5.2.2.2.2.2.2.2.2.2.2.2.1 r5.2.2.2.2.2.2.2.2.2.2.2.2.1 r5.2.2.2.2.2.2.2.2.2.2.2.2.2) := hD
      refine lv_istore_n (lv' := [(2, .int r5.1), (0, .ref (adm 0)), (1, .int p1)]) hx hb dX3_ring_46 rfl hl (by decide) rfl (fun ls hl => ?_)
      refine lv_aload_n hx hb dX3_ring_47 rfl (lv_at hl 1 rfl) ?_
      refine lv_iconst (v := 1) hx hb dX3_ring_48 (by decide) ?_
      refine va_put (D := D) (ci := 3) (v := .int 1) (ty := .boolean) (C := RX3) (T := TX3) (N := 28) hx hb hts hinX3 tyX3 tyX3_ok nmX3 hown hK.1 hP hD hS 0 rfl rfl 14 (by decide) hw4 (fun _ h9 => h9) rfl (by decide +kernel) rfl rfl (Nat.le_of_ble_eq_true rfl) dX3_ring_49 (fun H locs hP hD hS => ?_)
      replace hP : va_P D vwCl (wMc cI cJ adm m0 m1 m2 m3 m4 m5 m6 r5.2.1 r5.2.2.1 r4 r5.2.2.2.1 r5.2.2.2.2.1 r5.2.2.2.2.2.1 r5.2.2.2.2.2.2.1 1 r5.2.2.2.2.2.2.2.1 r5.2.2.2.2.2.2.2.2.1 r5.2.2.2.2.2.2.2.2.2.1 m18 m19 m20 m21 m22 0 r5.2.2.2.2.2.2.2.2.2.2.1 r5.2.2.2.2.2.2.2.2.2.2.2.1 r5.2.2.2.2.2.2.2.2.2.2.2.2.1 r5.2.2.2.2.2.2.2.2.2.2.2.2.2) H := hP
      replace hD : va_D A (wMc cI cJ adm m0 m1 m2 m3 m4 m5 m6 r5.2.1 r5.2.2.1 r4 r5.2.2.2.1 r5.2.2.2.2.1 r5.2.2.2.2.2.1 r5.2.2.2.2.2.2.1 1 r5.2.2.2.2.2.2.2.1 r5.2.2.2.2.2.2.2.2.1 r5.2.2.2.2.2.2.2.2.2.1 m18 m19 m20 m21 m22 0 r5.2.2.2.2.2.2.2.2.2.2.1 r5.2.2.2.2.2.2.2.2.2.2.2.1 r5.2.2.2.2.2.2.2.2.2.2.2.2.1 r5.2.2.2.2.2.2.2.2.2.2.2.2.2) := hD
      refine lv_aload_n hx hb dX3_ring_52 rfl (lv_at hl 1 rfl) ?_
      refine va_get (D := D) (ci := 3) (v := .ref (adm 8)) (C := RX3) (T := TX3) (N := 28) hx hb hts hinX3 hown hK.1 hP 0 rfl rfl 9 (by decide) hw3 (fun _ h9 => h9) rfl dX3_ring_53 ?_
      refine lv_aload_n hx hb dX3_ring_56 rfl (lv_at hl 1 rfl) ?_
      refine va_get (D := D) (ci := 3) (v := .ref (adm 6)) (C := RX3) (T := TX3) (N := 28) hx hb hts hinX3 hown hK.1 hP 0 rfl rfl 7 (by decide) hw2 (fun _ h9 => h9) rfl dX3_ring_57 ?_
      replace hf := bdE hf
      obtain ⟨r6, hgr6, hf⟩ := hf
      refine xV (w2 := (wMc cI cJ adm m0 m1 m2 m3 m4 m5 m6 r6 r5.2.2.1 r4 r5.2.2.2.1 r5.2.2.2.2.1 r5.2.2.2.2.2.1 r5.2.2.2.2.2.2.1 1 r5.2.2.2.2.2.2.2.1 r5.2.2.2.2.2.2.2.2.1 r5.2.2.2.2.2.2.2.2.2.1 m18 m19 m20 m21 m22 0 r5.2.2.2.2.2.2.2.2.2.2.1 r5.2.2.2.2.2.2.2.2.2.2.2.1 r5.2.2.2.2.2.2.2.2.2.2.2.2.1 r5.2.2.2.2.2.2.2.2.2.2.2.2.2)) (wr := ([((adm 0), .inr (3, [.ref (adm 1), .ref (adm 2), .ref (adm 3), .ref (adm 4), .int m4, .ref (adm 5), .int m6, .ref (adm 6), .ref (adm 7), .ref (adm 8), .ref (adm 9), .ref (adm 10), .ref (adm 11), .ref (adm 12), .int 1, .ref (adm 13), .int r5.2.2.2.2.2.2.2.2.1, .ref (adm 14), .ref (adm 15), .int m19, .ref (adm 16), .ref (adm 17), .int m22, .int 0, .long r5.2.2.2.2.2.2.2.2.2.2.1, .long r5.2.2.2.2.2.2.2.2.2.2.2.1, .int r5.2.2.2.2.2.2.2.2.2.2.2.2.1, .int r5.2.2.2.2.2.2.2.2.2.2.2.2.2])), ((adm 1), .inl (cI, 4, .inl m0)), ((adm 2), .inl (cI, 4, .inl m1)), ((adm 3), .inl (cI, 4, .inl m2)), ((adm 4), .inl (cI, 4, .inl m3)), ((adm 5), .inl (cI, 48, .inl m5)), ((adm 7), .inl (cJ, 31, .inr (.inl r5.2.2.1))), ((adm 9), .inl (cI, 500, .inl r5.2.2.2.1)), ((adm 10), .inl (cI, 500, .inl r5.2.2.2.2.1)), ((adm 11), .inl (cJ, 500, .inr (.inl r5.2.2.2.2.2.1))), ((adm 12), .inl (cJ, 500, .inr (.inl r5.2.2.2.2.2.2.1))), ((adm 13), .inl (cJ, 9331, .inr (.inl r5.2.2.2.2.2.2.2.1))), ((adm 14), .inl (cJ, 8, .inr (.inl r5.2.2.2.2.2.2.2.2.2.1))), ((adm 15), .inl (cI, 10, .inl m18)), ((adm 16), .inl (cJ, 8, .inr (.inl m20))), ((adm 17), .inl (cJ, 8, .inr (.inl m21)))])) (va_runS (As := [.ref (adm 8), .ref (adm 6)]) (rest := []) ⟨hx, hb, hml, hown, hts⟩ (c_X3_copy l D cI cJ cZ ((adm 8)) ((adm 6)) r4 r5.2.1 r6 hgr6 _) (va_cwS 2 hts gX3_ring_X3_copy rfl rfl rfl (by decide +kernel) ⟨Nat.le_of_ble_eq_true rfl, Nat.le_of_ble_eq_true rfl⟩) ⟨PreW.blind, (xPre hK hP hD [8, 6] rfl (by decide) _)⟩ rfl rfl hl.1 rfl (lv_room (Nat.le_of_ble_eq_true rfl)) dX3_ring_60 ⟨Nat.le_of_ble_eq_true rfl, Nat.le_of_ble_eq_true rfl⟩) hP hD hS hA [8, 6] [0, 1, 2, 3, 4, 5, 7, 9, 10, 11, 12, 13, 14, 15, 16, 17] [0, 1, 2, 3, 4, 5, 17, 6, 16, 7, 8, 9, 10, 11, 12, 13, 14, 15] rfl rfl (by decide) (by decide) rfl (by decide) (fun H locs hP hD hS => ?_)
      refine lv_iload_n hx hb dX3_ring_63 rfl (lv_at hl 0 rfl) ?_
      obtain rfl := Option.some.inj hf
      exact retI hx hb hr hlocks hP hD hS dX3_ring_64
    · replace hf := ifN q3 hf
      refine lv_iconst (v := (-1)) hx hb dX3_ring_23 (by decide) ?_
      obtain rfl := Option.some.inj hf
      exact retI hx hb hr hlocks hP hD hS dX3_ring_24

def f_X3_count (m0 : Ar) (m1 : Ar) (m2 : Ar) (m3 : Ar) (m4 : Int32) (m5 : Ar) (m6 : Int32) (m7 : Al) (m8 : Al) (m9 : Al) (m10 : Ar) (m11 : Ar) (m12 : Al) (m13 : Al) (m14 : Int32) (m19 : Int32) (m22 : Int32) (m24 : Int64) (m25 : Int64) (m26 : Int32) (m27 : Int32) (p1 : Int32) : Option (Int32 × Al × Al × Al × Ar × Ar × Al × Al × Int32 × Int32 × Int64 × Int64 × Int32 × Int32) :=
if p1 = 0 then
some (m4, m7, m8, m9, m10, m11, m12, m13, m14, 0, m24, m25, m26, m27)
else
if p1 = 1 then
some (m6, m7, m8, m9, m10, m11, m12, m13, m14, 0, m24, m25, m26, m27)
else
if p1 = 2 then
gd (ib 30 31) (
some ((m7 (30 : Int32).toNatClampNeg).toInt32, m7, m8, m9, m10, m11, m12, m13, m14, 0, m24, m25, m26, m27))
else
if p1 = 3 then
gd (ib 20 31) (
some ((m7 (20 : Int32).toNatClampNeg).toInt32, m7, m8, m9, m10, m11, m12, m13, m14, 0, m24, m25, m26, m27))
else
if p1 = 4 then
gd (ib 21 31) (
some ((m7 (21 : Int32).toNatClampNeg).toInt32, m7, m8, m9, m10, m11, m12, m13, m14, 0, m24, m25, m26, m27))
else
if p1 = 5 then
(f_X3_wouldBeSpent m0 m1 m2 m3 m4 m5 m6 m7 m8 m9 m10 m11 m12 m13 m14 m24 m25 m26 m27).bind (fun r10 =>
if (b2i r10.1) = 0 then
some (0, r10.2.1, r10.2.2.1, r10.2.2.2.1, r10.2.2.2.2.1, r10.2.2.2.2.2.1, r10.2.2.2.2.2.2.1, r10.2.2.2.2.2.2.2.1, r10.2.2.2.2.2.2.2.2.1, 0, r10.2.2.2.2.2.2.2.2.2.1, r10.2.2.2.2.2.2.2.2.2.2.1, r10.2.2.2.2.2.2.2.2.2.2.2.1, r10.2.2.2.2.2.2.2.2.2.2.2.2)
else
some (1, r10.2.1, r10.2.2.1, r10.2.2.2.1, r10.2.2.2.2.1, r10.2.2.2.2.2.1, r10.2.2.2.2.2.2.1, r10.2.2.2.2.2.2.2.1, r10.2.2.2.2.2.2.2.2.1, 0, r10.2.2.2.2.2.2.2.2.2.1, r10.2.2.2.2.2.2.2.2.2.2.1, r10.2.2.2.2.2.2.2.2.2.2.2.1, r10.2.2.2.2.2.2.2.2.2.2.2.2))
else
if p1 = 6 then
some (m19, m7, m8, m9, m10, m11, m12, m13, m14, 0, m24, m25, m26, m27)
else
if p1 = 7 then
some (m22, m7, m8, m9, m10, m11, m12, m13, m14, 0, m24, m25, m26, m27)
else
some ((-1), m7, m8, m9, m10, m11, m12, m13, m14, 0, m24, m25, m26, m27)
abbrev rmX3_count : Room := { frames := 125, cells := 0, slots := 0, locals := 2888 }
set_option maxHeartbeats 40000000 in
set_option maxRecDepth 100000 in
theorem c_X3_count (l : Launch) (D : va_G) (cI cJ cZ : ClassId) (adm : Nat → Nat) (m0 : Ar) (m1 : Ar) (m2 : Ar) (m3 : Ar) (m4 : Int32) (m5 : Ar) (m6 : Int32) (m7 : Al) (m8 : Al) (m9 : Al) (m10 : Ar) (m11 : Ar) (m12 : Al) (m13 : Al) (m14 : Int32) (m15 : Al) (m16 : Int32) (m17 : Al) (m18 : Ar) (m19 : Int32) (m20 : Al) (m21 : Al) (m22 : Int32) (m23 : Int32) (m24 : Int64) (m25 : Int64) (m26 : Int32) (m27 : Int32) (p1 : Int32) (o : (Int32 × Al × Al × Al × Ar × Ar × Al × Al × Int32 × Int32 × Int64 × Int64 × Int32 × Int32)) (hf : f_X3_count m0 m1 m2 m3 m4 m5 m6 m7 m8 m9 m10 m11 m12 m13 m14 m19 m22 m24 m25 m26 m27 p1 = some o) : CtI l yX3_count wsX3_count rmX3_count D cI cJ cZ [.ref (adm 0), .int p1] (wMc cI cJ adm m0 m1 m2 m3 m4 m5 m6 m7 m8 m9 m10 m11 m12 m13 m14 m15 m16 m17 m18 m19 m20 m21 m22 m23 m24 m25 m26 m27) (wMc cI cJ adm m0 m1 m2 m3 m4 m5 m6 o.2.1 o.2.2.1 o.2.2.2.1 o.2.2.2.2.1 o.2.2.2.2.2.1 o.2.2.2.2.2.2.1 o.2.2.2.2.2.2.2.1 o.2.2.2.2.2.2.2.2.1 m15 m16 m17 m18 m19 m20 m21 m22 o.2.2.2.2.2.2.2.2.2.1 o.2.2.2.2.2.2.2.2.2.2.1 o.2.2.2.2.2.2.2.2.2.2.2.1 o.2.2.2.2.2.2.2.2.2.2.2.2.1 o.2.2.2.2.2.2.2.2.2.2.2.2.2) o.1 := by
  intro sz
  refine Met.ofW (cc := cX3_count) (maxL := 2) (ret := (some .int)) (by decide) rfl ?_
  intro p e s m args below meth c s₁ B hml hv
  obtain ⟨rfl, hsz, hP, hK, hD0⟩ := hv
  have hx := B.exec
  have hb := B.bytes
  have hr := B.returns
  have hts := atoms_spec (ws := wsX3_count) B.pre
  have hown : s.vm.findClass RX3 = some m.cls := findClass_of_methodNamed B.named
  have hlocks := B.notSynchronized
  subst hsz
  have hD := hD0.self (sz := s.heap.size)
  clear hD0
  generalize hAe : va_A (wMc cI cJ adm m0 m1 m2 m3 m4 m5 m6 m7 m8 m9 m10 m11 m12 m13 m14 m15 m16 m17 m18 m19 m20 m21 m22 m23 m24 m25 m26 m27) s.heap.size = A at hD ⊢
  have hA : ∀ q : Nat, s.heap.size ≤ q → A q := fun q h => by rw [← hAe]; exact Or.inr h
  have hS : va_S A s.heap s.heap [] := va_S.rf
  have hinX3 : ∀ w ∈ wsX30, w ∈ wsX3_count := by decide +kernel
  have hw0 : (Cond.fieldLink RX3 69 "SwingCircuitsModel" "thrown" "I").before _ s = true := hts _ (by decide +kernel)
  have hw1 : (Cond.fieldLink RX3 152 "SwingCircuitsModel" "measured" "I").before _ s = true := hts _ (by decide +kernel)
  have hw2 : (Cond.fieldLink RX3 149 "SwingCircuitsModel" "drawn" "I").before _ s = true := hts _ (by decide +kernel)
  have hw3 : (Cond.fieldLink RX3 25 "SwingCircuitsModel" "now" "[J").before _ s = true := hts _ (by decide +kernel)
  have hw4 : (Cond.fieldLink RX3 101 "SwingCircuitsModel" "linkMany" "I").before _ s = true := hts _ (by decide +kernel)
  have hw5 : (Cond.fieldLink RX3 73 "SwingCircuitsModel" "cells" "I").before _ s = true := hts _ (by decide +kernel)
  have hl := lv_entry ([.ref (adm 0), .int p1]) (n := 2) (Nat.le_of_ble_eq_true rfl)
  rw [lg_entry_eq]
  generalize (lg_sl ([.ref (adm 0), .int p1]) ++ List.replicate (2 - (lg_sl ([.ref (adm 0), .int p1])).length) Slot.unset).toArray = ls at hl ⊢
  replace hl : lv_has ls 2 [(0, .ref (adm 0)), (1, .int p1)] := hl
  unfold f_X3_count at hf
  refine lv_aload_n hx hb dX3_count_0 rfl (lv_at hl 0 rfl) ?_
  refine lv_iconst (v := 0) hx hb dX3_count_1 (by decide) ?_
  refine va_put (D := D) (ci := 3) (v := .int 0) (ty := .int) (C := RX3) (T := TX3) (N := 28) hx hb hts hinX3 tyX3 tyX3_ok nmX3 hown hK.1 hP hD hS 0 rfl rfl 23 (by decide) hw0 (fun _ h9 => h9) rfl (by decide +kernel) rfl rfl (Nat.le_of_ble_eq_true rfl) dX3_count_2 (fun H locs hP hD hS => ?_)
  replace hP : va_P D vwCl (wMc cI cJ adm m0 m1 m2 m3 m4 m5 m6 m7 m8 m9 m10 m11 m12 m13 m14 m15 m16 m17 m18 m19 m20 m21 m22 0 m24 m25 m26 m27) H := hP
  replace hD : va_D A (wMc cI cJ adm m0 m1 m2 m3 m4 m5 m6 m7 m8 m9 m10 m11 m12 m13 m14 m15 m16 m17 m18 m19 m20 m21 m22 0 m24 m25 m26 m27) := hD
  refine lv_iload_n hx hb dX3_count_5 rfl (lv_at hl 1 rfl) ?_
  by_cases q1 : p1 = 0
  · replace hf := ifT q1 hf
    refine lv_tableIn (off := 46) (tgt := 52) hx hb dX3_count_6 (by rw [q1]; decide) (by rw [q1]; decide) (by rw [q1]; rfl) (by decide) ?_
    refine lv_aload_n hx hb dX3_count_52 rfl (lv_at hl 0 rfl) ?_
    refine va_get (D := D) (ci := 3) (v := .int m4) (C := RX3) (T := TX3) (N := 28) hx hb hts hinX3 hown hK.1 hP 0 rfl rfl 4 (by decide) hw5 (fun _ h9 => h9) rfl dX3_count_53 ?_
    obtain rfl := Option.some.inj hf
    exact retI hx hb hr hlocks hP hD hS dX3_count_56
  · replace hf := ifF q1 hf
    by_cases q2 : p1 = 1
    · replace hf := ifT q2 hf
      refine lv_tableIn (off := 51) (tgt := 57) hx hb dX3_count_6 (by rw [q2]; decide) (by rw [q2]; decide) (by rw [q2]; rfl) (by decide) ?_
      refine lv_aload_n hx hb dX3_count_57 rfl (lv_at hl 0 rfl) ?_
      refine va_get (D := D) (ci := 3) (v := .int m6) (C := RX3) (T := TX3) (N := 28) hx hb hts hinX3 hown hK.1 hP 0 rfl rfl 6 (by decide) hw4 (fun _ h9 => h9) rfl dX3_count_58 ?_
      obtain rfl := Option.some.inj hf
      exact retI hx hb hr hlocks hP hD hS dX3_count_61
    · replace hf := ifF q2 hf
      by_cases q3 : p1 = 2
      · replace hf := ifT q3 hf
        refine lv_tableIn (off := 56) (tgt := 62) hx hb dX3_count_6 (by rw [q3]; decide) (by rw [q3]; decide) (by rw [q3]; rfl) (by decide) ?_
        refine lv_aload_n hx hb dX3_count_62 rfl (lv_at hl 0 rfl) ?_
        refine va_get (D := D) (ci := 3) (v := .ref (adm 6)) (C := RX3) (T := TX3) (N := 28) hx hb hts hinX3 hown hK.1 hP 0 rfl rfl 7 (by decide) hw3 (fun _ h9 => h9) rfl dX3_count_63 ?_
        refine lv_bipush (v := 30) hx hb dX3_count_66 (by decide) ?_
        replace hf := gdE hf
        obtain ⟨h4, hf⟩ := hf
        refine va_lald hx hb hK.1 hP 6 1 rfl rfl (ib_in h4) dX3_count_68 ?_
        refine lv_l2i hx hb dX3_count_69 rfl ?_
        obtain rfl := Option.some.inj hf
        exact retI hx hb hr hlocks hP hD hS dX3_count_70
      · replace hf := ifF q3 hf
        by_cases q5 : p1 = 3
        · replace hf := ifT q5 hf
          refine lv_tableIn (off := 65) (tgt := 71) hx hb dX3_count_6 (by rw [q5]; decide) (by rw [q5]; decide) (by rw [q5]; rfl) (by decide) ?_
          refine lv_aload_n hx hb dX3_count_71 rfl (lv_at hl 0 rfl) ?_
          refine va_get (D := D) (ci := 3) (v := .ref (adm 6)) (C := RX3) (T := TX3) (N := 28) hx hb hts hinX3 hown hK.1 hP 0 rfl rfl 7 (by decide) hw3 (fun _ h9 => h9) rfl dX3_count_72 ?_
          refine lv_bipush (v := 20) hx hb dX3_count_75 (by decide) ?_
          replace hf := gdE hf
          obtain ⟨h6, hf⟩ := hf
          refine va_lald hx hb hK.1 hP 6 1 rfl rfl (ib_in h6) dX3_count_77 ?_
          refine lv_l2i hx hb dX3_count_78 rfl ?_
          obtain rfl := Option.some.inj hf
          exact retI hx hb hr hlocks hP hD hS dX3_count_79
        · replace hf := ifF q5 hf
          by_cases q7 : p1 = 4
          · replace hf := ifT q7 hf
            refine lv_tableIn (off := 74) (tgt := 80) hx hb dX3_count_6 (by rw [q7]; decide) (by rw [q7]; decide) (by rw [q7]; rfl) (by decide) ?_
            refine lv_aload_n hx hb dX3_count_80 rfl (lv_at hl 0 rfl) ?_
            refine va_get (D := D) (ci := 3) (v := .ref (adm 6)) (C := RX3) (T := TX3) (N := 28) hx hb hts hinX3 hown hK.1 hP 0 rfl rfl 7 (by decide) hw3 (fun _ h9 => h9) rfl dX3_count_81 ?_
            refine lv_bipush (v := 21) hx hb dX3_count_84 (by decide) ?_
            replace hf := gdE hf
            obtain ⟨h8, hf⟩ := hf
            refine va_lald hx hb hK.1 hP 6 1 rfl rfl (ib_in h8) dX3_count_86 ?_
            refine lv_l2i hx hb dX3_count_87 rfl ?_
            obtain rfl := Option.some.inj hf
            exact retI hx hb hr hlocks hP hD hS dX3_count_88
          · replace hf := ifF q7 hf
            by_cases q9 : p1 = 5
            · replace hf := ifT q9 hf
              refine lv_tableIn (off := 83) (tgt := 89) hx hb dX3_count_6 (by rw [q9]; decide) (by rw [q9]; decide) (by rw [q9]; rfl) (by decide) ?_
              refine lv_aload_n hx hb dX3_count_89 rfl (lv_at hl 0 rfl) ?_
              replace hf := bdE hf
              obtain ⟨r10, hgr10, hf⟩ := hf
              refine xIw (va_runV (As := []) (rest := []) ⟨hx, hb, hml, hown, hts⟩ (c_X3_wouldBeSpent l D cI cJ cZ adm m0 m1 m2 m3 m4 m5 m6 m7 m8 m9 m10 m11 m12 m13 m14 m15 m16 m17 m18 m19 m20 m21 m22 0 m24 m25 m26 m27 r10 hgr10 _) (cwV 0 hts gX3_count_X3_wouldBeSpent rfl rfl rfl (by decide +kernel) ⟨Nat.le_of_ble_eq_true rfl, Nat.le_of_ble_eq_true rfl⟩) ⟨PreW.blind, xRecv (q0 := 0) hK hP rfl rfl, (xPrew hK hP hD _)⟩ rfl rfl hl.1 rfl (lv_room (Nat.le_of_ble_eq_true rfl)) dX3_count_90 ⟨Nat.le_of_ble_eq_true rfl, Nat.le_of_ble_eq_true rfl⟩) hD hS hA (fun H locs hP hD hS => ?_)
              replace hP : va_P D vwCl (wMc cI cJ adm m0 m1 m2 m3 m4 m5 m6 r10.2.1 r10.2.2.1 r10.2.2.2.1 r10.2.2.2.2.1 r10.2.2.2.2.2.1 r10.2.2.2.2.2.2.1 r10.2.2.2.2.2.2.2.1 r10.2.2.2.2.2.2.2.2.1 m15 m16 m17 m18 m19 m20 m21 m22 0 r10.2.2.2.2.2.2.2.2.2.1 r10.2.2.2.2.2.2.2.2.2.2.1 r10.2.2.2.2.2.2.2.2.2.2.2.1 r10.2.2.2.2.2.2.2.2.2.2.2.2) H := hP
              replace hD : va_D A (wMc cI cJ adm m0 m1 m2 m3 m4 m5 m6 r10.2.1 r10.2.2.1 r10.2.2.2.1 r10.2.2.2.2.1 r10.2.2.2.2.2.1 r10.2.2.2.2.2.2.1 r10.2.2.2.2.2.2.2.1 r10.2.2.2.2.2.2.2.2.1 m15 m16 m17 m18 m19 m20 m21 m22 0 r10.2.2.2.2.2.2.2.2.2.1 r10.2.2.2.2.2.2.2.2.2.2.1 r10.2.2.2.2.2.2.2.2.2.2.2.1 r10.2.2.2.2.2.2.2.2.2.2.2.2) := hD
              refine lv_if_eq (tgt := 100) hx hb dX3_count_93 (by decide) (fun q11 => ?_) (fun q11 => ?_)
              · replace hf := ifT q11 hf
                refine lv_iconst (v := 0) hx hb dX3_count_100 (by decide) ?_
                obtain rfl := Option.some.inj hf
                exact retI hx hb hr hlocks hP hD hS dX3_count_101
              · replace hf := ifF q11 hf
                refine lv_iconst (v := 1) hx hb dX3_count_96 (by decide) ?_
                refine lv_goto (tgt := 101) hx hb dX3_count_97 (by decide) ?_
                obtain rfl := Option.some.inj hf
                exact retI hx hb hr hlocks hP hD hS dX3_count_101
            · replace hf := ifF q9 hf
              by_cases q12 : p1 = 6
              · replace hf := ifT q12 hf
                refine lv_tableIn (off := 96) (tgt := 102) hx hb dX3_count_6 (by rw [q12]; decide) (by rw [q12]; decide) (by rw [q12]; rfl) (by decide) ?_
                refine lv_aload_n hx hb dX3_count_102 rfl (lv_at hl 0 rfl) ?_
                refine va_get (D := D) (ci := 3) (v := .int m19) (C := RX3) (T := TX3) (N := 28) hx hb hts hinX3 hown hK.1 hP 0 rfl rfl 19 (by decide) hw2 (fun _ h9 => h9) rfl dX3_count_103 ?_
                obtain rfl := Option.some.inj hf
                exact retI hx hb hr hlocks hP hD hS dX3_count_106
              · replace hf := ifF q12 hf
                by_cases q13 : p1 = 7
                · replace hf := ifT q13 hf
                  refine lv_tableIn (off := 101) (tgt := 107) hx hb dX3_count_6 (by rw [q13]; decide) (by rw [q13]; decide) (by rw [q13]; rfl) (by decide) ?_
                  refine lv_aload_n hx hb dX3_count_107 rfl (lv_at hl 0 rfl) ?_
                  refine va_get (D := D) (ci := 3) (v := .int m22) (C := RX3) (T := TX3) (N := 28) hx hb hts hinX3 hown hK.1 hP 0 rfl rfl 22 (by decide) hw1 (fun _ h9 => h9) rfl dX3_count_108 ?_
                  obtain rfl := Option.some.inj hf
                  exact retI hx hb hr hlocks hP hD hS dX3_count_111
                · replace hf := ifF q13 hf
                  refine lv_tableOut (tgt := 112) hx hb dX3_count_6 (by have nq1 := lv_neT q1 (a := 0) (by decide); have nq2 := lv_neT q2 (a := 1) (by decide); have nq3 := lv_neT q3 (a := 2) (by decide); have nq5 := lv_neT q5 (a := 3) (by decide); have nq7 := lv_neT q7 (a := 4) (by decide); have nq9 := lv_neT q9 (a := 5) (by decide); have nq12 := lv_neT q12 (a := 6) (by decide); have nq13 := lv_neT q13 (a := 7) (by decide); omega) (by decide) ?_
                  refine lv_iconst (v := (-1)) hx hb dX3_count_112 (by decide) ?_
                  obtain rfl := Option.some.inj hf
                  exact retI hx hb hr hlocks hP hD hS dX3_count_113
