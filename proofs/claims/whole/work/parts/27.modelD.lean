def f_X3_cell (m0 : Ar) (m1 : Ar) (m2 : Ar) (m3 : Ar) (m4 : Int32) (m7 : Al) (p1 : Int32) (p2 : Int32) (p3 : Int32) (p4 : Int32) : Option (Int32 × Ar × Ar × Ar × Ar × Int32 × Al × Int32) :=
(f_X3_in p1 ((-50)) 50).bind (fun r1 =>
if (b2i r1) = 0 then
some ((-1), m0, m1, m2, m3, m4, m7, 0)
else
(f_X3_in p2 ((-50)) 50).bind (fun r3 =>
if (b2i r3) = 0 then
some ((-1), m0, m1, m2, m3, m4, m7, 0)
else
if p2 ≤ p1 then
some ((-1), m0, m1, m2, m3, m4, m7, 0)
else
(f_X3_in p3 1 60).bind (fun r6 =>
if (b2i r6) = 0 then
some ((-1), m0, m1, m2, m3, m4, m7, 0)
else
(f_X3_in p4 1 60).bind (fun r8 =>
if (b2i r8) = 0 then
some ((-1), m0, m1, m2, m3, m4, m7, 0)
else
if ¬ m4 = 4 then
gd (ib m4 4) (
bnd (m4 + 1) (fun v12 =>
(f_X3_resetAll (upd m0 m4.toNatClampNeg p1) m7).bind (fun r13 =>
some (v12 - 1, upd m0 m4.toNatClampNeg p1, upd m1 m4.toNatClampNeg p2, upd m2 m4.toNatClampNeg p3, upd m3 m4.toNatClampNeg p4, v12, r13, 0))))
else
some ((-1), m0, m1, m2, m3, m4, m7, 0)))))
abbrev rmX3_cell : Room := { frames := 1, cells := 0, slots := 0, locals := 22 }
set_option maxHeartbeats 40000000 in
set_option maxRecDepth 100000 in
theorem c_X3_cell (l : Launch) (D : va_G) (cI cJ cZ : ClassId) (adm : Nat → Nat) (m0 : Ar) (m1 : Ar) (m2 : Ar) (m3 : Ar) (m4 : Int32) (m5 : Ar) (m6 : Int32) (m7 : Al) (m8 : Al) (m9 : Al) (m10 : Ar) (m11 : Ar) (m12 : Al) (m13 : Al) (m14 : Int32) (m15 : Al) (m16 : Int32) (m17 : Al) (m18 : Ar) (m19 : Int32) (m20 : Al) (m21 : Al) (m22 : Int32) (m23 : Int32) (m24 : Int64) (m25 : Int64) (m26 : Int32) (m27 : Int32) (p1 : Int32) (p2 : Int32) (p3 : Int32) (p4 : Int32) (o : (Int32 × Ar × Ar × Ar × Ar × Int32 × Al × Int32)) (hf : f_X3_cell m0 m1 m2 m3 m4 m7 p1 p2 p3 p4 = some o) : CtI l yX3_cell wsX3_cell rmX3_cell D cI cJ cZ [.ref (adm 0), .int p1, .int p2, .int p3, .int p4] (wMc cI cJ adm m0 m1 m2 m3 m4 m5 m6 m7 m8 m9 m10 m11 m12 m13 m14 m15 m16 m17 m18 m19 m20 m21 m22 m23 m24 m25 m26 m27) (wMc cI cJ adm o.2.1 o.2.2.1 o.2.2.2.1 o.2.2.2.2.1 o.2.2.2.2.2.1 m5 m6 o.2.2.2.2.2.2.1 m8 m9 m10 m11 m12 m13 m14 m15 m16 m17 m18 m19 m20 m21 m22 o.2.2.2.2.2.2.2 m24 m25 m26 m27) o.1 := by
  intro sz
  refine Met.ofW (cc := cX3_cell) (maxL := 5) (ret := (some .int)) (by decide) rfl ?_
  intro p e s m args below meth c s₁ B hml hv
  obtain ⟨rfl, hsz, hP, hK, hD0⟩ := hv
  have hx := B.exec
  have hb := B.bytes
  have hr := B.returns
  have hts := atoms_spec (ws := wsX3_cell) B.pre
  have hown : s.vm.findClass RX3 = some m.cls := findClass_of_methodNamed B.named
  have hlocks := B.notSynchronized
  subst hsz
  have hD := hD0.self (sz := s.heap.size)
  clear hD0
  generalize hAe : va_A (wMc cI cJ adm m0 m1 m2 m3 m4 m5 m6 m7 m8 m9 m10 m11 m12 m13 m14 m15 m16 m17 m18 m19 m20 m21 m22 m23 m24 m25 m26 m27) s.heap.size = A at hD ⊢
  have hA : ∀ q : Nat, s.heap.size ≤ q → A q := fun q h => by rw [← hAe]; exact Or.inr h
  have hS : va_S A s.heap s.heap [] := va_S.rf
  have hinX3 : ∀ w ∈ wsX30, w ∈ wsX3_cell := by decide +kernel
  have hw0 : (Cond.fieldLink RX3 69 "SwingCircuitsModel" "thrown" "I").before _ s = true := hts _ (by decide +kernel)
  have hw1 : (Cond.fieldLink RX3 73 "SwingCircuitsModel" "cells" "I").before _ s = true := hts _ (by decide +kernel)
  have hw2 : (Cond.fieldLink RX3 9 "SwingCircuitsModel" "low" "[I").before _ s = true := hts _ (by decide +kernel)
  have hw3 : (Cond.fieldLink RX3 13 "SwingCircuitsModel" "high" "[I").before _ s = true := hts _ (by decide +kernel)
  have hw4 : (Cond.fieldLink RX3 16 "SwingCircuitsModel" "rise" "[I").before _ s = true := hts _ (by decide +kernel)
  have hw5 : (Cond.fieldLink RX3 19 "SwingCircuitsModel" "fall" "[I").before _ s = true := hts _ (by decide +kernel)
  have hl := lv_entry ([.ref (adm 0), .int p1, .int p2, .int p3, .int p4]) (n := 5) (Nat.le_of_ble_eq_true rfl)
  rw [lg_entry_eq]
  generalize (lg_sl ([.ref (adm 0), .int p1, .int p2, .int p3, .int p4]) ++ List.replicate (5 - (lg_sl ([.ref (adm 0), .int p1, .int p2, .int p3, .int p4])).length) Slot.unset).toArray = ls at hl ⊢
  replace hl : lv_has ls 5 [(0, .ref (adm 0)), (1, .int p1), (2, .int p2), (3, .int p3), (4, .int p4)] := hl
  unfold f_X3_cell at hf
  refine lv_aload_n hx hb dX3_cell_0 rfl (lv_at hl 0 rfl) ?_
  refine lv_iconst (v := 0) hx hb dX3_cell_1 (by decide) ?_
  refine va_put (D := D) (ci := 3) (v := .int 0) (ty := .int) (C := RX3) (T := TX3) (N := 28) hx hb hts hinX3 tyX3 tyX3_ok nmX3 hown hK.1 hP hD hS 0 rfl rfl 23 (by decide) hw0 (fun _ h9 => h9) rfl (by decide +kernel) rfl rfl (Nat.le_of_ble_eq_true rfl) dX3_cell_2 (fun H locs hP hD hS => ?_)
  replace hP : va_P D vwCl (wMc cI cJ adm m0 m1 m2 m3 m4 m5 m6 m7 m8 m9 m10 m11 m12 m13 m14 m15 m16 m17 m18 m19 m20 m21 m22 0 m24 m25 m26 m27) H := hP
  replace hD : va_D A (wMc cI cJ adm m0 m1 m2 m3 m4 m5 m6 m7 m8 m9 m10 m11 m12 m13 m14 m15 m16 m17 m18 m19 m20 m21 m22 0 m24 m25 m26 m27) := hD
  refine lv_iload_n hx hb dX3_cell_5 rfl (lv_at hl 1 rfl) ?_
  refine lv_bipush (v := (-50)) hx hb dX3_cell_6 (by decide) ?_
  refine lv_bipush (v := 50) hx hb dX3_cell_8 (by decide) ?_
  replace hf := bdE hf
  obtain ⟨r1, hgr1, hf⟩ := hf
  refine xI0 (va_runS (As := [.int p1, .int ((-50)), .int 50]) (rest := []) ⟨hx, hb, hml, hown, hts⟩ (c_X3_in l D cI cJ cZ p1 ((-50)) 50 r1 hgr1 _) (va_cwS 3 hts gX3_cell_X3_in rfl rfl rfl (by decide +kernel) ⟨Nat.le_of_ble_eq_true rfl, Nat.le_of_ble_eq_true rfl⟩) ⟨PreW.blind, (xPre0 hK _)⟩ rfl rfl hl.1 rfl (lv_room (Nat.le_of_ble_eq_true rfl)) dX3_cell_10 ⟨Nat.le_of_ble_eq_true rfl, Nat.le_of_ble_eq_true rfl⟩) hP hS hA (fun H locs hP hS => ?_)
  refine lv_if_eq (tgt := 61) hx hb dX3_cell_13 (by decide) (fun q2 => ?_) (fun q2 => ?_)
  · replace hf := ifT q2 hf
    refine lv_iconst (v := (-1)) hx hb dX3_cell_61 (by decide) ?_
    obtain rfl := Option.some.inj hf
    exact retI hx hb hr hlocks hP hD hS dX3_cell_62
  · replace hf := ifF q2 hf
    refine lv_iload_n hx hb dX3_cell_16 rfl (lv_at hl 2 rfl) ?_
    refine lv_bipush (v := (-50)) hx hb dX3_cell_17 (by decide) ?_
    refine lv_bipush (v := 50) hx hb dX3_cell_19 (by decide) ?_
    replace hf := bdE hf
    obtain ⟨r3, hgr3, hf⟩ := hf
    refine xI0 (va_runS (As := [.int p2, .int ((-50)), .int 50]) (rest := []) ⟨hx, hb, hml, hown, hts⟩ (c_X3_in l D cI cJ cZ p2 ((-50)) 50 r3 hgr3 _) (va_cwS 3 hts gX3_cell_X3_in rfl rfl rfl (by decide +kernel) ⟨Nat.le_of_ble_eq_true rfl, Nat.le_of_ble_eq_true rfl⟩) ⟨PreW.blind, (xPre0 hK _)⟩ rfl rfl hl.1 rfl (lv_room (Nat.le_of_ble_eq_true rfl)) dX3_cell_21 ⟨Nat.le_of_ble_eq_true rfl, Nat.le_of_ble_eq_true rfl⟩) hP hS hA (fun H locs hP hS => ?_)
    refine lv_if_eq (tgt := 61) hx hb dX3_cell_24 (by decide) (fun q4 => ?_) (fun q4 => ?_)
    · replace hf := ifT q4 hf
      refine lv_iconst (v := (-1)) hx hb dX3_cell_61 (by decide) ?_
      obtain rfl := Option.some.inj hf
      exact retI hx hb hr hlocks hP hD hS dX3_cell_62
    · replace hf := ifF q4 hf
      refine lv_iload_n hx hb dX3_cell_27 rfl (lv_at hl 1 rfl) ?_
      refine lv_iload_n hx hb dX3_cell_28 rfl (lv_at hl 2 rfl) ?_
      refine lv_icmp_ge (tgt := 61) hx hb dX3_cell_29 (by decide) (fun q5 => ?_) (fun q5 => ?_)
      · replace hf := ifT q5 hf
        refine lv_iconst (v := (-1)) hx hb dX3_cell_61 (by decide) ?_
        obtain rfl := Option.some.inj hf
        exact retI hx hb hr hlocks hP hD hS dX3_cell_62
      · replace hf := ifF q5 hf
        refine lv_iload_n hx hb dX3_cell_32 rfl (lv_at hl 3 rfl) ?_
        refine lv_iconst (v := 1) hx hb dX3_cell_33 (by decide) ?_
        refine lv_bipush (v := 60) hx hb dX3_cell_34 (by decide) ?_
        replace hf := bdE hf
        obtain ⟨r6, hgr6, hf⟩ := hf
        refine xI0 (va_runS (As := [.int p3, .int 1, .int 60]) (rest := []) ⟨hx, hb, hml, hown, hts⟩ (c_X3_in l D cI cJ cZ p3 1 60 r6 hgr6 _) (va_cwS 3 hts gX3_cell_X3_in rfl rfl rfl (by decide +kernel) ⟨Nat.le_of_ble_eq_true rfl, Nat.le_of_ble_eq_true rfl⟩) ⟨PreW.blind, (xPre0 hK _)⟩ rfl rfl hl.1 rfl (lv_room (Nat.le_of_ble_eq_true rfl)) dX3_cell_36 ⟨Nat.le_of_ble_eq_true rfl, Nat.le_of_ble_eq_true rfl⟩) hP hS hA (fun H locs hP hS => ?_)
        refine lv_if_eq (tgt := 61) hx hb dX3_cell_39 (by decide) (fun q7 => ?_) (fun q7 => ?_)
        · replace hf := ifT q7 hf
          refine lv_iconst (v := (-1)) hx hb dX3_cell_61 (by decide) ?_
          obtain rfl := Option.some.inj hf
          exact retI hx hb hr hlocks hP hD hS dX3_cell_62
        · replace hf := ifF q7 hf
          refine lv_iload hx hb dX3_cell_42 (lv_at hl 4 rfl) ?_
          refine lv_iconst (v := 1) hx hb dX3_cell_44 (by decide) ?_
          refine lv_bipush (v := 60) hx hb dX3_cell_45 (by decide) ?_
          replace hf := bdE hf
          obtain ⟨r8, hgr8, hf⟩ := hf
          refine xI0 (va_runS (As := [.int p4, .int 1, .int 60]) (rest := []) ⟨hx, hb, hml, hown, hts⟩ (c_X3_in l D cI cJ cZ p4 1 60 r8 hgr8 _) (va_cwS 3 hts gX3_cell_X3_in rfl rfl rfl (by decide +kernel) ⟨Nat.le_of_ble_eq_true rfl, Nat.le_of_ble_eq_true rfl⟩) ⟨PreW.blind, (xPre0 hK _)⟩ rfl rfl hl.1 rfl (lv_room (Nat.le_of_ble_eq_true rfl)) dX3_cell_47 ⟨Nat.le_of_ble_eq_true rfl, Nat.le_of_ble_eq_true rfl⟩) hP hS hA (fun H locs hP hS => ?_)
          refine lv_if_eq (tgt := 61) hx hb dX3_cell_50 (by decide) (fun q9 => ?_) (fun q9 => ?_)
          · replace hf := ifT q9 hf
            refine lv_iconst (v := (-1)) hx hb dX3_cell_61 (by decide) ?_
            obtain rfl := Option.some.inj hf
            exact retI hx hb hr hlocks hP hD hS dX3_cell_62
          · replace hf := ifF q9 hf
            refine lv_aload_n hx hb dX3_cell_53 rfl (lv_at hl 0 rfl) ?_
            refine va_get (D := D) (ci := 3) (v := .int m4) (C := RX3) (T := TX3) (N := 28) hx hb hts hinX3 hown hK.1 hP 0 rfl rfl 4 (by decide) hw1 (fun _ h9 => h9) rfl dX3_cell_54 ?_
            refine lv_iconst (v := 4) hx hb dX3_cell_57 (by decide) ?_
            refine lv_icmp_ne (tgt := 63) hx hb dX3_cell_58 (by decide) (fun q10 => ?_) (fun q10 => ?_)
            · replace hf := ifT q10 hf
              refine lv_aload_n hx hb dX3_cell_63 rfl (lv_at hl 0 rfl) ?_
              refine va_get (D := D) (ci := 3) (v := .ref (adm 1)) (C := RX3) (T := TX3) (N := 28) hx hb hts hinX3 hown hK.1 hP 0 rfl rfl 0 (by decide) hw2 (fun _ h9 => h9) rfl dX3_cell_64 ?_
              refine lv_aload_n hx hb dX3_cell_67 rfl (lv_at hl 0 rfl) ?_
              refine va_get (D := D) (ci := 3) (v := .int m4) (C := RX3) (T := TX3) (N := 28) hx hb hts hinX3 hown hK.1 hP 0 rfl rfl 4 (by decide) hw1 (fun _ h9 => h9) rfl dX3_cell_68 ?_
              refine lv_iload_n hx hb dX3_cell_71 rfl (lv_at hl 1 rfl) ?_
              replace hf := gdE hf
              obtain ⟨h11, hf⟩ := hf
              refine va_iast hx hb hK.1 hP hD hS 1 0 rfl rfl (ib_in h11) dX3_cell_72 (fun H locs hP hD hS => ?_)
              replace hP : va_P D vwCl (wMc cI cJ adm (upd m0 m4.toNatClampNeg p1) m1 m2 m3 m4 m5 m6 m7 m8 m9 m10 m11 m12 m13 m14 m15 m16 m17 m18 m19 m20 m21 m22 0 m24 m25 m26 m27) H := hP
              replace hD : va_D A (wMc cI cJ adm (upd m0 m4.toNatClampNeg p1) m1 m2 m3 m4 m5 m6 m7 m8 m9 m10 m11 m12 m13 m14 m15 m16 m17 m18 m19 m20 m21 m22 0 m24 m25 m26 m27) := hD
              refine lv_aload_n hx hb dX3_cell_73 rfl (lv_at hl 0 rfl) ?_
              refine va_get (D := D) (ci := 3) (v := .ref (adm 2)) (C := RX3) (T := TX3) (N := 28) hx hb hts hinX3 hown hK.1 hP 0 rfl rfl 1 (by decide) hw3 (fun _ h9 => h9) rfl dX3_cell_74 ?_
              refine lv_aload_n hx hb dX3_cell_77 rfl (lv_at hl 0 rfl) ?_
              refine va_get (D := D) (ci := 3) (v := .int m4) (C := RX3) (T := TX3) (N := 28) hx hb hts hinX3 hown hK.1 hP 0 rfl rfl 4 (by decide) hw1 (fun _ h9 => h9) rfl dX3_cell_78 ?_
              refine lv_iload_n hx hb dX3_cell_81 rfl (lv_at hl 2 rfl) ?_
              refine va_iast hx hb hK.1 hP hD hS 2 0 rfl rfl (ib_in h11) dX3_cell_82 (fun H locs hP hD hS => ?_)
              replace hP : va_P D vwCl (wMc cI cJ adm (upd m0 m4.toNatClampNeg p1) (upd m1 m4.toNatClampNeg p2) m2 m3 m4 m5 m6 m7 m8 m9 m10 m11 m12 m13 m14 m15 m16 m17 m18 m19 m20 m21 m22 0 m24 m25 m26 m27) H := hP
              replace hD : va_D A (wMc cI cJ adm (upd m0 m4.toNatClampNeg p1) (upd m1 m4.toNatClampNeg p2) m2 m3 m4 m5 m6 m7 m8 m9 m10 m11 m12 m13 m14 m15 m16 m17 m18 m19 m20 m21 m22 0 m24 m25 m26 m27) := hD
              refine lv_aload_n hx hb dX3_cell_83 rfl (lv_at hl 0 rfl) ?_
              refine va_get (D := D) (ci := 3) (v := .ref (adm 3)) (C := RX3) (T := TX3) (N := 28) hx hb hts hinX3 hown hK.1 hP 0 rfl rfl 2 (by decide) hw4 (fun _ h9 => h9) rfl dX3_cell_84 ?_
              refine lv_aload_n hx hb dX3_cell_87 rfl (lv_at hl 0 rfl) ?_
              refine va_get (D := D) (ci := 3) (v := .int m4) (C := RX3) (T := TX3) (N := 28) hx hb hts hinX3 hown hK.1 hP 0 rfl rfl 4 (by decide) hw1 (fun _ h9 => h9) rfl dX3_cell_88 ?_
              refine lv_iload_n hx hb dX3_cell_91 rfl (lv_at hl 3 rfl) ?_
              refine va_iast hx hb hK.1 hP hD hS 3 0 rfl rfl (ib_in h11) dX3_cell_92 (fun H locs hP hD hS => ?_)
              replace hP : va_P D vwCl (wMc cI cJ adm (upd m0 m4.toNatClampNeg p1) (upd m1 m4.toNatClampNeg p2) (upd m2 m4.toNatClampNeg p3) m3 m4 m5 m6 m7 m8 m9 m10 m11 m12 m13 m14 m15 m16 m17 m18 m19 m20 m21 m22 0 m24 m25 m26 m27) H := hP
              replace hD : va_D A (wMc cI cJ adm (upd m0 m4.toNatClampNeg p1) (upd m1 m4.toNatClampNeg p2) (upd m2 m4.toNatClampNeg p3) m3 m4 m5 m6 m7 m8 m9 m10 m11 m12 m13 m14 m15 m16 m17 m18 m19 m20 m21 m22 0 m24 m25 m26 m27) := hD
              refine lv_aload_n hx hb dX3_cell_93 rfl (lv_at hl 0 rfl) ?_
              refine va_get (D := D) (ci := 3) (v := .ref (adm 4)) (C := RX3) (T := TX3) (N := 28) hx hb hts hinX3 hown hK.1 hP 0 rfl rfl 3 (by decide) hw5 (fun _ h9 => h9) rfl dX3_cell_94 ?_
              refine lv_aload_n hx hb dX3_cell_97 rfl (lv_at hl 0 rfl) ?_
              refine va_get (D := D) (ci := 3) (v := .int m4) (C := RX3) (T := TX3) (N := 28) hx hb hts hinX3 hown hK.1 hP 0 rfl rfl 4 (by decide) hw1 (fun _ h9 => h9) rfl dX3_cell_98 ?_
              refine lv_iload hx hb dX3_cell_101 (lv_at hl 4 rfl) ?_
              refine va_iast hx hb hK.1 hP hD hS 4 0 rfl rfl (ib_in h11) dX3_cell_103 (fun H locs hP hD hS => ?_)
              replace hP : va_P D vwCl (wMc cI cJ adm (upd m0 m4.toNatClampNeg p1) (upd m1 m4.toNatClampNeg p2) (upd m2 m4.toNatClampNeg p3) (upd m3 m4.toNatClampNeg p4) m4 m5 m6 m7 m8 m9 m10 m11 m12 m13 m14 m15 m16 m17 m18 m19 m20 m21 m22 0 m24 m25 m26 m27) H := hP
              replace hD : va_D A (wMc cI cJ adm (upd m0 m4.toNatClampNeg p1) (upd m1 m4.toNatClampNeg p2) (upd m2 m4.toNatClampNeg p3) (upd m3 m4.toNatClampNeg p4) m4 m5 m6 m7 m8 m9 m10 m11 m12 m13 m14 m15 m16 m17 m18 m19 m20 m21 m22 0 m24 m25 m26 m27) := hD
              refine lv_aload_n hx hb dX3_cell_104 rfl (lv_at hl 0 rfl) ?_
              refine lv_dup hx hb dX3_cell_105 rfl ?_
              refine va_get (D := D) (ci := 3) (v := .int m4) (C := RX3) (T := TX3) (N := 28) hx hb hts hinX3 hown hK.1 hP 0 rfl rfl 4 (by decide) hw1 (fun _ h9 => h9) rfl dX3_cell_106 ?_
              refine lv_iconst (v := 1) hx hb dX3_cell_109 (by decide) ?_
              refine lv_iadd hx hb dX3_cell_110 ?_
              refine lv_topi (fun v12 ev12 => ?_)
              replace hf := bndE hf ev12
              refine va_put (D := D) (ci := 3) (v := .int v12) (ty := .int) (C := RX3) (T := TX3) (N := 28) hx hb hts hinX3 tyX3 tyX3_ok nmX3 hown hK.1 hP hD hS 0 rfl rfl 4 (by decide) hw1 (fun _ h9 => h9) rfl (by decide +kernel) rfl rfl (Nat.le_of_ble_eq_true rfl) dX3_cell_111 (fun H locs hP hD hS => ?_)
              replace hP : va_P D vwCl (wMc cI cJ adm (upd m0 m4.toNatClampNeg p1) (upd m1 m4.toNatClampNeg p2) (upd m2 m4.toNatClampNeg p3) (upd m3 m4.toNatClampNeg p4) v12 m5 m6 m7 m8 m9 m10 m11 m12 m13 m14 m15 m16 m17 m18 m19 m20 m21 m22 0 m24 m25 m26 m27) H := hP
              replace hD : va_D A (wMc cI cJ adm (upd m0 m4.toNatClampNeg p1) (upd m1 m4.toNatClampNeg p2) (upd m2 m4.toNatClampNeg p3) (upd m3 m4.toNatClampNeg p4) v12 m5 m6 m7 m8 m9 m10 m11 m12 m13 m14 m15 m16 m17 m18 m19 m20 m21 m22 0 m24 m25 m26 m27) := hD
              refine lv_aload_n hx hb dX3_cell_114 rfl (lv_at hl 0 rfl) ?_
              replace hf := bdE hf
              obtain ⟨r13, hgr13, hf⟩ := hf
              refine xVw (va_runV (As := []) (rest := []) ⟨hx, hb, hml, hown, hts⟩ (c_X3_resetAll l D cI cJ cZ adm (upd m0 m4.toNatClampNeg p1) (upd m1 m4.toNatClampNeg p2) (upd m2 m4.toNatClampNeg p3) (upd m3 m4.toNatClampNeg p4) v12 m5 m6 m7 m8 m9 m10 m11 m12 m13 m14 m15 m16 m17 m18 m19 m20 m21 m22 0 m24 m25 m26 m27 r13 hgr13 _) (cwV 0 hts gX3_cell_X3_resetAll rfl rfl rfl (by decide +kernel) ⟨Nat.le_of_ble_eq_true rfl, Nat.le_of_ble_eq_true rfl⟩) ⟨PreW.blind, xRecv (q0 := 0) hK hP rfl rfl, (xPrew hK hP hD _)⟩ rfl rfl hl.1 rfl (lv_room (Nat.le_of_ble_eq_true rfl)) dX3_cell_115 ⟨Nat.le_of_ble_eq_true rfl, Nat.le_of_ble_eq_true rfl⟩) hD hS hA (fun H locs hP hD hS => ?_)
              replace hP : va_P D vwCl (wMc cI cJ adm (upd m0 m4.toNatClampNeg p1) (upd m1 m4.toNatClampNeg p2) (upd m2 m4.toNatClampNeg p3) (upd m3 m4.toNatClampNeg p4) v12 m5 m6 r13 m8 m9 m10 m11 m12 m13 m14 m15 m16 m17 m18 m19 m20 m21 m22 0 m24 m25 m26 m27) H := hP
              replace hD : va_D A (wMc cI cJ adm (upd m0 m4.toNatClampNeg p1) (upd m1 m4.toNatClampNeg p2) (upd m2 m4.toNatClampNeg p3) (upd m3 m4.toNatClampNeg p4) v12 m5 m6 r13 m8 m9 m10 m11 m12 m13 m14 m15 m16 m17 m18 m19 m20 m21 m22 0 m24 m25 m26 m27) := hD
              refine lv_aload_n hx hb dX3_cell_118 rfl (lv_at hl 0 rfl) ?_
              refine va_get (D := D) (ci := 3) (v := .int v12) (C := RX3) (T := TX3) (N := 28) hx hb hts hinX3 hown hK.1 hP 0 rfl rfl 4 (by decide) hw1 (fun _ h9 => h9) rfl dX3_cell_119 ?_
              refine lv_iconst (v := 1) hx hb dX3_cell_122 (by decide) ?_
              refine lv_isub hx hb dX3_cell_123 ?_
              obtain rfl := Option.some.inj hf
              exact retI hx hb hr hlocks hP hD hS dX3_cell_124
            · replace hf := ifN q10 hf
              refine lv_iconst (v := (-1)) hx hb dX3_cell_61 (by decide) ?_
              obtain rfl := Option.some.inj hf
              exact retI hx hb hr hlocks hP hD hS dX3_cell_62

def f_X3_clear (m0 : Ar) (m4 : Int32) (m7 : Al) : Option (Int32 × Int32 × Int32 × Al × Int32) :=
(f_X3_resetAll m0 m7).bind (fun r1 =>
some (m4, 0, 0, r1, 0))
abbrev rmX3_clear : Room := { frames := 1, cells := 0, slots := 0, locals := 21 }
set_option maxHeartbeats 40000000 in
set_option maxRecDepth 100000 in
theorem c_X3_clear (l : Launch) (D : va_G) (cI cJ cZ : ClassId) (adm : Nat → Nat) (m0 : Ar) (m1 : Ar) (m2 : Ar) (m3 : Ar) (m4 : Int32) (m5 : Ar) (m6 : Int32) (m7 : Al) (m8 : Al) (m9 : Al) (m10 : Ar) (m11 : Ar) (m12 : Al) (m13 : Al) (m14 : Int32) (m15 : Al) (m16 : Int32) (m17 : Al) (m18 : Ar) (m19 : Int32) (m20 : Al) (m21 : Al) (m22 : Int32) (m23 : Int32) (m24 : Int64) (m25 : Int64) (m26 : Int32) (m27 : Int32) (o : (Int32 × Int32 × Int32 × Al × Int32)) (hf : f_X3_clear m0 m4 m7 = some o) : CtI l yX3_clear wsX3_clear rmX3_clear D cI cJ cZ [.ref (adm 0)] (wMc cI cJ adm m0 m1 m2 m3 m4 m5 m6 m7 m8 m9 m10 m11 m12 m13 m14 m15 m16 m17 m18 m19 m20 m21 m22 m23 m24 m25 m26 m27) (wMc cI cJ adm m0 m1 m2 m3 o.2.1 m5 o.2.2.1 o.2.2.2.1 m8 m9 m10 m11 m12 m13 m14 m15 m16 m17 m18 m19 m20 m21 m22 o.2.2.2.2 m24 m25 m26 m27) o.1 := by
  intro sz
  refine Met.ofW (cc := cX3_clear) (maxL := 2) (ret := (some .int)) (by decide) rfl ?_
  intro p e s m args below meth c s₁ B hml hv
  obtain ⟨rfl, hsz, hP, hK, hD0⟩ := hv
  have hx := B.exec
  have hb := B.bytes
  have hr := B.returns
  have hts := atoms_spec (ws := wsX3_clear) B.pre
  have hown : s.vm.findClass RX3 = some m.cls := findClass_of_methodNamed B.named
  have hlocks := B.notSynchronized
  subst hsz
  have hD := hD0.self (sz := s.heap.size)
  clear hD0
  generalize hAe : va_A (wMc cI cJ adm m0 m1 m2 m3 m4 m5 m6 m7 m8 m9 m10 m11 m12 m13 m14 m15 m16 m17 m18 m19 m20 m21 m22 m23 m24 m25 m26 m27) s.heap.size = A at hD ⊢
  have hA : ∀ q : Nat, s.heap.size ≤ q → A q := fun q h => by rw [← hAe]; exact Or.inr h
  have hS : va_S A s.heap s.heap [] := va_S.rf
  have hinX3 : ∀ w ∈ wsX30, w ∈ wsX3_clear := by decide +kernel
  have hw0 : (Cond.fieldLink RX3 69 "SwingCircuitsModel" "thrown" "I").before _ s = true := hts _ (by decide +kernel)
  have hw1 : (Cond.fieldLink RX3 73 "SwingCircuitsModel" "cells" "I").before _ s = true := hts _ (by decide +kernel)
  have hw2 : (Cond.fieldLink RX3 101 "SwingCircuitsModel" "linkMany" "I").before _ s = true := hts _ (by decide +kernel)
  have hl := lv_entry ([.ref (adm 0)]) (n := 2) (Nat.le_of_ble_eq_true rfl)
  rw [lg_entry_eq]
  generalize (lg_sl ([.ref (adm 0)]) ++ List.replicate (2 - (lg_sl ([.ref (adm 0)])).length) Slot.unset).toArray = ls at hl ⊢
  replace hl : lv_has ls 2 [(0, .ref (adm 0))] := hl
  unfold f_X3_clear at hf
  refine lv_aload_n hx hb dX3_clear_0 rfl (lv_at hl 0 rfl) ?_
  refine lv_iconst (v := 0) hx hb dX3_clear_1 (by decide) ?_
  refine va_put (D := D) (ci := 3) (v := .int 0) (ty := .int) (C := RX3) (T := TX3) (N := 28) hx hb hts hinX3 tyX3 tyX3_ok nmX3 hown hK.1 hP hD hS 0 rfl rfl 23 (by decide) hw0 (fun _ h9 => h9) rfl (by decide +kernel) rfl rfl (Nat.le_of_ble_eq_true rfl) dX3_clear_2 (fun H locs hP hD hS => ?_)
  replace hP : va_P D vwCl (wMc cI cJ adm m0 m1 m2 m3 m4 m5 m6 m7 m8 m9 m10 m11 m12 m13 m14 m15 m16 m17 m18 m19 m20 m21 m22 0 m24 m25 m26 m27) H := hP
  replace hD : va_D A (wMc cI cJ adm m0 m1 m2 m3 m4 m5 m6 m7 m8 m9 m10 m11 m12 m13 m14 m15 m16 m17 m18 m19 m20 m21 m22 0 m24 m25 m26 m27) := hD
  refine lv_aload_n hx hb dX3_clear_5 rfl (lv_at hl 0 rfl) ?_
  refine va_get (D := D) (ci := 3) (v := .int m4) (C := RX3) (T := TX3) (N := 28) hx hb hts hinX3 hown hK.1 hP 0 rfl rfl 4 (by decide) hw1 (fun _ h9 => h9) rfl dX3_clear_6 ?_
  refine lv_istore_n (lv' := [(1, .int m4), (0, .ref (adm 0))]) hx hb dX3_clear_9 rfl hl (by decide) rfl (fun ls hl => ?_)
  refine lv_aload_n hx hb dX3_clear_10 rfl (lv_at hl 1 rfl) ?_
  refine lv_iconst (v := 0) hx hb dX3_clear_11 (by decide) ?_
  refine va_put (D := D) (ci := 3) (v := .int 0) (ty := .int) (C := RX3) (T := TX3) (N := 28) hx hb hts hinX3 tyX3 tyX3_ok nmX3 hown hK.1 hP hD hS 0 rfl rfl 4 (by decide) hw1 (fun _ h9 => h9) rfl (by decide +kernel) rfl rfl (Nat.le_of_ble_eq_true rfl) dX3_clear_12 (fun H locs hP hD hS => ?_)
  replace hP : va_P D vwCl (wMc cI cJ adm m0 m1 m2 m3 0 m5 m6 m7 m8 m9 m10 m11 m12 m13 m14 m15 m16 m17 m18 m19 m20 m21 m22 0 m24 m25 m26 m27) H := hP
  replace hD : va_D A (wMc cI cJ adm m0 m1 m2 m3 0 m5 m6 m7 m8 m9 m10 m11 m12 m13 m14 m15 m16 m17 m18 m19 m20 m21 m22 0 m24 m25 m26 m27) := hD
  refine lv_aload_n hx hb dX3_clear_15 rfl (lv_at hl 1 rfl) ?_
  refine lv_iconst (v := 0) hx hb dX3_clear_16 (by decide) ?_
  refine va_put (D := D) (ci := 3) (v := .int 0) (ty := .int) (C := RX3) (T := TX3) (N := 28) hx hb hts hinX3 tyX3 tyX3_ok nmX3 hown hK.1 hP hD hS 0 rfl rfl 6 (by decide) hw2 (fun _ h9 => h9) rfl (by decide +kernel) rfl rfl (Nat.le_of_ble_eq_true rfl) dX3_clear_17 (fun H locs hP hD hS => ?_)
  replace hP : va_P D vwCl (wMc cI cJ adm m0 m1 m2 m3 0 m5 0 m7 m8 m9 m10 m11 m12 m13 m14 m15 m16 m17 m18 m19 m20 m21 m22 0 m24 m25 m26 m27) H := hP
  replace hD : va_D A (wMc cI cJ adm m0 m1 m2 m3 0 m5 0 m7 m8 m9 m10 m11 m12 m13 m14 m15 m16 m17 m18 m19 m20 m21 m22 0 m24 m25 m26 m27) := hD
  refine lv_aload_n hx hb dX3_clear_20 rfl (lv_at hl 1 rfl) ?_
  replace hf := bdE hf
  obtain ⟨r1, hgr1, hf⟩ := hf
  refine xVw (va_runV (As := []) (rest := []) ⟨hx, hb, hml, hown, hts⟩ (c_X3_resetAll l D cI cJ cZ adm m0 m1 m2 m3 0 m5 0 m7 m8 m9 m10 m11 m12 m13 m14 m15 m16 m17 m18 m19 m20 m21 m22 0 m24 m25 m26 m27 r1 hgr1 _) (cwV 0 hts gX3_clear_X3_resetAll rfl rfl rfl (by decide +kernel) ⟨Nat.le_of_ble_eq_true rfl, Nat.le_of_ble_eq_true rfl⟩) ⟨PreW.blind, xRecv (q0 := 0) hK hP rfl rfl, (xPrew hK hP hD _)⟩ rfl rfl hl.1 rfl (lv_room (Nat.le_of_ble_eq_true rfl)) dX3_clear_21 ⟨Nat.le_of_ble_eq_true rfl, Nat.le_of_ble_eq_true rfl⟩) hD hS hA (fun H locs hP hD hS => ?_)
  replace hP : va_P D vwCl (wMc cI cJ adm m0 m1 m2 m3 0 m5 0 r1 m8 m9 m10 m11 m12 m13 m14 m15 m16 m17 m18 m19 m20 m21 m22 0 m24 m25 m26 m27) H := hP
  replace hD : va_D A (wMc cI cJ adm m0 m1 m2 m3 0 m5 0 r1 m8 m9 m10 m11 m12 m13 m14 m15 m16 m17 m18 m19 m20 m21 m22 0 m24 m25 m26 m27) := hD
  refine lv_iload_n hx hb dX3_clear_24 rfl (lv_at hl 0 rfl) ?_
  obtain rfl := Option.some.inj hf
  exact retI hx hb hr hlocks hP hD hS dX3_clear_25

def f_X3_reset (m0 : Ar) (m7 : Al) : Option (Int32 × Al × Int32) :=
gd (ib 30 31) (
bnd ((m7 (30 : Int32).toNatClampNeg).toInt32) (fun v2 =>
(f_X3_resetAll m0 m7).bind (fun r3 =>
some (v2, r3, 0))))
abbrev rmX3_reset : Room := { frames := 1, cells := 0, slots := 0, locals := 21 }
set_option maxHeartbeats 40000000 in
set_option maxRecDepth 100000 in
theorem c_X3_reset (l : Launch) (D : va_G) (cI cJ cZ : ClassId) (adm : Nat → Nat) (m0 : Ar) (m1 : Ar) (m2 : Ar) (m3 : Ar) (m4 : Int32) (m5 : Ar) (m6 : Int32) (m7 : Al) (m8 : Al) (m9 : Al) (m10 : Ar) (m11 : Ar) (m12 : Al) (m13 : Al) (m14 : Int32) (m15 : Al) (m16 : Int32) (m17 : Al) (m18 : Ar) (m19 : Int32) (m20 : Al) (m21 : Al) (m22 : Int32) (m23 : Int32) (m24 : Int64) (m25 : Int64) (m26 : Int32) (m27 : Int32) (o : (Int32 × Al × Int32)) (hf : f_X3_reset m0 m7 = some o) : CtI l yX3_reset wsX3_reset rmX3_reset D cI cJ cZ [.ref (adm 0)] (wMc cI cJ adm m0 m1 m2 m3 m4 m5 m6 m7 m8 m9 m10 m11 m12 m13 m14 m15 m16 m17 m18 m19 m20 m21 m22 m23 m24 m25 m26 m27) (wMc cI cJ adm m0 m1 m2 m3 m4 m5 m6 o.2.1 m8 m9 m10 m11 m12 m13 m14 m15 m16 m17 m18 m19 m20 m21 m22 o.2.2 m24 m25 m26 m27) o.1 := by
  intro sz
  refine Met.ofW (cc := cX3_reset) (maxL := 2) (ret := (some .int)) (by decide) rfl ?_
  intro p e s m args below meth c s₁ B hml hv
  obtain ⟨rfl, hsz, hP, hK, hD0⟩ := hv
  have hx := B.exec
  have hb := B.bytes
  have hr := B.returns
  have hts := atoms_spec (ws := wsX3_reset) B.pre
  have hown : s.vm.findClass RX3 = some m.cls := findClass_of_methodNamed B.named
  have hlocks := B.notSynchronized
  subst hsz
  have hD := hD0.self (sz := s.heap.size)
  clear hD0
  generalize hAe : va_A (wMc cI cJ adm m0 m1 m2 m3 m4 m5 m6 m7 m8 m9 m10 m11 m12 m13 m14 m15 m16 m17 m18 m19 m20 m21 m22 m23 m24 m25 m26 m27) s.heap.size = A at hD ⊢
  have hA : ∀ q : Nat, s.heap.size ≤ q → A q := fun q h => by rw [← hAe]; exact Or.inr h
  have hS : va_S A s.heap s.heap [] := va_S.rf
  have hinX3 : ∀ w ∈ wsX30, w ∈ wsX3_reset := by decide +kernel
  have hw0 : (Cond.fieldLink RX3 69 "SwingCircuitsModel" "thrown" "I").before _ s = true := hts _ (by decide +kernel)
  have hw1 : (Cond.fieldLink RX3 25 "SwingCircuitsModel" "now" "[J").before _ s = true := hts _ (by decide +kernel)
  have hl := lv_entry ([.ref (adm 0)]) (n := 2) (Nat.le_of_ble_eq_true rfl)
  rw [lg_entry_eq]
  generalize (lg_sl ([.ref (adm 0)]) ++ List.replicate (2 - (lg_sl ([.ref (adm 0)])).length) Slot.unset).toArray = ls at hl ⊢
  replace hl : lv_has ls 2 [(0, .ref (adm 0))] := hl
  unfold f_X3_reset at hf
  refine lv_aload_n hx hb dX3_reset_0 rfl (lv_at hl 0 rfl) ?_
  refine lv_iconst (v := 0) hx hb dX3_reset_1 (by decide) ?_
  refine va_put (D := D) (ci := 3) (v := .int 0) (ty := .int) (C := RX3) (T := TX3) (N := 28) hx hb hts hinX3 tyX3 tyX3_ok nmX3 hown hK.1 hP hD hS 0 rfl rfl 23 (by decide) hw0 (fun _ h9 => h9) rfl (by decide +kernel) rfl rfl (Nat.le_of_ble_eq_true rfl) dX3_reset_2 (fun H locs hP hD hS => ?_)
  replace hP : va_P D vwCl (wMc cI cJ adm m0 m1 m2 m3 m4 m5 m6 m7 m8 m9 m10 m11 m12 m13 m14 m15 m16 m17 m18 m19 m20 m21 m22 0 m24 m25 m26 m27) H := hP
  replace hD : va_D A (wMc cI cJ adm m0 m1 m2 m3 m4 m5 m6 m7 m8 m9 m10 m11 m12 m13 m14 m15 m16 m17 m18 m19 m20 m21 m22 0 m24 m25 m26 m27) := hD
  refine lv_aload_n hx hb dX3_reset_5 rfl (lv_at hl 0 rfl) ?_
  refine va_get (D := D) (ci := 3) (v := .ref (adm 6)) (C := RX3) (T := TX3) (N := 28) hx hb hts hinX3 hown hK.1 hP 0 rfl rfl 7 (by decide) hw1 (fun _ h9 => h9) rfl dX3_reset_6 ?_
  refine lv_bipush (v := 30) hx hb dX3_reset_9 (by decide) ?_
  replace hf := gdE hf
  obtain ⟨h1, hf⟩ := hf
  refine va_lald hx hb hK.1 hP 6 1 rfl rfl (ib_in h1) dX3_reset_11 ?_
  refine lv_l2i hx hb dX3_reset_12 rfl ?_
  refine lv_topi (fun v2 ev2 => ?_)
  replace hf := bndE hf ev2
  refine lv_istore_n (lv' := [(1, .int v2), (0, .ref (adm 0))]) hx hb dX3_reset_13 rfl hl (by decide) rfl (fun ls hl => ?_)
  refine lv_aload_n hx hb dX3_reset_14 rfl (lv_at hl 1 rfl) ?_
  replace hf := bdE hf
  obtain ⟨r3, hgr3, hf⟩ := hf
  refine xVw (va_runV (As := []) (rest := []) ⟨hx, hb, hml, hown, hts⟩ (c_X3_resetAll l D cI cJ cZ adm m0 m1 m2 m3 m4 m5 m6 m7 m8 m9 m10 m11 m12 m13 m14 m15 m16 m17 m18 m19 m20 m21 m22 0 m24 m25 m26 m27 r3 hgr3 _) (cwV 0 hts gX3_reset_X3_resetAll rfl rfl rfl (by decide +kernel) ⟨Nat.le_of_ble_eq_true rfl, Nat.le_of_ble_eq_true rfl⟩) ⟨PreW.blind, xRecv (q0 := 0) hK hP rfl rfl, (xPrew hK hP hD _)⟩ rfl rfl hl.1 rfl (lv_room (Nat.le_of_ble_eq_true rfl)) dX3_reset_15 ⟨Nat.le_of_ble_eq_true rfl, Nat.le_of_ble_eq_true rfl⟩) hD hS hA (fun H locs hP hD hS => ?_)
  replace hP : va_P D vwCl (wMc cI cJ adm m0 m1 m2 m3 m4 m5 m6 r3 m8 m9 m10 m11 m12 m13 m14 m15 m16 m17 m18 m19 m20 m21 m22 0 m24 m25 m26 m27) H := hP
  replace hD : va_D A (wMc cI cJ adm m0 m1 m2 m3 m4 m5 m6 r3 m8 m9 m10 m11 m12 m13 m14 m15 m16 m17 m18 m19 m20 m21 m22 0 m24 m25 m26 m27) := hD
  refine lv_iload_n hx hb dX3_reset_18 rfl (lv_at hl 0 rfl) ?_
  obtain rfl := Option.some.inj hf
  exact retI hx hb hr hlocks hP hD hS dX3_reset_19

def f_X3_set_J76 (m0 : Ar) (m7 : Al) (k0_53 : Int32) (m2_76 : Ar) (m3_76 : Ar) : Option (Int32 × Ar × Ar × Al × Int32) :=
(f_X3_resetAll m0 m7).bind (fun r7 =>
some (k0_53, m2_76, m3_76, r7, 0))
def f_X3_set_J53 (m0 : Ar) (m2 : Ar) (m3 : Ar) (m7 : Al) (p1 : Int32) (p2 : Int32) (p3 : Int32) (k0_53 : Int32) : Option (Int32 × Ar × Ar × Al × Int32) :=
if ¬ p2 = 0 then
gd (ib p1 4) (
f_X3_set_J76 m0 m7 k0_53 m2 (upd m3 p1.toNatClampNeg p3))
else
gd (ib p1 4) (
f_X3_set_J76 m0 m7 k0_53 (upd m2 p1.toNatClampNeg p3) m3)
def f_X3_set (m0 : Ar) (m2 : Ar) (m3 : Ar) (m4 : Int32) (m7 : Al) (p1 : Int32) (p2 : Int32) (p3 : Int32) : Option (Int32 × Ar × Ar × Al × Int32) :=
(f_X3_isCell m4 p1).bind (fun r1 =>
if (b2i r1) = 0 then
some ((-1), m2, m3, m7, 0)
else
(f_X3_in p2 0 1).bind (fun r3 =>
if (b2i r3) = 0 then
some ((-1), m2, m3, m7, 0)
else
(f_X3_in p3 1 60).bind (fun r5 =>
if ¬ (b2i r5) = 0 then
if ¬ p2 = 0 then
gd (ib p1 4) (
f_X3_set_J53 m0 m2 m3 m7 p1 p2 p3 (m3 p1.toNatClampNeg))
else
gd (ib p1 4) (
f_X3_set_J53 m0 m2 m3 m7 p1 p2 p3 (m2 p1.toNatClampNeg))
else
some ((-1), m2, m3, m7, 0))))
abbrev rmX3_set : Room := { frames := 2, cells := 0, slots := 0, locals := 43 }
set_option maxHeartbeats 40000000 in
set_option maxRecDepth 100000 in
theorem c_X3_set (l : Launch) (D : va_G) (cI cJ cZ : ClassId) (adm : Nat → Nat) (m0 : Ar) (m1 : Ar) (m2 : Ar) (m3 : Ar) (m4 : Int32) (m5 : Ar) (m6 : Int32) (m7 : Al) (m8 : Al) (m9 : Al) (m10 : Ar) (m11 : Ar) (m12 : Al) (m13 : Al) (m14 : Int32) (m15 : Al) (m16 : Int32) (m17 : Al) (m18 : Ar) (m19 : Int32) (m20 : Al) (m21 : Al) (m22 : Int32) (m23 : Int32) (m24 : Int64) (m25 : Int64) (m26 : Int32) (m27 : Int32) (p1 : Int32) (p2 : Int32) (p3 : Int32) (o : (Int32 × Ar × Ar × Al × Int32)) (hf : f_X3_set m0 m2 m3 m4 m7 p1 p2 p3 = some o) : CtI l yX3_set wsX3_set rmX3_set D cI cJ cZ [.ref (adm 0), .int p1, .int p2, .int p3] (wMc cI cJ adm m0 m1 m2 m3 m4 m5 m6 m7 m8 m9 m10 m11 m12 m13 m14 m15 m16 m17 m18 m19 m20 m21 m22 m23 m24 m25 m26 m27) (wMc cI cJ adm m0 m1 o.2.1 o.2.2.1 m4 m5 m6 o.2.2.2.1 m8 m9 m10 m11 m12 m13 m14 m15 m16 m17 m18 m19 m20 m21 m22 o.2.2.2.2 m24 m25 m26 m27) o.1 := by
  intro sz
  refine Met.ofW (cc := cX3_set) (maxL := 5) (ret := (some .int)) (by decide) rfl ?_
  intro p e s m args below meth c s₁ B hml hv
  obtain ⟨rfl, hsz, hP, hK, hD0⟩ := hv
  have hx := B.exec
  have hb := B.bytes
  have hr := B.returns
  have hts := atoms_spec (ws := wsX3_set) B.pre
  have hown : s.vm.findClass RX3 = some m.cls := findClass_of_methodNamed B.named
  have hlocks := B.notSynchronized
  subst hsz
  have hD := hD0.self (sz := s.heap.size)
  clear hD0
  generalize hAe : va_A (wMc cI cJ adm m0 m1 m2 m3 m4 m5 m6 m7 m8 m9 m10 m11 m12 m13 m14 m15 m16 m17 m18 m19 m20 m21 m22 m23 m24 m25 m26 m27) s.heap.size = A at hD ⊢
  have hA : ∀ q : Nat, s.heap.size ≤ q → A q := fun q h => by rw [← hAe]; exact Or.inr h
  have hS : va_S A s.heap s.heap [] := va_S.rf
  have hinX3 : ∀ w ∈ wsX30, w ∈ wsX3_set := by decide +kernel
  have hw0 : (Cond.fieldLink RX3 69 "SwingCircuitsModel" "thrown" "I").before _ s = true := hts _ (by decide +kernel)
  have hw1 : (Cond.fieldLink RX3 16 "SwingCircuitsModel" "rise" "[I").before _ s = true := hts _ (by decide +kernel)
  have hw2 : (Cond.fieldLink RX3 19 "SwingCircuitsModel" "fall" "[I").before _ s = true := hts _ (by decide +kernel)
  have hl := lv_entry ([.ref (adm 0), .int p1, .int p2, .int p3]) (n := 5) (Nat.le_of_ble_eq_true rfl)
  rw [lg_entry_eq]
  generalize (lg_sl ([.ref (adm 0), .int p1, .int p2, .int p3]) ++ List.replicate (5 - (lg_sl ([.ref (adm 0), .int p1, .int p2, .int p3])).length) Slot.unset).toArray = ls at hl ⊢
  replace hl : lv_has ls 5 [(0, .ref (adm 0)), (1, .int p1), (2, .int p2), (3, .int p3)] := hl
  unfold f_X3_set at hf
  refine lv_aload_n hx hb dX3_set_0 rfl (lv_at hl 0 rfl) ?_
  refine lv_iconst (v := 0) hx hb dX3_set_1 (by decide) ?_
  refine va_put (D := D) (ci := 3) (v := .int 0) (ty := .int) (C := RX3) (T := TX3) (N := 28) hx hb hts hinX3 tyX3 tyX3_ok nmX3 hown hK.1 hP hD hS 0 rfl rfl 23 (by decide) hw0 (fun _ h9 => h9) rfl (by decide +kernel) rfl rfl (Nat.le_of_ble_eq_true rfl) dX3_set_2 (fun H locs hP hD hS => ?_)
  replace hP : va_P D vwCl (wMc cI cJ adm m0 m1 m2 m3 m4 m5 m6 m7 m8 m9 m10 m11 m12 m13 m14 m15 m16 m17 m18 m19 m20 m21 m22 0 m24 m25 m26 m27) H := hP
  replace hD : va_D A (wMc cI cJ adm m0 m1 m2 m3 m4 m5 m6 m7 m8 m9 m10 m11 m12 m13 m14 m15 m16 m17 m18 m19 m20 m21 m22 0 m24 m25 m26 m27) := hD
  refine lv_aload_n hx hb dX3_set_5 rfl (lv_at hl 0 rfl) ?_
  refine lv_iload_n hx hb dX3_set_6 rfl (lv_at hl 1 rfl) ?_
  replace hf := bdE hf
  obtain ⟨r1, hgr1, hf⟩ := hf
  refine xIw (va_runV (As := [.int p1]) (rest := []) ⟨hx, hb, hml, hown, hts⟩ (c_X3_isCell l D cI cJ cZ adm m0 m1 m2 m3 m4 m5 m6 m7 m8 m9 m10 m11 m12 m13 m14 m15 m16 m17 m18 m19 m20 m21 m22 0 m24 m25 m26 m27 p1 r1 hgr1 _) (cwV 1 hts gX3_set_X3_isCell rfl rfl rfl (by decide +kernel) ⟨Nat.le_of_ble_eq_true rfl, Nat.le_of_ble_eq_true rfl⟩) ⟨PreW.blind, xRecv (q0 := 0) hK hP rfl rfl, (xPrew hK hP hD _)⟩ rfl rfl hl.1 rfl (lv_room (Nat.le_of_ble_eq_true rfl)) dX3_set_7 ⟨Nat.le_of_ble_eq_true rfl, Nat.le_of_ble_eq_true rfl⟩) hD hS hA (fun H locs hP hD hS => ?_)
  replace hP : va_P D vwCl (wMc cI cJ adm m0 m1 m2 m3 m4 m5 m6 m7 m8 m9 m10 m11 m12 m13 m14 m15 m16 m17 m18 m19 m20 m21 m22 0 m24 m25 m26 m27) H := hP
  replace hD : va_D A (wMc cI cJ adm m0 m1 m2 m3 m4 m5 m6 m7 m8 m9 m10 m11 m12 m13 m14 m15 m16 m17 m18 m19 m20 m21 m22 0 m24 m25 m26 m27) := hD
  refine lv_if_eq (tgt := 32) hx hb dX3_set_10 (by decide) (fun q2 => ?_) (fun q2 => ?_)
  · replace hf := ifT q2 hf
    refine lv_iconst (v := (-1)) hx hb dX3_set_32 (by decide) ?_
    obtain rfl := Option.some.inj hf
    exact retI hx hb hr hlocks hP hD hS dX3_set_33
  · replace hf := ifF q2 hf
    refine lv_iload_n hx hb dX3_set_13 rfl (lv_at hl 2 rfl) ?_
    refine lv_iconst (v := 0) hx hb dX3_set_14 (by decide) ?_
    refine lv_iconst (v := 1) hx hb dX3_set_15 (by decide) ?_
    replace hf := bdE hf
    obtain ⟨r3, hgr3, hf⟩ := hf
    refine xI0 (va_runS (As := [.int p2, .int 0, .int 1]) (rest := []) ⟨hx, hb, hml, hown, hts⟩ (c_X3_in l D cI cJ cZ p2 0 1 r3 hgr3 _) (va_cwS 3 hts gX3_set_X3_in rfl rfl rfl (by decide +kernel) ⟨Nat.le_of_ble_eq_true rfl, Nat.le_of_ble_eq_true rfl⟩) ⟨PreW.blind, (xPre0 hK _)⟩ rfl rfl hl.1 rfl (lv_room (Nat.le_of_ble_eq_true rfl)) dX3_set_16 ⟨Nat.le_of_ble_eq_true rfl, Nat.le_of_ble_eq_true rfl⟩) hP hS hA (fun H locs hP hS => ?_)
    refine lv_if_eq (tgt := 32) hx hb dX3_set_19 (by decide) (fun q4 => ?_) (fun q4 => ?_)
    · replace hf := ifT q4 hf
      refine lv_iconst (v := (-1)) hx hb dX3_set_32 (by decide) ?_
      obtain rfl := Option.some.inj hf
      exact retI hx hb hr hlocks hP hD hS dX3_set_33
    · replace hf := ifF q4 hf
      refine lv_iload_n hx hb dX3_set_22 rfl (lv_at hl 3 rfl) ?_
      refine lv_iconst (v := 1) hx hb dX3_set_23 (by decide) ?_
      refine lv_bipush (v := 60) hx hb dX3_set_24 (by decide) ?_
      replace hf := bdE hf
      obtain ⟨r5, hgr5, hf⟩ := hf
      refine xI0 (va_runS (As := [.int p3, .int 1, .int 60]) (rest := []) ⟨hx, hb, hml, hown, hts⟩ (c_X3_in l D cI cJ cZ p3 1 60 r5 hgr5 _) (va_cwS 3 hts gX3_set_X3_in rfl rfl rfl (by decide +kernel) ⟨Nat.le_of_ble_eq_true rfl, Nat.le_of_ble_eq_true rfl⟩) ⟨PreW.blind, (xPre0 hK _)⟩ rfl rfl hl.1 rfl (lv_room (Nat.le_of_ble_eq_true rfl)) dX3_set_26 ⟨Nat.le_of_ble_eq_true rfl, Nat.le_of_ble_eq_true rfl⟩) hP hS hA (fun H locs hP hS => ?_)
      refine lv_if_ne (tgt := 34) hx hb dX3_set_29 (by decide) (fun q6 => ?_) (fun q6 => ?_)
      · replace hf := ifT q6 hf
        refine lv_iload_n hx hb dX3_set_34 rfl (lv_at hl 2 rfl) ?_
        have J53 : ∀ (k0_53 : Int32) (H : Heap) (locs : List Loc) (ls : Array Slot), f_X3_set_J53 m0 m2 m3 m7 p1 p2 p3 k0_53 = some o → va_P D vwCl (wMc cI cJ adm m0 m1 m2 m3 m4 m5 m6 m7 m8 m9 m10 m11 m12 m13 m14 m15 m16 m17 m18 m19 m20 m21 m22 0 m24 m25 m26 m27) H → va_D A (wMc cI cJ adm m0 m1 m2 m3 m4 m5 m6 m7 m8 m9 m10 m11 m12 m13 m14 m15 m16 m17 m18 m19 m20 m21 m22 0 m24 m25 m26 m27) → va_S A s.heap H locs → lv_has ls 5 [(0, .ref (adm 0)), (1, .int p1), (2, .int p2), (3, .int p3)] → W p l e (headSpec wsX3_set rmX3_set).room s m ([.ref (adm 0), .int p1, .int p2, .int p3] : List Value).toArray below meth c H locs 0 0 (MQ below (QI D A o.1 (wMc cI cJ adm m0 m1 o.2.1 o.2.2.1 m4 m5 m6 o.2.2.2.1 m8 m9 m10 m11 m12 m13 m14 m15 m16 m17 m18 m19 m20 m21 m22 o.2.2.2.2 m24 m25 m26 m27)) ([.ref (adm 0), .int p1, .int p2, .int p3] : List Value).toArray s 0 0 A) (F0 m 53 ls [.int k0_53]) := by
          intro k0_53 H locs ls hf hP hD hS hl
          unfold f_X3_set_J53 at hf
          refine lv_istore (lv' := [(4, .int k0_53), (0, .ref (adm 0)), (1, .int p1), (2, .int p2), (3, .int p3)]) hx hb dX3_set_53 hl (by decide) rfl (fun ls hl => ?_)
          refine lv_iload_n hx hb dX3_set_55 rfl (lv_at hl 3 rfl) ?_
          have J76 : ∀ (m2_76 : Ar) (m3_76 : Ar) (H : Heap) (locs : List Loc) (ls : Array Slot), f_X3_set_J76 m0 m7 k0_53 m2_76 m3_76 = some o → va_P D vwCl (wMc cI cJ adm m0 m1 m2_76 m3_76 m4 m5 m6 m7 m8 m9 m10 m11 m12 m13 m14 m15 m16 m17 m18 m19 m20 m21 m22 0 m24 m25 m26 m27) H → va_D A (wMc cI cJ adm m0 m1 m2_76 m3_76 m4 m5 m6 m7 m8 m9 m10 m11 m12 m13 m14 m15 m16 m17 m18 m19 m20 m21 m22 0 m24 m25 m26 m27) → va_S A s.heap H locs → lv_has ls 5 [(0, .ref (adm 0)), (4, .int k0_53)] → W p l e (headSpec wsX3_set rmX3_set).room s m ([.ref (adm 0), .int p1, .int p2, .int p3] : List Value).toArray below meth c H locs 0 0 (MQ below (QI D A o.1 (wMc cI cJ adm m0 m1 o.2.1 o.2.2.1 m4 m5 m6 o.2.2.2.1 m8 m9 m10 m11 m12 m13 m14 m15 m16 m17 m18 m19 m20 m21 m22 o.2.2.2.2 m24 m25 m26 m27)) ([.ref (adm 0), .int p1, .int p2, .int p3] : List Value).toArray s 0 0 A) (F0 m 76 ls []) := by
            intro m2_76 m3_76 H locs ls hf hP hD hS hl
            unfold f_X3_set_J76 at hf
            refine lv_aload_n hx hb dX3_set_76 rfl (lv_at hl 0 rfl) ?_
            replace hf := bdE hf
            obtain ⟨r7, hgr7, hf⟩ := hf
            refine xVw (va_runV (As := []) (rest := []) ⟨hx, hb, hml, hown, hts⟩ (c_X3_resetAll l D cI cJ cZ adm m0 m1 m2_76 m3_76 m4 m5 m6 m7 m8 m9 m10 m11 m12 m13 m14 m15 m16 m17 m18 m19 m20 m21 m22 0 m24 m25 m26 m27 r7 hgr7 _) (cwV 0 hts gX3_set_X3_resetAll rfl rfl rfl (by decide +kernel) ⟨Nat.le_of_ble_eq_true rfl, Nat.le_of_ble_eq_true rfl⟩) ⟨PreW.blind, xRecv (q0 := 0) hK hP rfl rfl, (xPrew hK hP hD _)⟩ rfl rfl hl.1 rfl (lv_room (Nat.le_of_ble_eq_true rfl)) dX3_set_77 ⟨Nat.le_of_ble_eq_true rfl, Nat.le_of_ble_eq_true rfl⟩) hD hS hA (fun H locs hP hD hS => ?_)
            replace hP : va_P D vwCl (wMc cI cJ adm m0 m1 m2_76 m3_76 m4 m5 m6 r7 m8 m9 m10 m11 m12 m13 m14 m15 m16 m17 m18 m19 m20 m21 m22 0 m24 m25 m26 m27) H := hP
            replace hD : va_D A (wMc cI cJ adm m0 m1 m2_76 m3_76 m4 m5 m6 r7 m8 m9 m10 m11 m12 m13 m14 m15 m16 m17 m18 m19 m20 m21 m22 0 m24 m25 m26 m27) := hD
            refine lv_iload hx hb dX3_set_80 (lv_at hl 1 rfl) ?_
            obtain rfl := Option.some.inj hf
            exact retI hx hb hr hlocks hP hD hS dX3_set_82
          refine lv_if_ne (tgt := 69) hx hb dX3_set_56 (by decide) (fun q8 => ?_) (fun q8 => ?_)
          · replace hf := ifT q8 hf
            refine lv_aload_n hx hb dX3_set_69 rfl (lv_at hl 1 rfl) ?_
            refine va_get (D := D) (ci := 3) (v := .ref (adm 4)) (C := RX3) (T := TX3) (N := 28) hx hb hts hinX3 hown hK.1 hP 0 rfl rfl 3 (by decide) hw2 (fun _ h9 => h9) rfl dX3_set_70 ?_
            refine lv_iload_n hx hb dX3_set_73 rfl (lv_at hl 2 rfl) ?_
            refine lv_iload_n hx hb dX3_set_74 rfl (lv_at hl 4 rfl) ?_
            replace hf := gdE hf
            obtain ⟨h9, hf⟩ := hf
            refine va_iast hx hb hK.1 hP hD hS 4 0 rfl rfl (ib_in h9) dX3_set_75 (fun H locs hP hD hS => ?_)
            replace hP : va_P D vwCl (wMc cI cJ adm m0 m1 m2 (upd m3 p1.toNatClampNeg p3) m4 m5 m6 m7 m8 m9 m10 m11 m12 m13 m14 m15 m16 m17 m18 m19 m20 m21 m22 0 m24 m25 m26 m27) H := hP
            replace hD : va_D A (wMc cI cJ adm m0 m1 m2 (upd m3 p1.toNatClampNeg p3) m4 m5 m6 m7 m8 m9 m10 m11 m12 m13 m14 m15 m16 m17 m18 m19 m20 m21 m22 0 m24 m25 m26 m27) := hD
            exact J76 m2 (upd m3 p1.toNatClampNeg p3) _ _ _ hf hP hD hS (lv_sub hl [1, 0] rfl)
          · replace hf := ifN q8 hf
            refine lv_aload_n hx hb dX3_set_59 rfl (lv_at hl 1 rfl) ?_
            refine va_get (D := D) (ci := 3) (v := .ref (adm 3)) (C := RX3) (T := TX3) (N := 28) hx hb hts hinX3 hown hK.1 hP 0 rfl rfl 2 (by decide) hw1 (fun _ h9 => h9) rfl dX3_set_60 ?_
            refine lv_iload_n hx hb dX3_set_63 rfl (lv_at hl 2 rfl) ?_
            refine lv_iload_n hx hb dX3_set_64 rfl (lv_at hl 4 rfl) ?_
            replace hf := gdE hf
            obtain ⟨h10, hf⟩ := hf
            refine va_iast hx hb hK.1 hP hD hS 3 0 rfl rfl (ib_in h10) dX3_set_65 (fun H locs hP hD hS => ?_)
            replace hP : va_P D vwCl (wMc cI cJ adm m0 m1 (upd m2 p1.toNatClampNeg p3) m3 m4 m5 m6 m7 m8 m9 m10 m11 m12 m13 m14 m15 m16 m17 m18 m19 m20 m21 m22 0 m24 m25 m26 m27) H := hP
            replace hD : va_D A (wMc cI cJ adm m0 m1 (upd m2 p1.toNatClampNeg p3) m3 m4 m5 m6 m7 m8 m9 m10 m11 m12 m13 m14 m15 m16 m17 m18 m19 m20 m21 m22 0 m24 m25 m26 m27) := hD
            refine lv_goto (tgt := 76) hx hb dX3_set_66 (by decide) ?_
            exact J76 (upd m2 p1.toNatClampNeg p3) m3 _ _ _ hf hP hD hS (lv_sub hl [1, 0] rfl)
        refine lv_if_ne (tgt := 47) hx hb dX3_set_35 (by decide) (fun q11 => ?_) (fun q11 => ?_)
        · replace hf := ifT q11 hf
          refine lv_aload_n hx hb dX3_set_47 rfl (lv_at hl 0 rfl) ?_
          refine va_get (D := D) (ci := 3) (v := .ref (adm 4)) (C := RX3) (T := TX3) (N := 28) hx hb hts hinX3 hown hK.1 hP 0 rfl rfl 3 (by decide) hw2 (fun _ h9 => h9) rfl dX3_set_48 ?_
          refine lv_iload_n hx hb dX3_set_51 rfl (lv_at hl 1 rfl) ?_
          replace hf := gdE hf
          obtain ⟨h12, hf⟩ := hf
          refine va_iald hx hb hK.1 hP 4 0 rfl rfl (ib_in h12) dX3_set_52 ?_
          exact J53 (m3 p1.toNatClampNeg) _ _ _ hf hP hD hS (lv_sub hl [0, 1, 2, 3] rfl)
        · replace hf := ifN q11 hf
          refine lv_aload_n hx hb dX3_set_38 rfl (lv_at hl 0 rfl) ?_
          refine va_get (D := D) (ci := 3) (v := .ref (adm 3)) (C := RX3) (T := TX3) (N := 28) hx hb hts hinX3 hown hK.1 hP 0 rfl rfl 2 (by decide) hw1 (fun _ h9 => h9) rfl dX3_set_39 ?_
          refine lv_iload_n hx hb dX3_set_42 rfl (lv_at hl 1 rfl) ?_
          replace hf := gdE hf
          obtain ⟨h13, hf⟩ := hf
          refine va_iald hx hb hK.1 hP 3 0 rfl rfl (ib_in h13) dX3_set_43 ?_
          refine lv_goto (tgt := 53) hx hb dX3_set_44 (by decide) ?_
          exact J53 (m2 p1.toNatClampNeg) _ _ _ hf hP hD hS (lv_sub hl [0, 1, 2, 3] rfl)
      · replace hf := ifN q6 hf
        refine lv_iconst (v := (-1)) hx hb dX3_set_32 (by decide) ?_
        obtain rfl := Option.some.inj hf
        exact retI hx hb hr hlocks hP hD hS dX3_set_33

def f_X3_of (m0 : Ar) (m1 : Ar) (m2 : Ar) (m3 : Ar) (m4 : Int32) (m7 : Al) (m24 : Int64) (m25 : Int64) (p1 : Int32) (p2 : Int32) : Option (Int32 × Int32 × Int64 × Int64) :=
(f_X3_isCell m4 p1).bind (fun r1 =>
if (b2i r1) = 0 then
some (0, 1, m24, m25)
else
(f_X3_in p2 0 6).bind (fun r3 =>
if ¬ (b2i r3) = 0 then
gd (ib p1 4) (
(f_X3_beat m0 m1 p1 (m2 p1.toNatClampNeg) (m3 p1.toNatClampNeg)).bind (fun r6 =>
if p2 = 0 then
gd (ib (0 + (2 * p1)) 31) (
some ((m7 (0 + (2 * p1)).toNatClampNeg).toInt32, 0, r6.1, r6.2))
else
if p2 = 1 then
gd (ib ((0 + (2 * p1)) + 1) 31) (
some ((m7 ((0 + (2 * p1)) + 1).toNatClampNeg).toInt32, 0, r6.1, r6.2))
else
if p2 = 2 then
gd (ib (8 + p1) 31) (
some ((m7 (8 + p1).toNatClampNeg).toInt32, 0, r6.1, r6.2))
else
if p2 = 3 then
gd (ib (22 + p1) 31) (
some ((m7 (22 + p1).toNatClampNeg).toInt32, 0, r6.1, r6.2))
else
if p2 = 4 then
gd (ib (26 + p1) 31) (
some ((m7 (26 + p1).toNatClampNeg).toInt32, 0, r6.1, r6.2))
else
if p2 = 5 then
some (r6.1.toInt32, 0, r6.1, r6.2)
else
some (r6.2.toInt32, 0, r6.1, r6.2)))
else
some (0, 1, m24, m25)))
abbrev rmX3_of : Room := { frames := 123, cells := 0, slots := 0, locals := 2832 }
set_option maxHeartbeats 40000000 in
set_option maxRecDepth 100000 in
theorem c_X3_of (l : Launch) (D : va_G) (cI cJ cZ : ClassId) (adm : Nat → Nat) (m0 : Ar) (m1 : Ar) (m2 : Ar) (m3 : Ar) (m4 : Int32) (m5 : Ar) (m6 : Int32) (m7 : Al) (m8 : Al) (m9 : Al) (m10 : Ar) (m11 : Ar) (m12 : Al) (m13 : Al) (m14 : Int32) (m15 : Al) (m16 : Int32) (m17 : Al) (m18 : Ar) (m19 : Int32) (m20 : Al) (m21 : Al) (m22 : Int32) (m23 : Int32) (m24 : Int64) (m25 : Int64) (m26 : Int32) (m27 : Int32) (p1 : Int32) (p2 : Int32) (o : (Int32 × Int32 × Int64 × Int64)) (hf : f_X3_of m0 m1 m2 m3 m4 m7 m24 m25 p1 p2 = some o) : CtI l yX3_of wsX3_of rmX3_of D cI cJ cZ [.ref (adm 0), .int p1, .int p2] (wMc cI cJ adm m0 m1 m2 m3 m4 m5 m6 m7 m8 m9 m10 m11 m12 m13 m14 m15 m16 m17 m18 m19 m20 m21 m22 m23 m24 m25 m26 m27) (wMc cI cJ adm m0 m1 m2 m3 m4 m5 m6 m7 m8 m9 m10 m11 m12 m13 m14 m15 m16 m17 m18 m19 m20 m21 m22 o.2.1 o.2.2.1 o.2.2.2 m26 m27) o.1 := by
  intro sz
  refine Met.ofW (cc := cX3_of) (maxL := 3) (ret := (some .int)) (by decide) rfl ?_
  intro p e s m args below meth c s₁ B hml hv
  obtain ⟨rfl, hsz, hP, hK, hD0⟩ := hv
  have hx := B.exec
  have hb := B.bytes
  have hr := B.returns
  have hts := atoms_spec (ws := wsX3_of) B.pre
  have hown : s.vm.findClass RX3 = some m.cls := findClass_of_methodNamed B.named
  have hlocks := B.notSynchronized
  subst hsz
  have hD := hD0.self (sz := s.heap.size)
  clear hD0
  generalize hAe : va_A (wMc cI cJ adm m0 m1 m2 m3 m4 m5 m6 m7 m8 m9 m10 m11 m12 m13 m14 m15 m16 m17 m18 m19 m20 m21 m22 m23 m24 m25 m26 m27) s.heap.size = A at hD ⊢
  have hA : ∀ q : Nat, s.heap.size ≤ q → A q := fun q h => by rw [← hAe]; exact Or.inr h
  have hS : va_S A s.heap s.heap [] := va_S.rf
  have hinX3 : ∀ w ∈ wsX30, w ∈ wsX3_of := by decide +kernel
  have hw0 : (Cond.fieldLink RX3 69 "SwingCircuitsModel" "thrown" "I").before _ s = true := hts _ (by decide +kernel)
  have hw1 : (Cond.fieldLink RX3 16 "SwingCircuitsModel" "rise" "[I").before _ s = true := hts _ (by decide +kernel)
  have hw2 : (Cond.fieldLink RX3 19 "SwingCircuitsModel" "fall" "[I").before _ s = true := hts _ (by decide +kernel)
  have hw3 : (Cond.fieldLink RX3 94 "SwingCircuitsModel" "den" "J").before _ s = true := hts _ (by decide +kernel)
  have hw4 : (Cond.fieldLink RX3 90 "SwingCircuitsModel" "num" "J").before _ s = true := hts _ (by decide +kernel)
  have hw5 : (Cond.fieldLink RX3 25 "SwingCircuitsModel" "now" "[J").before _ s = true := hts _ (by decide +kernel)
  have hl := lv_entry ([.ref (adm 0), .int p1, .int p2]) (n := 3) (Nat.le_of_ble_eq_true rfl)
  rw [lg_entry_eq]
  generalize (lg_sl ([.ref (adm 0), .int p1, .int p2]) ++ List.replicate (3 - (lg_sl ([.ref (adm 0), .int p1, .int p2])).length) Slot.unset).toArray = ls at hl ⊢
  replace hl : lv_has ls 3 [(0, .ref (adm 0)), (1, .int p1), (2, .int p2)] := hl
  unfold f_X3_of at hf
  refine lv_aload_n hx hb dX3_of_0 rfl (lv_at hl 0 rfl) ?_
  refine lv_iconst (v := 0) hx hb dX3_of_1 (by decide) ?_
  refine va_put (D := D) (ci := 3) (v := .int 0) (ty := .int) (C := RX3) (T := TX3) (N := 28) hx hb hts hinX3 tyX3 tyX3_ok nmX3 hown hK.1 hP hD hS 0 rfl rfl 23 (by decide) hw0 (fun _ h9 => h9) rfl (by decide +kernel) rfl rfl (Nat.le_of_ble_eq_true rfl) dX3_of_2 (fun H locs hP hD hS => ?_)
  replace hP : va_P D vwCl (wMc cI cJ adm m0 m1 m2 m3 m4 m5 m6 m7 m8 m9 m10 m11 m12 m13 m14 m15 m16 m17 m18 m19 m20 m21 m22 0 m24 m25 m26 m27) H := hP
  replace hD : va_D A (wMc cI cJ adm m0 m1 m2 m3 m4 m5 m6 m7 m8 m9 m10 m11 m12 m13 m14 m15 m16 m17 m18 m19 m20 m21 m22 0 m24 m25 m26 m27) := hD
  refine lv_aload_n hx hb dX3_of_5 rfl (lv_at hl 0 rfl) ?_
  refine lv_iload_n hx hb dX3_of_6 rfl (lv_at hl 1 rfl) ?_
  replace hf := bdE hf
  obtain ⟨r1, hgr1, hf⟩ := hf
  refine xIw (va_runV (As := [.int p1]) (rest := []) ⟨hx, hb, hml, hown, hts⟩ (c_X3_isCell l D cI cJ cZ adm m0 m1 m2 m3 m4 m5 m6 m7 m8 m9 m10 m11 m12 m13 m14 m15 m16 m17 m18 m19 m20 m21 m22 0 m24 m25 m26 m27 p1 r1 hgr1 _) (cwV 1 hts gX3_of_X3_isCell rfl rfl rfl (by decide +kernel) ⟨Nat.le_of_ble_eq_true rfl, Nat.le_of_ble_eq_true rfl⟩) ⟨PreW.blind, xRecv (q0 := 0) hK hP rfl rfl, (xPrew hK hP hD _)⟩ rfl rfl hl.1 rfl (lv_room (Nat.le_of_ble_eq_true rfl)) dX3_of_7 ⟨Nat.le_of_ble_eq_true rfl, Nat.le_of_ble_eq_true rfl⟩) hD hS hA (fun H locs hP hD hS => ?_)
  replace hP : va_P D vwCl (wMc cI cJ adm m0 m1 m2 m3 m4 m5 m6 m7 m8 m9 m10 m11 m12 m13 m14 m15 m16 m17 m18 m19 m20 m21 m22 0 m24 m25 m26 m27) H := hP
  replace hD : va_D A (wMc cI cJ adm m0 m1 m2 m3 m4 m5 m6 m7 m8 m9 m10 m11 m12 m13 m14 m15 m16 m17 m18 m19 m20 m21 m22 0 m24 m25 m26 m27) := hD
  refine lv_if_eq (tgt := 23) hx hb dX3_of_10 (by decide) (fun q2 => ?_) (fun q2 => ?_)
  · replace hf := ifT q2 hf
    refine lv_aload_n hx hb dX3_of_23 rfl (lv_at hl 0 rfl) ?_
    refine lv_iconst (v := 1) hx hb dX3_of_24 (by decide) ?_
    refine va_put (D := D) (ci := 3) (v := .int 1) (ty := .int) (C := RX3) (T := TX3) (N := 28) hx hb hts hinX3 tyX3 tyX3_ok nmX3 hown hK.1 hP hD hS 0 rfl rfl 23 (by decide) hw0 (fun _ h9 => h9) rfl (by decide +kernel) rfl rfl (Nat.le_of_ble_eq_true rfl) dX3_of_25 (fun H locs hP hD hS => ?_)
    replace hP : va_P D vwCl (wMc cI cJ adm m0 m1 m2 m3 m4 m5 m6 m7 m8 m9 m10 m11 m12 m13 m14 m15 m16 m17 m18 m19 m20 m21 m22 1 m24 m25 m26 m27) H := hP
    replace hD : va_D A (wMc cI cJ adm m0 m1 m2 m3 m4 m5 m6 m7 m8 m9 m10 m11 m12 m13 m14 m15 m16 m17 m18 m19 m20 m21 m22 1 m24 m25 m26 m27) := hD
    refine lv_iconst (v := 0) hx hb dX3_of_28 (by decide) ?_
    obtain rfl := Option.some.inj hf
    exact retI hx hb hr hlocks hP hD hS dX3_of_29
  · replace hf := ifF q2 hf
    refine lv_iload_n hx hb dX3_of_13 rfl (lv_at hl 2 rfl) ?_
    refine lv_iconst (v := 0) hx hb dX3_of_14 (by decide) ?_
    refine lv_bipush (v := 6) hx hb dX3_of_15 (by decide) ?_
    replace hf := bdE hf
    obtain ⟨r3, hgr3, hf⟩ := hf
    refine xI0 (va_runS (As := [.int p2, .int 0, .int 6]) (rest := []) ⟨hx, hb, hml, hown, hts⟩ (c_X3_in l D cI cJ cZ p2 0 6 r3 hgr3 _) (va_cwS 3 hts gX3_of_X3_in rfl rfl rfl (by decide +kernel) ⟨Nat.le_of_ble_eq_true rfl, Nat.le_of_ble_eq_true rfl⟩) ⟨PreW.blind, (xPre0 hK _)⟩ rfl rfl hl.1 rfl (lv_room (Nat.le_of_ble_eq_true rfl)) dX3_of_17 ⟨Nat.le_of_ble_eq_true rfl, Nat.le_of_ble_eq_true rfl⟩) hP hS hA (fun H locs hP hS => ?_)
    refine lv_if_ne (tgt := 30) hx hb dX3_of_20 (by decide) (fun q4 => ?_) (fun q4 => ?_)
    · replace hf := ifT q4 hf
      refine lv_aload_n hx hb dX3_of_30 rfl (lv_at hl 0 rfl) ?_
      refine lv_iload_n hx hb dX3_of_31 rfl (lv_at hl 1 rfl) ?_
      refine lv_aload_n hx hb dX3_of_32 rfl (lv_at hl 0 rfl) ?_
      refine va_get (D := D) (ci := 3) (v := .ref (adm 3)) (C := RX3) (T := TX3) (N := 28) hx hb hts hinX3 hown hK.1 hP 0 rfl rfl 2 (by decide) hw1 (fun _ h9 => h9) rfl dX3_of_33 ?_
      refine lv_iload_n hx hb dX3_of_36 rfl (lv_at hl 1 rfl) ?_
      replace hf := gdE hf
      obtain ⟨h5, hf⟩ := hf
      refine va_iald hx hb hK.1 hP 3 0 rfl rfl (ib_in h5) dX3_of_37 ?_
      refine lv_aload_n hx hb dX3_of_38 rfl (lv_at hl 0 rfl) ?_
      refine va_get (D := D) (ci := 3) (v := .ref (adm 4)) (C := RX3) (T := TX3) (N := 28) hx hb hts hinX3 hown hK.1 hP 0 rfl rfl 3 (by decide) hw2 (fun _ h9 => h9) rfl dX3_of_39 ?_
      refine lv_iload_n hx hb dX3_of_42 rfl (lv_at hl 1 rfl) ?_
      refine va_iald hx hb hK.1 hP 4 0 rfl rfl (ib_in h5) dX3_of_43 ?_
      replace hf := bdE hf
      obtain ⟨r6, hgr6, hf⟩ := hf
      refine xVw (va_runV (As := [.int p1, .int (m2 p1.toNatClampNeg), .int (m3 p1.toNatClampNeg)]) (rest := []) ⟨hx, hb, hml, hown, hts⟩ (c_X3_beat l D cI cJ cZ adm m0 m1 m2 m3 m4 m5 m6 m7 m8 m9 m10 m11 m12 m13 m14 m15 m16 m17 m18 m19 m20 m21 m22 0 m24 m25 m26 m27 p1 (m2 p1.toNatClampNeg) (m3 p1.toNatClampNeg) r6 hgr6 _) (cwV 3 hts gX3_of_X3_beat rfl rfl rfl (by decide +kernel) ⟨Nat.le_of_ble_eq_true rfl, Nat.le_of_ble_eq_true rfl⟩) ⟨PreW.blind, xRecv (q0 := 0) hK hP rfl rfl, (xPrew hK hP hD _)⟩ rfl rfl hl.1 rfl (lv_room (Nat.le_of_ble_eq_true rfl)) dX3_of_44 ⟨Nat.le_of_ble_eq_true rfl, Nat.le_of_ble_eq_true rfl⟩) hD hS hA (fun H locs hP hD hS => ?_)
      replace hP : va_P D vwCl (wMc cI cJ adm m0 m1 m2 m3 m4 m5 m6 m7 m8 m9 m10 m11 m12 m13 m14 m15 m16 m17 m18 m19 m20 m21 m22 0 r6.1 r6.2 m26 m27) H := hP
      replace hD : va_D A (wMc cI cJ adm m0 m1 m2 m3 m4 m5 m6 m7 m8 m9 m10 m11 m12 m13 m14 m15 m16 m17 m18 m19 m20 m21 m22 0 r6.1 r6.2 m26 m27) := hD
      refine lv_iload_n hx hb dX3_of_47 rfl (lv_at hl 2 rfl) ?_
      by_cases q7 : p2 = 0
      · replace hf := ifT q7 hf
        refine lv_tableIn (off := 40) (tgt := 88) hx hb dX3_of_48 (by rw [q7]; decide) (by rw [q7]; decide) (by rw [q7]; rfl) (by decide) ?_
        refine lv_aload_n hx hb dX3_of_88 rfl (lv_at hl 0 rfl) ?_
        refine va_get (D := D) (ci := 3) (v := .ref (adm 6)) (C := RX3) (T := TX3) (N := 28) hx hb hts hinX3 hown hK.1 hP 0 rfl rfl 7 (by decide) hw5 (fun _ h9 => h9) rfl dX3_of_89 ?_
        refine lv_iconst (v := 0) hx hb dX3_of_92 (by decide) ?_
        refine lv_iconst (v := 2) hx hb dX3_of_93 (by decide) ?_
        refine lv_iload_n hx hb dX3_of_94 rfl (lv_at hl 1 rfl) ?_
        refine lv_imul hx hb dX3_of_95 ?_
        refine lv_iadd hx hb dX3_of_96 ?_
        replace hf := gdE hf
        obtain ⟨h8, hf⟩ := hf
        refine va_lald hx hb hK.1 hP 6 1 rfl rfl (ib_in h8) dX3_of_97 ?_
        refine lv_l2i hx hb dX3_of_98 rfl ?_
        obtain rfl := Option.some.inj hf
        exact retI hx hb hr hlocks hP hD hS dX3_of_99
      · replace hf := ifF q7 hf
        by_cases q9 : p2 = 1
        · replace hf := ifT q9 hf
          refine lv_tableIn (off := 52) (tgt := 100) hx hb dX3_of_48 (by rw [q9]; decide) (by rw [q9]; decide) (by rw [q9]; rfl) (by decide) ?_
          refine lv_aload_n hx hb dX3_of_100 rfl (lv_at hl 0 rfl) ?_
          refine va_get (D := D) (ci := 3) (v := .ref (adm 6)) (C := RX3) (T := TX3) (N := 28) hx hb hts hinX3 hown hK.1 hP 0 rfl rfl 7 (by decide) hw5 (fun _ h9 => h9) rfl dX3_of_101 ?_
          refine lv_iconst (v := 0) hx hb dX3_of_104 (by decide) ?_
          refine lv_iconst (v := 2) hx hb dX3_of_105 (by decide) ?_
          refine lv_iload_n hx hb dX3_of_106 rfl (lv_at hl 1 rfl) ?_
          refine lv_imul hx hb dX3_of_107 ?_
          refine lv_iadd hx hb dX3_of_108 ?_
          refine lv_iconst (v := 1) hx hb dX3_of_109 (by decide) ?_
          refine lv_iadd hx hb dX3_of_110 ?_
          replace hf := gdE hf
          obtain ⟨h10, hf⟩ := hf
          refine va_lald hx hb hK.1 hP 6 1 rfl rfl (ib_in h10) dX3_of_111 ?_
          refine lv_l2i hx hb dX3_of_112 rfl ?_
          obtain rfl := Option.some.inj hf
          exact retI hx hb hr hlocks hP hD hS dX3_of_113
        · replace hf := ifF q9 hf
          by_cases q11 : p2 = 2
          · replace hf := ifT q11 hf
            refine lv_tableIn (off := 66) (tgt := 114) hx hb dX3_of_48 (by rw [q11]; decide) (by rw [q11]; decide) (by rw [q11]; rfl) (by decide) ?_
            refine lv_aload_n hx hb dX3_of_114 rfl (lv_at hl 0 rfl) ?_
            refine va_get (D := D) (ci := 3) (v := .ref (adm 6)) (C := RX3) (T := TX3) (N := 28) hx hb hts hinX3 hown hK.1 hP 0 rfl rfl 7 (by decide) hw5 (fun _ h9 => h9) rfl dX3_of_115 ?_
            refine lv_bipush (v := 8) hx hb dX3_of_118 (by decide) ?_
            refine lv_iload_n hx hb dX3_of_120 rfl (lv_at hl 1 rfl) ?_
            refine lv_iadd hx hb dX3_of_121 ?_
            replace hf := gdE hf
            obtain ⟨h12, hf⟩ := hf
            refine va_lald hx hb hK.1 hP 6 1 rfl rfl (ib_in h12) dX3_of_122 ?_
            refine lv_l2i hx hb dX3_of_123 rfl ?_
            obtain rfl := Option.some.inj hf
            exact retI hx hb hr hlocks hP hD hS dX3_of_124
          · replace hf := ifF q11 hf
            by_cases q13 : p2 = 3
            · replace hf := ifT q13 hf
              refine lv_tableIn (off := 77) (tgt := 125) hx hb dX3_of_48 (by rw [q13]; decide) (by rw [q13]; decide) (by rw [q13]; rfl) (by decide) ?_
              refine lv_aload_n hx hb dX3_of_125 rfl (lv_at hl 0 rfl) ?_
              refine va_get (D := D) (ci := 3) (v := .ref (adm 6)) (C := RX3) (T := TX3) (N := 28) hx hb hts hinX3 hown hK.1 hP 0 rfl rfl 7 (by decide) hw5 (fun _ h9 => h9) rfl dX3_of_126 ?_
              refine lv_bipush (v := 22) hx hb dX3_of_129 (by decide) ?_
              refine lv_iload_n hx hb dX3_of_131 rfl (lv_at hl 1 rfl) ?_
              refine lv_iadd hx hb dX3_of_132 ?_
              replace hf := gdE hf
              obtain ⟨h14, hf⟩ := hf
              refine va_lald hx hb hK.1 hP 6 1 rfl rfl (ib_in h14) dX3_of_133 ?_
              refine lv_l2i hx hb dX3_of_134 rfl ?_
              obtain rfl := Option.some.inj hf
              exact retI hx hb hr hlocks hP hD hS dX3_of_135
            · replace hf := ifF q13 hf
              by_cases q15 : p2 = 4
              · replace hf := ifT q15 hf
                refine lv_tableIn (off := 88) (tgt := 136) hx hb dX3_of_48 (by rw [q15]; decide) (by rw [q15]; decide) (by rw [q15]; rfl) (by decide) ?_
                refine lv_aload_n hx hb dX3_of_136 rfl (lv_at hl 0 rfl) ?_
                refine va_get (D := D) (ci := 3) (v := .ref (adm 6)) (C := RX3) (T := TX3) (N := 28) hx hb hts hinX3 hown hK.1 hP 0 rfl rfl 7 (by decide) hw5 (fun _ h9 => h9) rfl dX3_of_137 ?_
                refine lv_bipush (v := 26) hx hb dX3_of_140 (by decide) ?_
                refine lv_iload_n hx hb dX3_of_142 rfl (lv_at hl 1 rfl) ?_
                refine lv_iadd hx hb dX3_of_143 ?_
                replace hf := gdE hf
                obtain ⟨h16, hf⟩ := hf
                refine va_lald hx hb hK.1 hP 6 1 rfl rfl (ib_in h16) dX3_of_144 ?_
                refine lv_l2i hx hb dX3_of_145 rfl ?_
                obtain rfl := Option.some.inj hf
                exact retI hx hb hr hlocks hP hD hS dX3_of_146
              · replace hf := ifF q15 hf
                by_cases q17 : p2 = 5
                · replace hf := ifT q17 hf
                  refine lv_tableIn (off := 99) (tgt := 147) hx hb dX3_of_48 (by rw [q17]; decide) (by rw [q17]; decide) (by rw [q17]; rfl) (by decide) ?_
                  refine lv_aload_n hx hb dX3_of_147 rfl (lv_at hl 0 rfl) ?_
                  refine va_get (D := D) (ci := 3) (v := .long r6.1) (C := RX3) (T := TX3) (N := 28) hx hb hts hinX3 hown hK.1 hP 0 rfl rfl 24 (by decide) hw4 (fun _ h9 => h9) rfl dX3_of_148 ?_
                  refine lv_l2i hx hb dX3_of_151 rfl ?_
                  obtain rfl := Option.some.inj hf
                  exact retI hx hb hr hlocks hP hD hS dX3_of_152
                · replace hf := ifF q17 hf
                  refine lv_tableOut (tgt := 153) hx hb dX3_of_48 (by have nq7 := lv_neT q7 (a := 0) (by decide); have nq9 := lv_neT q9 (a := 1) (by decide); have nq11 := lv_neT q11 (a := 2) (by decide); have nq13 := lv_neT q13 (a := 3) (by decide); have nq15 := lv_neT q15 (a := 4) (by decide); have nq17 := lv_neT q17 (a := 5) (by decide); omega) (by decide) ?_
                  refine lv_aload_n hx hb dX3_of_153 rfl (lv_at hl 0 rfl) ?_
                  refine va_get (D := D) (ci := 3) (v := .long r6.2) (C := RX3) (T := TX3) (N := 28) hx hb hts hinX3 hown hK.1 hP 0 rfl rfl 25 (by decide) hw3 (fun _ h9 => h9) rfl dX3_of_154 ?_
                  refine lv_l2i hx hb dX3_of_157 rfl ?_
                  obtain rfl := Option.some.inj hf
                  exact retI hx hb hr hlocks hP hD hS dX3_of_158
    · replace hf := ifN q4 hf
      refine lv_aload_n hx hb dX3_of_23 rfl (lv_at hl 0 rfl) ?_
      refine lv_iconst (v := 1) hx hb dX3_of_24 (by decide) ?_
      refine va_put (D := D) (ci := 3) (v := .int 1) (ty := .int) (C := RX3) (T := TX3) (N := 28) hx hb hts hinX3 tyX3 tyX3_ok nmX3 hown hK.1 hP hD hS 0 rfl rfl 23 (by decide) hw0 (fun _ h9 => h9) rfl (by decide +kernel) rfl rfl (Nat.le_of_ble_eq_true rfl) dX3_of_25 (fun H locs hP hD hS => ?_)
      replace hP : va_P D vwCl (wMc cI cJ adm m0 m1 m2 m3 m4 m5 m6 m7 m8 m9 m10 m11 m12 m13 m14 m15 m16 m17 m18 m19 m20 m21 m22 1 m24 m25 m26 m27) H := hP
      replace hD : va_D A (wMc cI cJ adm m0 m1 m2 m3 m4 m5 m6 m7 m8 m9 m10 m11 m12 m13 m14 m15 m16 m17 m18 m19 m20 m21 m22 1 m24 m25 m26 m27) := hD
      refine lv_iconst (v := 0) hx hb dX3_of_28 (by decide) ?_
      obtain rfl := Option.some.inj hf
      exact retI hx hb hr hlocks hP hD hS dX3_of_29

def f_X3_counted (m6 : Int32) (m7 : Al) (p1 : Int32) : Option (Int32 × Int32) :=
(f_X3_in p1 0 (m6 - 1)).bind (fun r1 =>
if (b2i r1) = 0 then
some ((-1), 0)
else
gd (ib (12 + p1) 31) (
some ((m7 (12 + p1).toNatClampNeg).toInt32, 0)))
abbrev rmX3_counted : Room := { frames := 1, cells := 0, slots := 0, locals := 22 }
set_option maxHeartbeats 40000000 in
set_option maxRecDepth 100000 in
theorem c_X3_counted (l : Launch) (D : va_G) (cI cJ cZ : ClassId) (adm : Nat → Nat) (m0 : Ar) (m1 : Ar) (m2 : Ar) (m3 : Ar) (m4 : Int32) (m5 : Ar) (m6 : Int32) (m7 : Al) (m8 : Al) (m9 : Al) (m10 : Ar) (m11 : Ar) (m12 : Al) (m13 : Al) (m14 : Int32) (m15 : Al) (m16 : Int32) (m17 : Al) (m18 : Ar) (m19 : Int32) (m20 : Al) (m21 : Al) (m22 : Int32) (m23 : Int32) (m24 : Int64) (m25 : Int64) (m26 : Int32) (m27 : Int32) (p1 : Int32) (o : (Int32 × Int32)) (hf : f_X3_counted m6 m7 p1 = some o) : CtI l yX3_counted wsX3_counted rmX3_counted D cI cJ cZ [.ref (adm 0), .int p1] (wMc cI cJ adm m0 m1 m2 m3 m4 m5 m6 m7 m8 m9 m10 m11 m12 m13 m14 m15 m16 m17 m18 m19 m20 m21 m22 m23 m24 m25 m26 m27) (wMc cI cJ adm m0 m1 m2 m3 m4 m5 m6 m7 m8 m9 m10 m11 m12 m13 m14 m15 m16 m17 m18 m19 m20 m21 m22 o.2 m24 m25 m26 m27) o.1 := by
  intro sz
  refine Met.ofW (cc := cX3_counted) (maxL := 2) (ret := (some .int)) (by decide) rfl ?_
  intro p e s m args below meth c s₁ B hml hv
  obtain ⟨rfl, hsz, hP, hK, hD0⟩ := hv
  have hx := B.exec
  have hb := B.bytes
  have hr := B.returns
  have hts := atoms_spec (ws := wsX3_counted) B.pre
  have hown : s.vm.findClass RX3 = some m.cls := findClass_of_methodNamed B.named
  have hlocks := B.notSynchronized
  subst hsz
  have hD := hD0.self (sz := s.heap.size)
  clear hD0
  generalize hAe : va_A (wMc cI cJ adm m0 m1 m2 m3 m4 m5 m6 m7 m8 m9 m10 m11 m12 m13 m14 m15 m16 m17 m18 m19 m20 m21 m22 m23 m24 m25 m26 m27) s.heap.size = A at hD ⊢
  have hA : ∀ q : Nat, s.heap.size ≤ q → A q := fun q h => by rw [← hAe]; exact Or.inr h
  have hS : va_S A s.heap s.heap [] := va_S.rf
  have hinX3 : ∀ w ∈ wsX30, w ∈ wsX3_counted := by decide +kernel
  have hw0 : (Cond.fieldLink RX3 69 "SwingCircuitsModel" "thrown" "I").before _ s = true := hts _ (by decide +kernel)
  have hw1 : (Cond.fieldLink RX3 101 "SwingCircuitsModel" "linkMany" "I").before _ s = true := hts _ (by decide +kernel)
  have hw2 : (Cond.fieldLink RX3 25 "SwingCircuitsModel" "now" "[J").before _ s = true := hts _ (by decide +kernel)
  have hl := lv_entry ([.ref (adm 0), .int p1]) (n := 2) (Nat.le_of_ble_eq_true rfl)
  rw [lg_entry_eq]
  generalize (lg_sl ([.ref (adm 0), .int p1]) ++ List.replicate (2 - (lg_sl ([.ref (adm 0), .int p1])).length) Slot.unset).toArray = ls at hl ⊢
  replace hl : lv_has ls 2 [(0, .ref (adm 0)), (1, .int p1)] := hl
  unfold f_X3_counted at hf
  refine lv_aload_n hx hb dX3_counted_0 rfl (lv_at hl 0 rfl) ?_
  refine lv_iconst (v := 0) hx hb dX3_counted_1 (by decide) ?_
  refine va_put (D := D) (ci := 3) (v := .int 0) (ty := .int) (C := RX3) (T := TX3) (N := 28) hx hb hts hinX3 tyX3 tyX3_ok nmX3 hown hK.1 hP hD hS 0 rfl rfl 23 (by decide) hw0 (fun _ h9 => h9) rfl (by decide +kernel) rfl rfl (Nat.le_of_ble_eq_true rfl) dX3_counted_2 (fun H locs hP hD hS => ?_)
  replace hP : va_P D vwCl (wMc cI cJ adm m0 m1 m2 m3 m4 m5 m6 m7 m8 m9 m10 m11 m12 m13 m14 m15 m16 m17 m18 m19 m20 m21 m22 0 m24 m25 m26 m27) H := hP
  replace hD : va_D A (wMc cI cJ adm m0 m1 m2 m3 m4 m5 m6 m7 m8 m9 m10 m11 m12 m13 m14 m15 m16 m17 m18 m19 m20 m21 m22 0 m24 m25 m26 m27) := hD
  refine lv_iload_n hx hb dX3_counted_5 rfl (lv_at hl 1 rfl) ?_
  refine lv_iconst (v := 0) hx hb dX3_counted_6 (by decide) ?_
  refine lv_aload_n hx hb dX3_counted_7 rfl (lv_at hl 0 rfl) ?_
  refine va_get (D := D) (ci := 3) (v := .int m6) (C := RX3) (T := TX3) (N := 28) hx hb hts hinX3 hown hK.1 hP 0 rfl rfl 6 (by decide) hw1 (fun _ h9 => h9) rfl dX3_counted_8 ?_
  refine lv_iconst (v := 1) hx hb dX3_counted_11 (by decide) ?_
  refine lv_isub hx hb dX3_counted_12 ?_
  replace hf := bdE hf
  obtain ⟨r1, hgr1, hf⟩ := hf
  refine xI0 (va_runS (As := [.int p1, .int 0, .int (m6 - 1)]) (rest := []) ⟨hx, hb, hml, hown, hts⟩ (c_X3_in l D cI cJ cZ p1 0 (m6 - 1) r1 hgr1 _) (va_cwS 3 hts gX3_counted_X3_in rfl rfl rfl (by decide +kernel) ⟨Nat.le_of_ble_eq_true rfl, Nat.le_of_ble_eq_true rfl⟩) ⟨PreW.blind, (xPre0 hK _)⟩ rfl rfl hl.1 rfl (lv_room (Nat.le_of_ble_eq_true rfl)) dX3_counted_13 ⟨Nat.le_of_ble_eq_true rfl, Nat.le_of_ble_eq_true rfl⟩) hP hS hA (fun H locs hP hS => ?_)
  refine lv_if_eq (tgt := 32) hx hb dX3_counted_16 (by decide) (fun q2 => ?_) (fun q2 => ?_)
  · replace hf := ifT q2 hf
    refine lv_iconst (v := (-1)) hx hb dX3_counted_32 (by decide) ?_
    obtain rfl := Option.some.inj hf
    exact retI hx hb hr hlocks hP hD hS dX3_counted_33
  · replace hf := ifF q2 hf
    refine lv_aload_n hx hb dX3_counted_19 rfl (lv_at hl 0 rfl) ?_
    refine va_get (D := D) (ci := 3) (v := .ref (adm 6)) (C := RX3) (T := TX3) (N := 28) hx hb hts hinX3 hown hK.1 hP 0 rfl rfl 7 (by decide) hw2 (fun _ h9 => h9) rfl dX3_counted_20 ?_
    refine lv_bipush (v := 12) hx hb dX3_counted_23 (by decide) ?_
    refine lv_iload_n hx hb dX3_counted_25 rfl (lv_at hl 1 rfl) ?_
    refine lv_iadd hx hb dX3_counted_26 ?_
    replace hf := gdE hf
    obtain ⟨h3, hf⟩ := hf
    refine va_lald hx hb hK.1 hP 6 1 rfl rfl (ib_in h3) dX3_counted_27 ?_
    refine lv_l2i hx hb dX3_counted_28 rfl ?_
    refine lv_goto (tgt := 33) hx hb dX3_counted_29 (by decide) ?_
    obtain rfl := Option.some.inj hf
    exact retI hx hb hr hlocks hP hD hS dX3_counted_33

def f_X3_event (m7 : Al) (m10 : Ar) (m11 : Ar) (m12 : Al) (m13 : Al) (p1 : Int32) (p2 : Int32) : Option (Int32 × Int32) :=
if p1 < 0 then
some ((-1), 0)
else
gd (ib 30 31) (
if (0 : Int32) ≤ (lg_cmp p1.toInt64 (m7 (30 : Int32).toNatClampNeg)) then
some ((-1), 0)
else
if p1 < 500 then
if p2 = 0 then
gd (ib p1 500) (
some (m10 p1.toNatClampNeg, 0))
else
if p2 = 1 then
gd (ib p1 500) (
some (m11 p1.toNatClampNeg, 0))
else
if p2 = 2 then
gd (ib p1 500) (
some ((m12 p1.toNatClampNeg).toInt32, 0))
else
if p2 = 3 then
gd (ib p1 500) (
some ((m13 p1.toNatClampNeg).toInt32, 0))
else
some ((-1), 0)
else
some ((-1), 0))
abbrev rmX3_event : Room := { frames := 0, cells := 0, slots := 0, locals := 0 }
set_option maxHeartbeats 40000000 in
set_option maxRecDepth 100000 in
theorem c_X3_event (l : Launch) (D : va_G) (cI cJ cZ : ClassId) (adm : Nat → Nat) (m0 : Ar) (m1 : Ar) (m2 : Ar) (m3 : Ar) (m4 : Int32) (m5 : Ar) (m6 : Int32) (m7 : Al) (m8 : Al) (m9 : Al) (m10 : Ar) (m11 : Ar) (m12 : Al) (m13 : Al) (m14 : Int32) (m15 : Al) (m16 : Int32) (m17 : Al) (m18 : Ar) (m19 : Int32) (m20 : Al) (m21 : Al) (m22 : Int32) (m23 : Int32) (m24 : Int64) (m25 : Int64) (m26 : Int32) (m27 : Int32) (p1 : Int32) (p2 : Int32) (o : (Int32 × Int32)) (hf : f_X3_event m7 m10 m11 m12 m13 p1 p2 = some o) : CtI l yX3_event wsX3_event rmX3_event D cI cJ cZ [.ref (adm 0), .int p1, .int p2] (wMc cI cJ adm m0 m1 m2 m3 m4 m5 m6 m7 m8 m9 m10 m11 m12 m13 m14 m15 m16 m17 m18 m19 m20 m21 m22 m23 m24 m25 m26 m27) (wMc cI cJ adm m0 m1 m2 m3 m4 m5 m6 m7 m8 m9 m10 m11 m12 m13 m14 m15 m16 m17 m18 m19 m20 m21 m22 o.2 m24 m25 m26 m27) o.1 := by
  intro sz
  refine Met.ofW (cc := cX3_event) (maxL := 3) (ret := (some .int)) (by decide) rfl ?_
  intro p e s m args below meth c s₁ B hml hv
  obtain ⟨rfl, hsz, hP, hK, hD0⟩ := hv
  have hx := B.exec
  have hb := B.bytes
  have hr := B.returns
  have hts := atoms_spec (ws := wsX3_event) B.pre
  have hown : s.vm.findClass RX3 = some m.cls := findClass_of_methodNamed B.named
  have hlocks := B.notSynchronized
  subst hsz
  have hD := hD0.self (sz := s.heap.size)
  clear hD0
  generalize hAe : va_A (wMc cI cJ adm m0 m1 m2 m3 m4 m5 m6 m7 m8 m9 m10 m11 m12 m13 m14 m15 m16 m17 m18 m19 m20 m21 m22 m23 m24 m25 m26 m27) s.heap.size = A at hD ⊢
  have hA : ∀ q : Nat, s.heap.size ≤ q → A q := fun q h => by rw [← hAe]; exact Or.inr h
  have hS : va_S A s.heap s.heap [] := va_S.rf
  have hinX3 : ∀ w ∈ wsX30, w ∈ wsX3_event := by decide +kernel
  have hw0 : (Cond.fieldLink RX3 69 "SwingCircuitsModel" "thrown" "I").before _ s = true := hts _ (by decide +kernel)
  have hw1 : (Cond.fieldLink RX3 25 "SwingCircuitsModel" "now" "[J").before _ s = true := hts _ (by decide +kernel)
  have hw2 : (Cond.fieldLink RX3 44 "SwingCircuitsModel" "logDen" "[J").before _ s = true := hts _ (by decide +kernel)
  have hw3 : (Cond.fieldLink RX3 41 "SwingCircuitsModel" "logNum" "[J").before _ s = true := hts _ (by decide +kernel)
  have hw4 : (Cond.fieldLink RX3 38 "SwingCircuitsModel" "logAt" "[I").before _ s = true := hts _ (by decide +kernel)
  have hw5 : (Cond.fieldLink RX3 35 "SwingCircuitsModel" "logCell" "[I").before _ s = true := hts _ (by decide +kernel)
  have hl := lv_entry ([.ref (adm 0), .int p1, .int p2]) (n := 3) (Nat.le_of_ble_eq_true rfl)
  rw [lg_entry_eq]
  generalize (lg_sl ([.ref (adm 0), .int p1, .int p2]) ++ List.replicate (3 - (lg_sl ([.ref (adm 0), .int p1, .int p2])).length) Slot.unset).toArray = ls at hl ⊢
  replace hl : lv_has ls 3 [(0, .ref (adm 0)), (1, .int p1), (2, .int p2)] := hl
  unfold f_X3_event at hf
  refine lv_aload_n hx hb dX3_event_0 rfl (lv_at hl 0 rfl) ?_
  refine lv_iconst (v := 0) hx hb dX3_event_1 (by decide) ?_
  refine va_put (D := D) (ci := 3) (v := .int 0) (ty := .int) (C := RX3) (T := TX3) (N := 28) hx hb hts hinX3 tyX3 tyX3_ok nmX3 hown hK.1 hP hD hS 0 rfl rfl 23 (by decide) hw0 (fun _ h9 => h9) rfl (by decide +kernel) rfl rfl (Nat.le_of_ble_eq_true rfl) dX3_event_2 (fun H locs hP hD hS => ?_)
  replace hP : va_P D vwCl (wMc cI cJ adm m0 m1 m2 m3 m4 m5 m6 m7 m8 m9 m10 m11 m12 m13 m14 m15 m16 m17 m18 m19 m20 m21 m22 0 m24 m25 m26 m27) H := hP
  replace hD : va_D A (wMc cI cJ adm m0 m1 m2 m3 m4 m5 m6 m7 m8 m9 m10 m11 m12 m13 m14 m15 m16 m17 m18 m19 m20 m21 m22 0 m24 m25 m26 m27) := hD
  refine lv_iload_n hx hb dX3_event_5 rfl (lv_at hl 1 rfl) ?_
  refine lv_if_lt (tgt := 29) hx hb dX3_event_6 (by decide) (fun q1 => ?_) (fun q1 => ?_)
  · replace hf := ifT q1 hf
    refine lv_iconst (v := (-1)) hx hb dX3_event_29 (by decide) ?_
    obtain rfl := Option.some.inj hf
    exact retI hx hb hr hlocks hP hD hS dX3_event_30
  · replace hf := ifF q1 hf
    refine lv_iload_n hx hb dX3_event_9 rfl (lv_at hl 1 rfl) ?_
    refine lv_i2l hx hb dX3_event_10 rfl ?_
    refine lv_aload_n hx hb dX3_event_11 rfl (lv_at hl 0 rfl) ?_
    refine va_get (D := D) (ci := 3) (v := .ref (adm 6)) (C := RX3) (T := TX3) (N := 28) hx hb hts hinX3 hown hK.1 hP 0 rfl rfl 7 (by decide) hw1 (fun _ h9 => h9) rfl dX3_event_12 ?_
    refine lv_bipush (v := 30) hx hb dX3_event_15 (by decide) ?_
    replace hf := gdE hf
    obtain ⟨h2, hf⟩ := hf
    refine va_lald hx hb hK.1 hP 6 1 rfl rfl (ib_in h2) dX3_event_17 ?_
    refine W.lcmp hx hb dX3_event_18 ?_
    refine lv_if_ge (tgt := 29) hx hb dX3_event_19 (by decide) (fun q3 => ?_) (fun q3 => ?_)
    · replace hf := ifT q3 hf
      refine lv_iconst (v := (-1)) hx hb dX3_event_29 (by decide) ?_
      obtain rfl := Option.some.inj hf
      exact retI hx hb hr hlocks hP hD hS dX3_event_30
    · replace hf := ifF q3 hf
      refine lv_iload_n hx hb dX3_event_22 rfl (lv_at hl 1 rfl) ?_
      refine lv_sipush (v := 500) hx hb dX3_event_23 (by decide) ?_
      refine lv_icmp_lt (tgt := 31) hx hb dX3_event_26 (by decide) (fun q4 => ?_) (fun q4 => ?_)
      · replace hf := ifT q4 hf
        refine lv_iload_n hx hb dX3_event_31 rfl (lv_at hl 2 rfl) ?_
        by_cases q5 : p2 = 0
        · replace hf := ifT q5 hf
          refine lv_tableIn (off := 32) (tgt := 64) hx hb dX3_event_32 (by rw [q5]; decide) (by rw [q5]; decide) (by rw [q5]; rfl) (by decide) ?_
          refine lv_aload_n hx hb dX3_event_64 rfl (lv_at hl 0 rfl) ?_
          refine va_get (D := D) (ci := 3) (v := .ref (adm 9)) (C := RX3) (T := TX3) (N := 28) hx hb hts hinX3 hown hK.1 hP 0 rfl rfl 10 (by decide) hw5 (fun _ h9 => h9) rfl dX3_event_65 ?_
          refine lv_iload_n hx hb dX3_event_68 rfl (lv_at hl 1 rfl) ?_
          replace hf := gdE hf
          obtain ⟨h6, hf⟩ := hf
          refine va_iald hx hb hK.1 hP 9 0 rfl rfl (ib_in h6) dX3_event_69 ?_
          obtain rfl := Option.some.inj hf
          exact retI hx hb hr hlocks hP hD hS dX3_event_70
        · replace hf := ifF q5 hf
          by_cases q7 : p2 = 1
          · replace hf := ifT q7 hf
            refine lv_tableIn (off := 39) (tgt := 71) hx hb dX3_event_32 (by rw [q7]; decide) (by rw [q7]; decide) (by rw [q7]; rfl) (by decide) ?_
            refine lv_aload_n hx hb dX3_event_71 rfl (lv_at hl 0 rfl) ?_
            refine va_get (D := D) (ci := 3) (v := .ref (adm 10)) (C := RX3) (T := TX3) (N := 28) hx hb hts hinX3 hown hK.1 hP 0 rfl rfl 11 (by decide) hw4 (fun _ h9 => h9) rfl dX3_event_72 ?_
            refine lv_iload_n hx hb dX3_event_75 rfl (lv_at hl 1 rfl) ?_
            replace hf := gdE hf
            obtain ⟨h8, hf⟩ := hf
            refine va_iald hx hb hK.1 hP 10 0 rfl rfl (ib_in h8) dX3_event_76 ?_
            obtain rfl := Option.some.inj hf
            exact retI hx hb hr hlocks hP hD hS dX3_event_77
          · replace hf := ifF q7 hf
            by_cases q9 : p2 = 2
            · replace hf := ifT q9 hf
              refine lv_tableIn (off := 46) (tgt := 78) hx hb dX3_event_32 (by rw [q9]; decide) (by rw [q9]; decide) (by rw [q9]; rfl) (by decide) ?_
              refine lv_aload_n hx hb dX3_event_78 rfl (lv_at hl 0 rfl) ?_
              refine va_get (D := D) (ci := 3) (v := .ref (adm 11)) (C := RX3) (T := TX3) (N := 28) hx hb hts hinX3 hown hK.1 hP 0 rfl rfl 12 (by decide) hw3 (fun _ h9 => h9) rfl dX3_event_79 ?_
              refine lv_iload_n hx hb dX3_event_82 rfl (lv_at hl 1 rfl) ?_
              replace hf := gdE hf
              obtain ⟨h10, hf⟩ := hf
              refine va_lald hx hb hK.1 hP 11 1 rfl rfl (ib_in h10) dX3_event_83 ?_
              refine lv_l2i hx hb dX3_event_84 rfl ?_
              obtain rfl := Option.some.inj hf
              exact retI hx hb hr hlocks hP hD hS dX3_event_85
            · replace hf := ifF q9 hf
              by_cases q11 : p2 = 3
              · replace hf := ifT q11 hf
                refine lv_tableIn (off := 54) (tgt := 86) hx hb dX3_event_32 (by rw [q11]; decide) (by rw [q11]; decide) (by rw [q11]; rfl) (by decide) ?_
                refine lv_aload_n hx hb dX3_event_86 rfl (lv_at hl 0 rfl) ?_
                refine va_get (D := D) (ci := 3) (v := .ref (adm 12)) (C := RX3) (T := TX3) (N := 28) hx hb hts hinX3 hown hK.1 hP 0 rfl rfl 13 (by decide) hw2 (fun _ h9 => h9) rfl dX3_event_87 ?_
                refine lv_iload_n hx hb dX3_event_90 rfl (lv_at hl 1 rfl) ?_
                replace hf := gdE hf
                obtain ⟨h12, hf⟩ := hf
                refine va_lald hx hb hK.1 hP 12 1 rfl rfl (ib_in h12) dX3_event_91 ?_
                refine lv_l2i hx hb dX3_event_92 rfl ?_
                obtain rfl := Option.some.inj hf
                exact retI hx hb hr hlocks hP hD hS dX3_event_93
              · replace hf := ifF q11 hf
                refine lv_tableOut (tgt := 94) hx hb dX3_event_32 (by have nq5 := lv_neT q5 (a := 0) (by decide); have nq7 := lv_neT q7 (a := 1) (by decide); have nq9 := lv_neT q9 (a := 2) (by decide); have nq11 := lv_neT q11 (a := 3) (by decide); omega) (by decide) ?_
                refine lv_iconst (v := (-1)) hx hb dX3_event_94 (by decide) ?_
                obtain rfl := Option.some.inj hf
                exact retI hx hb hr hlocks hP hD hS dX3_event_95
      · replace hf := ifF q4 hf
        refine lv_iconst (v := (-1)) hx hb dX3_event_29 (by decide) ?_
        obtain rfl := Option.some.inj hf
        exact retI hx hb hr hlocks hP hD hS dX3_event_30

def f_X3_ringed (m16 : Int32) (m17 : Al) (p1 : Int32) : Option (Int64 × Int32) :=
if m16 = 0 then
some ((-1), 0)
else
(f_X3_in p1 0 7).bind (fun r2 =>
if (b2i r2) = 0 then
some ((-1), 0)
else
gd (ib p1 8) (
some (m17 p1.toNatClampNeg, 0)))
abbrev rmX3_ringed : Room := { frames := 1, cells := 0, slots := 0, locals := 22 }
set_option maxHeartbeats 40000000 in
set_option maxRecDepth 100000 in
theorem c_X3_ringed (l : Launch) (D : va_G) (cI cJ cZ : ClassId) (adm : Nat → Nat) (m0 : Ar) (m1 : Ar) (m2 : Ar) (m3 : Ar) (m4 : Int32) (m5 : Ar) (m6 : Int32) (m7 : Al) (m8 : Al) (m9 : Al) (m10 : Ar) (m11 : Ar) (m12 : Al) (m13 : Al) (m14 : Int32) (m15 : Al) (m16 : Int32) (m17 : Al) (m18 : Ar) (m19 : Int32) (m20 : Al) (m21 : Al) (m22 : Int32) (m23 : Int32) (m24 : Int64) (m25 : Int64) (m26 : Int32) (m27 : Int32) (p1 : Int32) (o : (Int64 × Int32)) (hf : f_X3_ringed m16 m17 p1 = some o) : CtL l yX3_ringed wsX3_ringed rmX3_ringed D cI cJ cZ [.ref (adm 0), .int p1] (wMc cI cJ adm m0 m1 m2 m3 m4 m5 m6 m7 m8 m9 m10 m11 m12 m13 m14 m15 m16 m17 m18 m19 m20 m21 m22 m23 m24 m25 m26 m27) (wMc cI cJ adm m0 m1 m2 m3 m4 m5 m6 m7 m8 m9 m10 m11 m12 m13 m14 m15 m16 m17 m18 m19 m20 m21 m22 o.2 m24 m25 m26 m27) o.1 := by
  intro sz
  refine Met.ofW (cc := cX3_ringed) (maxL := 2) (ret := (some .long)) (by decide) rfl ?_
  intro p e s m args below meth c s₁ B hml hv
  obtain ⟨rfl, hsz, hP, hK, hD0⟩ := hv
  have hx := B.exec
  have hb := B.bytes
  have hr := B.returns
  have hts := atoms_spec (ws := wsX3_ringed) B.pre
  have hown : s.vm.findClass RX3 = some m.cls := findClass_of_methodNamed B.named
  have hlocks := B.notSynchronized
  subst hsz
  have hD := hD0.self (sz := s.heap.size)
  clear hD0
  generalize hAe : va_A (wMc cI cJ adm m0 m1 m2 m3 m4 m5 m6 m7 m8 m9 m10 m11 m12 m13 m14 m15 m16 m17 m18 m19 m20 m21 m22 m23 m24 m25 m26 m27) s.heap.size = A at hD ⊢
  have hA : ∀ q : Nat, s.heap.size ≤ q → A q := fun q h => by rw [← hAe]; exact Or.inr h
  have hS : va_S A s.heap s.heap [] := va_S.rf
  have hinX3 : ∀ w ∈ wsX30, w ∈ wsX3_ringed := by decide +kernel
  have hw0 : (Cond.fieldLink RX3 69 "SwingCircuitsModel" "thrown" "I").before _ s = true := hts _ (by decide +kernel)
  have hw1 : (Cond.fieldLink RX3 170 "SwingCircuitsModel" "wasRing" "Z").before _ s = true := hts _ (by decide +kernel)
  have hw2 : (Cond.fieldLink RX3 54 "SwingCircuitsModel" "ringed" "[J").before _ s = true := hts _ (by decide +kernel)
  have hw3 : (Cond.constantLong RX3 177 (-1)).before _ s = true := hts _ (by decide +kernel)
  have hl := lv_entry ([.ref (adm 0), .int p1]) (n := 2) (Nat.le_of_ble_eq_true rfl)
  rw [lg_entry_eq]
  generalize (lg_sl ([.ref (adm 0), .int p1]) ++ List.replicate (2 - (lg_sl ([.ref (adm 0), .int p1])).length) Slot.unset).toArray = ls at hl ⊢
  replace hl : lv_has ls 2 [(0, .ref (adm 0)), (1, .int p1)] := hl
  unfold f_X3_ringed at hf
  refine lv_aload_n hx hb dX3_ringed_0 rfl (lv_at hl 0 rfl) ?_
  refine lv_iconst (v := 0) hx hb dX3_ringed_1 (by decide) ?_
  refine va_put (D := D) (ci := 3) (v := .int 0) (ty := .int) (C := RX3) (T := TX3) (N := 28) hx hb hts hinX3 tyX3 tyX3_ok nmX3 hown hK.1 hP hD hS 0 rfl rfl 23 (by decide) hw0 (fun _ h9 => h9) rfl (by decide +kernel) rfl rfl (Nat.le_of_ble_eq_true rfl) dX3_ringed_2 (fun H locs hP hD hS => ?_)
  replace hP : va_P D vwCl (wMc cI cJ adm m0 m1 m2 m3 m4 m5 m6 m7 m8 m9 m10 m11 m12 m13 m14 m15 m16 m17 m18 m19 m20 m21 m22 0 m24 m25 m26 m27) H := hP
  replace hD : va_D A (wMc cI cJ adm m0 m1 m2 m3 m4 m5 m6 m7 m8 m9 m10 m11 m12 m13 m14 m15 m16 m17 m18 m19 m20 m21 m22 0 m24 m25 m26 m27) := hD
  refine lv_aload_n hx hb dX3_ringed_5 rfl (lv_at hl 0 rfl) ?_
  refine va_get (D := D) (ci := 3) (v := .int m16) (C := RX3) (T := TX3) (N := 28) hx hb hts hinX3 hown hK.1 hP 0 rfl rfl 16 (by decide) hw1 (fun _ h9 => h9) rfl dX3_ringed_6 ?_
  refine lv_if_eq (tgt := 31) hx hb dX3_ringed_9 (by decide) (fun q1 => ?_) (fun q1 => ?_)
  · replace hf := ifT q1 hf
    refine lv_ldc2 hx hb hown hw3 dX3_ringed_31 ?_
    obtain rfl := Option.some.inj hf
    exact retL hx hb hr hlocks hP hD hS dX3_ringed_34
  · replace hf := ifF q1 hf
    refine lv_iload_n hx hb dX3_ringed_12 rfl (lv_at hl 1 rfl) ?_
    refine lv_iconst (v := 0) hx hb dX3_ringed_13 (by decide) ?_
    refine lv_bipush (v := 7) hx hb dX3_ringed_14 (by decide) ?_
    replace hf := bdE hf
    obtain ⟨r2, hgr2, hf⟩ := hf
    refine xI0 (va_runS (As := [.int p1, .int 0, .int 7]) (rest := []) ⟨hx, hb, hml, hown, hts⟩ (c_X3_in l D cI cJ cZ p1 0 7 r2 hgr2 _) (va_cwS 3 hts gX3_ringed_X3_in rfl rfl rfl (by decide +kernel) ⟨Nat.le_of_ble_eq_true rfl, Nat.le_of_ble_eq_true rfl⟩) ⟨PreW.blind, (xPre0 hK _)⟩ rfl rfl hl.1 rfl (lv_room (Nat.le_of_ble_eq_true rfl)) dX3_ringed_16 ⟨Nat.le_of_ble_eq_true rfl, Nat.le_of_ble_eq_true rfl⟩) hP hS hA (fun H locs hP hS => ?_)
    refine lv_if_eq (tgt := 31) hx hb dX3_ringed_19 (by decide) (fun q3 => ?_) (fun q3 => ?_)
    · replace hf := ifT q3 hf
      refine lv_ldc2 hx hb hown hw3 dX3_ringed_31 ?_
      obtain rfl := Option.some.inj hf
      exact retL hx hb hr hlocks hP hD hS dX3_ringed_34
    · replace hf := ifF q3 hf
      refine lv_aload_n hx hb dX3_ringed_22 rfl (lv_at hl 0 rfl) ?_
      refine va_get (D := D) (ci := 3) (v := .ref (adm 14)) (C := RX3) (T := TX3) (N := 28) hx hb hts hinX3 hown hK.1 hP 0 rfl rfl 17 (by decide) hw2 (fun _ h9 => h9) rfl dX3_ringed_23 ?_
      refine lv_iload_n hx hb dX3_ringed_26 rfl (lv_at hl 1 rfl) ?_
      replace hf := gdE hf
      obtain ⟨h4, hf⟩ := hf
      refine va_lald hx hb hK.1 hP 14 1 rfl rfl (ib_in h4) dX3_ringed_27 ?_
      refine lv_goto (tgt := 34) hx hb dX3_ringed_28 (by decide) ?_
      obtain rfl := Option.some.inj hf
      exact retL hx hb hr hlocks hP hD hS dX3_ringed_34

def f_X3_drawer_B28 (m18 : Ar) (m19 : Int32) (p1 : Int32) (rec28 : Int32 → Option (Int32 × Ar × Int32 × Int32)) (l2_28 : Int32) : Option (Int32 × Ar × Int32 × Int32) :=
if m19 ≤ l2_28 then
gd (ib m19 10) (
bnd (m19 + 1) (fun v6 =>
some (v6, upd m18 m19.toNatClampNeg p1, v6, 0)))
else
gd (ib l2_28 10) (
if ¬ (m18 l2_28.toNatClampNeg) = p1 then
rec28 (l2_28 + 1)
else
some ((-1), m18, m19, 0))
def f_X3_drawer_L28 (m18 : Ar) (m19 : Int32) (p1 : Int32) : Nat → Int32 → Option (Int32 × Ar × Int32 × Int32)
  | 0 => fun _ => none
  | n + 1 => f_X3_drawer_B28 m18 m19 p1 (f_X3_drawer_L28 m18 m19 p1 n)
def f_X3_drawer (m18 : Ar) (m19 : Int32) (p1 : Int32) : Option (Int32 × Ar × Int32 × Int32) :=
(f_X3_in p1 1 60).bind (fun r1 =>
if (b2i r1) = 0 then
some ((-1), m18, m19, 0)
else
if ¬ m19 = 10 then
f_X3_drawer_L28 m18 m19 p1 fuel 0
else
some ((-1), m18, m19, 0))
abbrev rmX3_drawer : Room := { frames := 1, cells := 0, slots := 0, locals := 22 }
set_option maxHeartbeats 40000000 in
set_option maxRecDepth 100000 in
theorem c_X3_drawer (l : Launch) (D : va_G) (cI cJ cZ : ClassId) (adm : Nat → Nat) (m0 : Ar) (m1 : Ar) (m2 : Ar) (m3 : Ar) (m4 : Int32) (m5 : Ar) (m6 : Int32) (m7 : Al) (m8 : Al) (m9 : Al) (m10 : Ar) (m11 : Ar) (m12 : Al) (m13 : Al) (m14 : Int32) (m15 : Al) (m16 : Int32) (m17 : Al) (m18 : Ar) (m19 : Int32) (m20 : Al) (m21 : Al) (m22 : Int32) (m23 : Int32) (m24 : Int64) (m25 : Int64) (m26 : Int32) (m27 : Int32) (p1 : Int32) (o : (Int32 × Ar × Int32 × Int32)) (hf : f_X3_drawer m18 m19 p1 = some o) : CtI l yX3_drawer wsX3_drawer rmX3_drawer D cI cJ cZ [.ref (adm 0), .int p1] (wMc cI cJ adm m0 m1 m2 m3 m4 m5 m6 m7 m8 m9 m10 m11 m12 m13 m14 m15 m16 m17 m18 m19 m20 m21 m22 m23 m24 m25 m26 m27) (wMc cI cJ adm m0 m1 m2 m3 m4 m5 m6 m7 m8 m9 m10 m11 m12 m13 m14 m15 m16 m17 o.2.1 o.2.2.1 m20 m21 m22 o.2.2.2 m24 m25 m26 m27) o.1 := by
  intro sz
  refine Met.ofW (cc := cX3_drawer) (maxL := 3) (ret := (some .int)) (by decide) rfl ?_
  intro p e s m args below meth c s₁ B hml hv
  obtain ⟨rfl, hsz, hP, hK, hD0⟩ := hv
  have hx := B.exec
  have hb := B.bytes
  have hr := B.returns
  have hts := atoms_spec (ws := wsX3_drawer) B.pre
  have hown : s.vm.findClass RX3 = some m.cls := findClass_of_methodNamed B.named
  have hlocks := B.notSynchronized
  subst hsz
  have hD := hD0.self (sz := s.heap.size)
  clear hD0
  generalize hAe : va_A (wMc cI cJ adm m0 m1 m2 m3 m4 m5 m6 m7 m8 m9 m10 m11 m12 m13 m14 m15 m16 m17 m18 m19 m20 m21 m22 m23 m24 m25 m26 m27) s.heap.size = A at hD ⊢
  have hA : ∀ q : Nat, s.heap.size ≤ q → A q := fun q h => by rw [← hAe]; exact Or.inr h
  have hS : va_S A s.heap s.heap [] := va_S.rf
  have hinX3 : ∀ w ∈ wsX30, w ∈ wsX3_drawer := by decide +kernel
  have hw0 : (Cond.fieldLink RX3 69 "SwingCircuitsModel" "thrown" "I").before _ s = true := hts _ (by decide +kernel)
  have hw1 : (Cond.fieldLink RX3 149 "SwingCircuitsModel" "drawn" "I").before _ s = true := hts _ (by decide +kernel)
  have hw2 : (Cond.fieldLink RX3 57 "SwingCircuitsModel" "drawer" "[I").before _ s = true := hts _ (by decide +kernel)
  have hl := lv_entry ([.ref (adm 0), .int p1]) (n := 3) (Nat.le_of_ble_eq_true rfl)
  rw [lg_entry_eq]
  generalize (lg_sl ([.ref (adm 0), .int p1]) ++ List.replicate (3 - (lg_sl ([.ref (adm 0), .int p1])).length) Slot.unset).toArray = ls at hl ⊢
  replace hl : lv_has ls 3 [(0, .ref (adm 0)), (1, .int p1)] := hl
  unfold f_X3_drawer at hf
  refine lv_aload_n hx hb dX3_drawer_0 rfl (lv_at hl 0 rfl) ?_
  refine lv_iconst (v := 0) hx hb dX3_drawer_1 (by decide) ?_
  refine va_put (D := D) (ci := 3) (v := .int 0) (ty := .int) (C := RX3) (T := TX3) (N := 28) hx hb hts hinX3 tyX3 tyX3_ok nmX3 hown hK.1 hP hD hS 0 rfl rfl 23 (by decide) hw0 (fun _ h9 => h9) rfl (by decide +kernel) rfl rfl (Nat.le_of_ble_eq_true rfl) dX3_drawer_2 (fun H locs hP hD hS => ?_)
  replace hP : va_P D vwCl (wMc cI cJ adm m0 m1 m2 m3 m4 m5 m6 m7 m8 m9 m10 m11 m12 m13 m14 m15 m16 m17 m18 m19 m20 m21 m22 0 m24 m25 m26 m27) H := hP
  replace hD : va_D A (wMc cI cJ adm m0 m1 m2 m3 m4 m5 m6 m7 m8 m9 m10 m11 m12 m13 m14 m15 m16 m17 m18 m19 m20 m21 m22 0 m24 m25 m26 m27) := hD
  refine lv_iload_n hx hb dX3_drawer_5 rfl (lv_at hl 1 rfl) ?_
  refine lv_iconst (v := 1) hx hb dX3_drawer_6 (by decide) ?_
  refine lv_bipush (v := 60) hx hb dX3_drawer_7 (by decide) ?_
  replace hf := bdE hf
  obtain ⟨r1, hgr1, hf⟩ := hf
  refine xI0 (va_runS (As := [.int p1, .int 1, .int 60]) (rest := []) ⟨hx, hb, hml, hown, hts⟩ (c_X3_in l D cI cJ cZ p1 1 60 r1 hgr1 _) (va_cwS 3 hts gX3_drawer_X3_in rfl rfl rfl (by decide +kernel) ⟨Nat.le_of_ble_eq_true rfl, Nat.le_of_ble_eq_true rfl⟩) ⟨PreW.blind, (xPre0 hK _)⟩ rfl rfl hl.1 rfl (lv_room (Nat.le_of_ble_eq_true rfl)) dX3_drawer_9 ⟨Nat.le_of_ble_eq_true rfl, Nat.le_of_ble_eq_true rfl⟩) hP hS hA (fun H locs hP hS => ?_)
  refine lv_if_eq (tgt := 24) hx hb dX3_drawer_12 (by decide) (fun q2 => ?_) (fun q2 => ?_)
  · replace hf := ifT q2 hf
    refine lv_iconst (v := (-1)) hx hb dX3_drawer_24 (by decide) ?_
    obtain rfl := Option.some.inj hf
    exact retI hx hb hr hlocks hP hD hS dX3_drawer_25
  · replace hf := ifF q2 hf
    refine lv_aload_n hx hb dX3_drawer_15 rfl (lv_at hl 0 rfl) ?_
    refine va_get (D := D) (ci := 3) (v := .int m19) (C := RX3) (T := TX3) (N := 28) hx hb hts hinX3 hown hK.1 hP 0 rfl rfl 19 (by decide) hw1 (fun _ h9 => h9) rfl dX3_drawer_16 ?_
    refine lv_bipush (v := 10) hx hb dX3_drawer_19 (by decide) ?_
    refine lv_icmp_ne (tgt := 26) hx hb dX3_drawer_21 (by decide) (fun q3 => ?_) (fun q3 => ?_)
    · replace hf := ifT q3 hf
      refine lv_iconst (v := 0) hx hb dX3_drawer_26 (by decide) ?_
      refine lv_istore_n (lv' := [(2, .int 0), (0, .ref (adm 0)), (1, .int p1)]) hx hb dX3_drawer_27 rfl hl (by decide) rfl (fun ls hl => ?_)
      have L28 : ∀ (n : Nat) (l2_28 : Int32) (H : Heap) (locs : List Loc) (ls : Array Slot), f_X3_drawer_L28 m18 m19 p1 n l2_28 = some o → va_P D vwCl (wMc cI cJ adm m0 m1 m2 m3 m4 m5 m6 m7 m8 m9 m10 m11 m12 m13 m14 m15 m16 m17 m18 m19 m20 m21 m22 0 m24 m25 m26 m27) H → va_D A (wMc cI cJ adm m0 m1 m2 m3 m4 m5 m6 m7 m8 m9 m10 m11 m12 m13 m14 m15 m16 m17 m18 m19 m20 m21 m22 0 m24 m25 m26 m27) → va_S A s.heap H locs → lv_has ls 3 [(0, .ref (adm 0)), (1, .int p1), (2, .int l2_28)] → W p l e (headSpec wsX3_drawer rmX3_drawer).room s m ([.ref (adm 0), .int p1] : List Value).toArray below meth c H locs 0 0 (MQ below (QI D A o.1 (wMc cI cJ adm m0 m1 m2 m3 m4 m5 m6 m7 m8 m9 m10 m11 m12 m13 m14 m15 m16 m17 o.2.1 o.2.2.1 m20 m21 m22 o.2.2.2 m24 m25 m26 m27)) ([.ref (adm 0), .int p1] : List Value).toArray s 0 0 A) (F0 m 28 ls []) := by
        intro n
        induction n with
        | zero => intro l2_28 H locs ls hf; cases hf
        | succ n ih28 =>
          intro l2_28 H locs ls hf hP hD hS hl
          replace hf : f_X3_drawer_B28 m18 m19 p1 (f_X3_drawer_L28 m18 m19 p1 n) l2_28 = some o := hf
          generalize f_X3_drawer_L28 m18 m19 p1 n = rec28 at ih28 hf
          unfold f_X3_drawer_B28 at hf
          refine lv_iload_n hx hb dX3_drawer_28 rfl (lv_at hl 2 rfl) ?_
          refine lv_aload_n hx hb dX3_drawer_29 rfl (lv_at hl 0 rfl) ?_
          refine va_get (D := D) (ci := 3) (v := .int m19) (C := RX3) (T := TX3) (N := 28) hx hb hts hinX3 hown hK.1 hP 0 rfl rfl 19 (by decide) hw1 (fun _ h9 => h9) rfl dX3_drawer_30 ?_
          refine lv_icmp_ge (tgt := 54) hx hb dX3_drawer_33 (by decide) (fun q4 => ?_) (fun q4 => ?_)
          · replace hf := ifT q4 hf
            refine lv_aload_n hx hb dX3_drawer_54 rfl (lv_at hl 0 rfl) ?_
            refine va_get (D := D) (ci := 3) (v := .ref (adm 15)) (C := RX3) (T := TX3) (N := 28) hx hb hts hinX3 hown hK.1 hP 0 rfl rfl 18 (by decide) hw2 (fun _ h9 => h9) rfl dX3_drawer_55 ?_
            refine lv_aload_n hx hb dX3_drawer_58 rfl (lv_at hl 0 rfl) ?_
            refine va_get (D := D) (ci := 3) (v := .int m19) (C := RX3) (T := TX3) (N := 28) hx hb hts hinX3 hown hK.1 hP 0 rfl rfl 19 (by decide) hw1 (fun _ h9 => h9) rfl dX3_drawer_59 ?_
            refine lv_iload_n hx hb dX3_drawer_62 rfl (lv_at hl 1 rfl) ?_
            replace hf := gdE hf
            obtain ⟨h5, hf⟩ := hf
            refine va_iast hx hb hK.1 hP hD hS 15 0 rfl rfl (ib_in h5) dX3_drawer_63 (fun H locs hP hD hS => ?_)
            replace hP : va_P D vwCl (wMc cI cJ adm m0 m1 m2 m3 m4 m5 m6 m7 m8 m9 m10 m11 m12 m13 m14 m15 m16 m17 (upd m18 m19.toNatClampNeg p1) m19 m20 m21 m22 0 m24 m25 m26 m27) H := hP
            replace hD : va_D A (wMc cI cJ adm m0 m1 m2 m3 m4 m5 m6 m7 m8 m9 m10 m11 m12 m13 m14 m15 m16 m17 (upd m18 m19.toNatClampNeg p1) m19 m20 m21 m22 0 m24 m25 m26 m27) := hD
            refine lv_aload_n hx hb dX3_drawer_64 rfl (lv_at hl 0 rfl) ?_
            refine lv_dup hx hb dX3_drawer_65 rfl ?_
            refine va_get (D := D) (ci := 3) (v := .int m19) (C := RX3) (T := TX3) (N := 28) hx hb hts hinX3 hown hK.1 hP 0 rfl rfl 19 (by decide) hw1 (fun _ h9 => h9) rfl dX3_drawer_66 ?_
            refine lv_iconst (v := 1) hx hb dX3_drawer_69 (by decide) ?_
            refine lv_iadd hx hb dX3_drawer_70 ?_
            refine lv_topi (fun v6 ev6 => ?_)
            replace hf := bndE hf ev6
            refine va_put (D := D) (ci := 3) (v := .int v6) (ty := .int) (C := RX3) (T := TX3) (N := 28) hx hb hts hinX3 tyX3 tyX3_ok nmX3 hown hK.1 hP hD hS 0 rfl rfl 19 (by decide) hw1 (fun _ h9 => h9) rfl (by decide +kernel) rfl rfl (Nat.le_of_ble_eq_true rfl) dX3_drawer_71 (fun H locs hP hD hS => ?_)
            replace hP : va_P D vwCl (wMc cI cJ adm m0 m1 m2 m3 m4 m5 m6 m7 m8 m9 m10 m11 m12 m13 m14 m15 m16 m17 (upd m18 m19.toNatClampNeg p1) v6 m20 m21 m22 0 m24 m25 m26 m27) H := hP
            replace hD : va_D A (wMc cI cJ adm m0 m1 m2 m3 m4 m5 m6 m7 m8 m9 m10 m11 m12 m13 m14 m15 m16 m17 (upd m18 m19.toNatClampNeg p1) v6 m20 m21 m22 0 m24 m25 m26 m27) := hD
            refine lv_aload_n hx hb dX3_drawer_74 rfl (lv_at hl 0 rfl) ?_
            refine va_get (D := D) (ci := 3) (v := .int v6) (C := RX3) (T := TX3) (N := 28) hx hb hts hinX3 hown hK.1 hP 0 rfl rfl 19 (by decide) hw1 (fun _ h9 => h9) rfl dX3_drawer_75 ?_
            obtain rfl := Option.some.inj hf
            exact retI hx hb hr hlocks hP hD hS dX3_drawer_78
          · replace hf := ifF q4 hf
            refine lv_aload_n hx hb dX3_drawer_36 rfl (lv_at hl 0 rfl) ?_
            refine va_get (D := D) (ci := 3) (v := .ref (adm 15)) (C := RX3) (T := TX3) (N := 28) hx hb hts hinX3 hown hK.1 hP 0 rfl rfl 18 (by decide) hw2 (fun _ h9 => h9) rfl dX3_drawer_37 ?_
            refine lv_iload_n hx hb dX3_drawer_40 rfl (lv_at hl 2 rfl) ?_
            replace hf := gdE hf
            obtain ⟨h7, hf⟩ := hf
            refine va_iald hx hb hK.1 hP 15 0 rfl rfl (ib_in h7) dX3_drawer_41 ?_
            refine lv_iload_n hx hb dX3_drawer_42 rfl (lv_at hl 1 rfl) ?_
            refine lv_icmp_ne (tgt := 48) hx hb dX3_drawer_43 (by decide) (fun q8 => ?_) (fun q8 => ?_)
            · replace hf := ifT q8 hf
              refine lv_iinc (v := l2_28 + 1) (lv' := [(2, .int (l2_28 + 1)), (0, .ref (adm 0)), (1, .int p1)]) hx hb dX3_drawer_48 hl (k := 2) rfl (by rfl) (by decide) rfl (fun ls hl => ?_)
              refine lv_goto (tgt := 28) hx hb dX3_drawer_51 (by decide) ?_
              exact ih28 (l2_28 + 1) _ _ _ hf hP hD hS (lv_sub hl [1, 2, 0] rfl)
            · replace hf := ifN q8 hf
              refine lv_iconst (v := (-1)) hx hb dX3_drawer_46 (by decide) ?_
              obtain rfl := Option.some.inj hf
              exact retI hx hb hr hlocks hP hD hS dX3_drawer_47
      exact L28 fuel 0 _ _ _ hf hP hD hS (lv_sub hl [1, 2, 0] rfl)
    · replace hf := ifN q3 hf
      refine lv_iconst (v := (-1)) hx hb dX3_drawer_24 (by decide) ?_
      obtain rfl := Option.some.inj hf
      exact retI hx hb hr hlocks hP hD hS dX3_drawer_25

def f_X3_parts (m0 : Ar) (m1 : Ar) (m4 : Int32) (m18 : Ar) (m19 : Int32) (m24 : Int64) (m25 : Int64) (p1 : Int32) (p2 : Int32) (p3 : Int32) : Option (Int32 × Int32 × Int64 × Int64) :=
(f_X3_isCell m4 p1).bind (fun r1 =>
if (b2i r1) = 0 then
some ((-1), 0, m24, m25)
else
(f_X3_isFraction p2 p3).bind (fun r3 =>
if (b2i r3) = 0 then
some ((-1), 0, m24, m25)
else
(f_X3_ways m0 m1 m18 m19 m24 m25 p1 p2 p3 ((-1))).bind (fun r5 =>
some (r5.1, 0, r5.2.1, r5.2.2))))
abbrev rmX3_parts : Room := { frames := 124, cells := 0, slots := 0, locals := 2859 }
set_option maxHeartbeats 40000000 in
set_option maxRecDepth 100000 in
theorem c_X3_parts (l : Launch) (D : va_G) (cI cJ cZ : ClassId) (adm : Nat → Nat) (m0 : Ar) (m1 : Ar) (m2 : Ar) (m3 : Ar) (m4 : Int32) (m5 : Ar) (m6 : Int32) (m7 : Al) (m8 : Al) (m9 : Al) (m10 : Ar) (m11 : Ar) (m12 : Al) (m13 : Al) (m14 : Int32) (m15 : Al) (m16 : Int32) (m17 : Al) (m18 : Ar) (m19 : Int32) (m20 : Al) (m21 : Al) (m22 : Int32) (m23 : Int32) (m24 : Int64) (m25 : Int64) (m26 : Int32) (m27 : Int32) (p1 : Int32) (p2 : Int32) (p3 : Int32) (o : (Int32 × Int32 × Int64 × Int64)) (hf : f_X3_parts m0 m1 m4 m18 m19 m24 m25 p1 p2 p3 = some o) : CtI l yX3_parts wsX3_parts rmX3_parts D cI cJ cZ [.ref (adm 0), .int p1, .int p2, .int p3] (wMc cI cJ adm m0 m1 m2 m3 m4 m5 m6 m7 m8 m9 m10 m11 m12 m13 m14 m15 m16 m17 m18 m19 m20 m21 m22 m23 m24 m25 m26 m27) (wMc cI cJ adm m0 m1 m2 m3 m4 m5 m6 m7 m8 m9 m10 m11 m12 m13 m14 m15 m16 m17 m18 m19 m20 m21 m22 o.2.1 o.2.2.1 o.2.2.2 m26 m27) o.1 := by
  intro sz
  refine Met.ofW (cc := cX3_parts) (maxL := 4) (ret := (some .int)) (by decide) rfl ?_
  intro p e s m args below meth c s₁ B hml hv
  obtain ⟨rfl, hsz, hP, hK, hD0⟩ := hv
  have hx := B.exec
  have hb := B.bytes
  have hr := B.returns
  have hts := atoms_spec (ws := wsX3_parts) B.pre
  have hown : s.vm.findClass RX3 = some m.cls := findClass_of_methodNamed B.named
  have hlocks := B.notSynchronized
  subst hsz
  have hD := hD0.self (sz := s.heap.size)
  clear hD0
  generalize hAe : va_A (wMc cI cJ adm m0 m1 m2 m3 m4 m5 m6 m7 m8 m9 m10 m11 m12 m13 m14 m15 m16 m17 m18 m19 m20 m21 m22 m23 m24 m25 m26 m27) s.heap.size = A at hD ⊢
  have hA : ∀ q : Nat, s.heap.size ≤ q → A q := fun q h => by rw [← hAe]; exact Or.inr h
  have hS : va_S A s.heap s.heap [] := va_S.rf
  have hinX3 : ∀ w ∈ wsX30, w ∈ wsX3_parts := by decide +kernel
  have hw0 : (Cond.fieldLink RX3 69 "SwingCircuitsModel" "thrown" "I").before _ s = true := hts _ (by decide +kernel)
  have hl := lv_entry ([.ref (adm 0), .int p1, .int p2, .int p3]) (n := 4) (Nat.le_of_ble_eq_true rfl)
  rw [lg_entry_eq]
  generalize (lg_sl ([.ref (adm 0), .int p1, .int p2, .int p3]) ++ List.replicate (4 - (lg_sl ([.ref (adm 0), .int p1, .int p2, .int p3])).length) Slot.unset).toArray = ls at hl ⊢
  replace hl : lv_has ls 4 [(0, .ref (adm 0)), (1, .int p1), (2, .int p2), (3, .int p3)] := hl
  unfold f_X3_parts at hf
  refine lv_aload_n hx hb dX3_parts_0 rfl (lv_at hl 0 rfl) ?_
  refine lv_iconst (v := 0) hx hb dX3_parts_1 (by decide) ?_
  refine va_put (D := D) (ci := 3) (v := .int 0) (ty := .int) (C := RX3) (T := TX3) (N := 28) hx hb hts hinX3 tyX3 tyX3_ok nmX3 hown hK.1 hP hD hS 0 rfl rfl 23 (by decide) hw0 (fun _ h9 => h9) rfl (by decide +kernel) rfl rfl (Nat.le_of_ble_eq_true rfl) dX3_parts_2 (fun H locs hP hD hS => ?_)
  replace hP : va_P D vwCl (wMc cI cJ adm m0 m1 m2 m3 m4 m5 m6 m7 m8 m9 m10 m11 m12 m13 m14 m15 m16 m17 m18 m19 m20 m21 m22 0 m24 m25 m26 m27) H := hP
  replace hD : va_D A (wMc cI cJ adm m0 m1 m2 m3 m4 m5 m6 m7 m8 m9 m10 m11 m12 m13 m14 m15 m16 m17 m18 m19 m20 m21 m22 0 m24 m25 m26 m27) := hD
  refine lv_aload_n hx hb dX3_parts_5 rfl (lv_at hl 0 rfl) ?_
  refine lv_iload_n hx hb dX3_parts_6 rfl (lv_at hl 1 rfl) ?_
  replace hf := bdE hf
  obtain ⟨r1, hgr1, hf⟩ := hf
  refine xIw (va_runV (As := [.int p1]) (rest := []) ⟨hx, hb, hml, hown, hts⟩ (c_X3_isCell l D cI cJ cZ adm m0 m1 m2 m3 m4 m5 m6 m7 m8 m9 m10 m11 m12 m13 m14 m15 m16 m17 m18 m19 m20 m21 m22 0 m24 m25 m26 m27 p1 r1 hgr1 _) (cwV 1 hts gX3_parts_X3_isCell rfl rfl rfl (by decide +kernel) ⟨Nat.le_of_ble_eq_true rfl, Nat.le_of_ble_eq_true rfl⟩) ⟨PreW.blind, xRecv (q0 := 0) hK hP rfl rfl, (xPrew hK hP hD _)⟩ rfl rfl hl.1 rfl (lv_room (Nat.le_of_ble_eq_true rfl)) dX3_parts_7 ⟨Nat.le_of_ble_eq_true rfl, Nat.le_of_ble_eq_true rfl⟩) hD hS hA (fun H locs hP hD hS => ?_)
  replace hP : va_P D vwCl (wMc cI cJ adm m0 m1 m2 m3 m4 m5 m6 m7 m8 m9 m10 m11 m12 m13 m14 m15 m16 m17 m18 m19 m20 m21 m22 0 m24 m25 m26 m27) H := hP
  replace hD : va_D A (wMc cI cJ adm m0 m1 m2 m3 m4 m5 m6 m7 m8 m9 m10 m11 m12 m13 m14 m15 m16 m17 m18 m19 m20 m21 m22 0 m24 m25 m26 m27) := hD
  refine lv_if_eq (tgt := 32) hx hb dX3_parts_10 (by decide) (fun q2 => ?_) (fun q2 => ?_)
  · replace hf := ifT q2 hf
    refine lv_iconst (v := (-1)) hx hb dX3_parts_32 (by decide) ?_
    obtain rfl := Option.some.inj hf
    exact retI hx hb hr hlocks hP hD hS dX3_parts_33
  · replace hf := ifF q2 hf
    refine lv_iload_n hx hb dX3_parts_13 rfl (lv_at hl 2 rfl) ?_
    refine lv_iload_n hx hb dX3_parts_14 rfl (lv_at hl 3 rfl) ?_
    replace hf := bdE hf
    obtain ⟨r3, hgr3, hf⟩ := hf
    refine xI0 (va_runS (As := [.int p2, .int p3]) (rest := []) ⟨hx, hb, hml, hown, hts⟩ (c_X3_isFraction l D cI cJ cZ p2 p3 r3 hgr3 _) (va_cwS 2 hts gX3_parts_X3_isFraction rfl rfl rfl (by decide +kernel) ⟨Nat.le_of_ble_eq_true rfl, Nat.le_of_ble_eq_true rfl⟩) ⟨PreW.blind, (xPre0 hK _)⟩ rfl rfl hl.1 rfl (lv_room (Nat.le_of_ble_eq_true rfl)) dX3_parts_15 ⟨Nat.le_of_ble_eq_true rfl, Nat.le_of_ble_eq_true rfl⟩) hP hS hA (fun H locs hP hS => ?_)
    refine lv_if_eq (tgt := 32) hx hb dX3_parts_18 (by decide) (fun q4 => ?_) (fun q4 => ?_)
    · replace hf := ifT q4 hf
      refine lv_iconst (v := (-1)) hx hb dX3_parts_32 (by decide) ?_
      obtain rfl := Option.some.inj hf
      exact retI hx hb hr hlocks hP hD hS dX3_parts_33
    · replace hf := ifF q4 hf
      refine lv_aload_n hx hb dX3_parts_21 rfl (lv_at hl 0 rfl) ?_
      refine lv_iload_n hx hb dX3_parts_22 rfl (lv_at hl 1 rfl) ?_
      refine lv_iload_n hx hb dX3_parts_23 rfl (lv_at hl 2 rfl) ?_
      refine lv_iload_n hx hb dX3_parts_24 rfl (lv_at hl 3 rfl) ?_
      refine lv_iconst (v := (-1)) hx hb dX3_parts_25 (by decide) ?_
      replace hf := bdE hf
      obtain ⟨r5, hgr5, hf⟩ := hf
      refine xIw (va_runV (As := [.int p1, .int p2, .int p3, .int ((-1))]) (rest := []) ⟨hx, hb, hml, hown, hts⟩ (c_X3_ways l D cI cJ cZ adm m0 m1 m2 m3 m4 m5 m6 m7 m8 m9 m10 m11 m12 m13 m14 m15 m16 m17 m18 m19 m20 m21 m22 0 m24 m25 m26 m27 p1 p2 p3 ((-1)) r5 hgr5 _) (cwV 4 hts gX3_parts_X3_ways rfl rfl rfl (by decide +kernel) ⟨Nat.le_of_ble_eq_true rfl, Nat.le_of_ble_eq_true rfl⟩) ⟨PreW.blind, xRecv (q0 := 0) hK hP rfl rfl, (xPrew hK hP hD _)⟩ rfl rfl hl.1 rfl (lv_room (Nat.le_of_ble_eq_true rfl)) dX3_parts_26 ⟨Nat.le_of_ble_eq_true rfl, Nat.le_of_ble_eq_true rfl⟩) hD hS hA (fun H locs hP hD hS => ?_)
      replace hP : va_P D vwCl (wMc cI cJ adm m0 m1 m2 m3 m4 m5 m6 m7 m8 m9 m10 m11 m12 m13 m14 m15 m16 m17 m18 m19 m20 m21 m22 0 r5.2.1 r5.2.2 m26 m27) H := hP
      replace hD : va_D A (wMc cI cJ adm m0 m1 m2 m3 m4 m5 m6 m7 m8 m9 m10 m11 m12 m13 m14 m15 m16 m17 m18 m19 m20 m21 m22 0 r5.2.1 r5.2.2 m26 m27) := hD
      refine lv_goto (tgt := 33) hx hb dX3_parts_29 (by decide) ?_
      obtain rfl := Option.some.inj hf
      exact retI hx hb hr hlocks hP hD hS dX3_parts_33

def f_X3_part (m0 : Ar) (m1 : Ar) (m4 : Int32) (m18 : Ar) (m19 : Int32) (m24 : Int64) (m25 : Int64) (p1 : Int32) (p2 : Int32) (p3 : Int32) (p4 : Int32) : Option (Int32 × Int32 × Int64 × Int64) :=
(f_X3_isCell m4 p1).bind (fun r1 =>
if (b2i r1) = 0 then
some ((-1), 0, m24, m25)
else
(f_X3_isFraction p2 p3).bind (fun r3 =>
if (b2i r3) = 0 then
some ((-1), 0, m24, m25)
else
if p4 < 0 then
some ((-1), 0, m24, m25)
else
(f_X3_ways m0 m1 m18 m19 m24 m25 p1 p2 p3 p4).bind (fun r6 =>
some (r6.1, 0, r6.2.1, r6.2.2))))
abbrev rmX3_part : Room := { frames := 124, cells := 0, slots := 0, locals := 2859 }
set_option maxHeartbeats 40000000 in
set_option maxRecDepth 100000 in
theorem c_X3_part (l : Launch) (D : va_G) (cI cJ cZ : ClassId) (adm : Nat → Nat) (m0 : Ar) (m1 : Ar) (m2 : Ar) (m3 : Ar) (m4 : Int32) (m5 : Ar) (m6 : Int32) (m7 : Al) (m8 : Al) (m9 : Al) (m10 : Ar) (m11 : Ar) (m12 : Al) (m13 : Al) (m14 : Int32) (m15 : Al) (m16 : Int32) (m17 : Al) (m18 : Ar) (m19 : Int32) (m20 : Al) (m21 : Al) (m22 : Int32) (m23 : Int32) (m24 : Int64) (m25 : Int64) (m26 : Int32) (m27 : Int32) (p1 : Int32) (p2 : Int32) (p3 : Int32) (p4 : Int32) (o : (Int32 × Int32 × Int64 × Int64)) (hf : f_X3_part m0 m1 m4 m18 m19 m24 m25 p1 p2 p3 p4 = some o) : CtI l yX3_part wsX3_part rmX3_part D cI cJ cZ [.ref (adm 0), .int p1, .int p2, .int p3, .int p4] (wMc cI cJ adm m0 m1 m2 m3 m4 m5 m6 m7 m8 m9 m10 m11 m12 m13 m14 m15 m16 m17 m18 m19 m20 m21 m22 m23 m24 m25 m26 m27) (wMc cI cJ adm m0 m1 m2 m3 m4 m5 m6 m7 m8 m9 m10 m11 m12 m13 m14 m15 m16 m17 m18 m19 m20 m21 m22 o.2.1 o.2.2.1 o.2.2.2 m26 m27) o.1 := by
  intro sz
  refine Met.ofW (cc := cX3_part) (maxL := 5) (ret := (some .int)) (by decide) rfl ?_
  intro p e s m args below meth c s₁ B hml hv
  obtain ⟨rfl, hsz, hP, hK, hD0⟩ := hv
  have hx := B.exec
  have hb := B.bytes
  have hr := B.returns
  have hts := atoms_spec (ws := wsX3_part) B.pre
  have hown : s.vm.findClass RX3 = some m.cls := findClass_of_methodNamed B.named
  have hlocks := B.notSynchronized
  subst hsz
  have hD := hD0.self (sz := s.heap.size)
  clear hD0
  generalize hAe : va_A (wMc cI cJ adm m0 m1 m2 m3 m4 m5 m6 m7 m8 m9 m10 m11 m12 m13 m14 m15 m16 m17 m18 m19 m20 m21 m22 m23 m24 m25 m26 m27) s.heap.size = A at hD ⊢
  have hA : ∀ q : Nat, s.heap.size ≤ q → A q := fun q h => by rw [← hAe]; exact Or.inr h
  have hS : va_S A s.heap s.heap [] := va_S.rf
  have hinX3 : ∀ w ∈ wsX30, w ∈ wsX3_part := by decide +kernel
  have hw0 : (Cond.fieldLink RX3 69 "SwingCircuitsModel" "thrown" "I").before _ s = true := hts _ (by decide +kernel)
  have hl := lv_entry ([.ref (adm 0), .int p1, .int p2, .int p3, .int p4]) (n := 5) (Nat.le_of_ble_eq_true rfl)
  rw [lg_entry_eq]
  generalize (lg_sl ([.ref (adm 0), .int p1, .int p2, .int p3, .int p4]) ++ List.replicate (5 - (lg_sl ([.ref (adm 0), .int p1, .int p2, .int p3, .int p4])).length) Slot.unset).toArray = ls at hl ⊢
  replace hl : lv_has ls 5 [(0, .ref (adm 0)), (1, .int p1), (2, .int p2), (3, .int p3), (4, .int p4)] := hl
  unfold f_X3_part at hf
  refine lv_aload_n hx hb dX3_part_0 rfl (lv_at hl 0 rfl) ?_
  refine lv_iconst (v := 0) hx hb dX3_part_1 (by decide) ?_
  refine va_put (D := D) (ci := 3) (v := .int 0) (ty := .int) (C := RX3) (T := TX3) (N := 28) hx hb hts hinX3 tyX3 tyX3_ok nmX3 hown hK.1 hP hD hS 0 rfl rfl 23 (by decide) hw0 (fun _ h9 => h9) rfl (by decide +kernel) rfl rfl (Nat.le_of_ble_eq_true rfl) dX3_part_2 (fun H locs hP hD hS => ?_)
  replace hP : va_P D vwCl (wMc cI cJ adm m0 m1 m2 m3 m4 m5 m6 m7 m8 m9 m10 m11 m12 m13 m14 m15 m16 m17 m18 m19 m20 m21 m22 0 m24 m25 m26 m27) H := hP
  replace hD : va_D A (wMc cI cJ adm m0 m1 m2 m3 m4 m5 m6 m7 m8 m9 m10 m11 m12 m13 m14 m15 m16 m17 m18 m19 m20 m21 m22 0 m24 m25 m26 m27) := hD
  refine lv_aload_n hx hb dX3_part_5 rfl (lv_at hl 0 rfl) ?_
  refine lv_iload_n hx hb dX3_part_6 rfl (lv_at hl 1 rfl) ?_
  replace hf := bdE hf
  obtain ⟨r1, hgr1, hf⟩ := hf
  refine xIw (va_runV (As := [.int p1]) (rest := []) ⟨hx, hb, hml, hown, hts⟩ (c_X3_isCell l D cI cJ cZ adm m0 m1 m2 m3 m4 m5 m6 m7 m8 m9 m10 m11 m12 m13 m14 m15 m16 m17 m18 m19 m20 m21 m22 0 m24 m25 m26 m27 p1 r1 hgr1 _) (cwV 1 hts gX3_part_X3_isCell rfl rfl rfl (by decide +kernel) ⟨Nat.le_of_ble_eq_true rfl, Nat.le_of_ble_eq_true rfl⟩) ⟨PreW.blind, xRecv (q0 := 0) hK hP rfl rfl, (xPrew hK hP hD _)⟩ rfl rfl hl.1 rfl (lv_room (Nat.le_of_ble_eq_true rfl)) dX3_part_7 ⟨Nat.le_of_ble_eq_true rfl, Nat.le_of_ble_eq_true rfl⟩) hD hS hA (fun H locs hP hD hS => ?_)
  replace hP : va_P D vwCl (wMc cI cJ adm m0 m1 m2 m3 m4 m5 m6 m7 m8 m9 m10 m11 m12 m13 m14 m15 m16 m17 m18 m19 m20 m21 m22 0 m24 m25 m26 m27) H := hP
  replace hD : va_D A (wMc cI cJ adm m0 m1 m2 m3 m4 m5 m6 m7 m8 m9 m10 m11 m12 m13 m14 m15 m16 m17 m18 m19 m20 m21 m22 0 m24 m25 m26 m27) := hD
  refine lv_if_eq (tgt := 38) hx hb dX3_part_10 (by decide) (fun q2 => ?_) (fun q2 => ?_)
  · replace hf := ifT q2 hf
    refine lv_iconst (v := (-1)) hx hb dX3_part_38 (by decide) ?_
    obtain rfl := Option.some.inj hf
    exact retI hx hb hr hlocks hP hD hS dX3_part_39
  · replace hf := ifF q2 hf
    refine lv_iload_n hx hb dX3_part_13 rfl (lv_at hl 2 rfl) ?_
    refine lv_iload_n hx hb dX3_part_14 rfl (lv_at hl 3 rfl) ?_
    replace hf := bdE hf
    obtain ⟨r3, hgr3, hf⟩ := hf
    refine xI0 (va_runS (As := [.int p2, .int p3]) (rest := []) ⟨hx, hb, hml, hown, hts⟩ (c_X3_isFraction l D cI cJ cZ p2 p3 r3 hgr3 _) (va_cwS 2 hts gX3_part_X3_isFraction rfl rfl rfl (by decide +kernel) ⟨Nat.le_of_ble_eq_true rfl, Nat.le_of_ble_eq_true rfl⟩) ⟨PreW.blind, (xPre0 hK _)⟩ rfl rfl hl.1 rfl (lv_room (Nat.le_of_ble_eq_true rfl)) dX3_part_15 ⟨Nat.le_of_ble_eq_true rfl, Nat.le_of_ble_eq_true rfl⟩) hP hS hA (fun H locs hP hS => ?_)
    refine lv_if_eq (tgt := 38) hx hb dX3_part_18 (by decide) (fun q4 => ?_) (fun q4 => ?_)
    · replace hf := ifT q4 hf
      refine lv_iconst (v := (-1)) hx hb dX3_part_38 (by decide) ?_
      obtain rfl := Option.some.inj hf
      exact retI hx hb hr hlocks hP hD hS dX3_part_39
    · replace hf := ifF q4 hf
      refine lv_iload hx hb dX3_part_21 (lv_at hl 4 rfl) ?_
      refine lv_if_lt (tgt := 38) hx hb dX3_part_23 (by decide) (fun q5 => ?_) (fun q5 => ?_)
      · replace hf := ifT q5 hf
        refine lv_iconst (v := (-1)) hx hb dX3_part_38 (by decide) ?_
        obtain rfl := Option.some.inj hf
        exact retI hx hb hr hlocks hP hD hS dX3_part_39
      · replace hf := ifF q5 hf
        refine lv_aload_n hx hb dX3_part_26 rfl (lv_at hl 0 rfl) ?_
        refine lv_iload_n hx hb dX3_part_27 rfl (lv_at hl 1 rfl) ?_
        refine lv_iload_n hx hb dX3_part_28 rfl (lv_at hl 2 rfl) ?_
        refine lv_iload_n hx hb dX3_part_29 rfl (lv_at hl 3 rfl) ?_
        refine lv_iload hx hb dX3_part_30 (lv_at hl 4 rfl) ?_
        replace hf := bdE hf
        obtain ⟨r6, hgr6, hf⟩ := hf
        refine xIw (va_runV (As := [.int p1, .int p2, .int p3, .int p4]) (rest := []) ⟨hx, hb, hml, hown, hts⟩ (c_X3_ways l D cI cJ cZ adm m0 m1 m2 m3 m4 m5 m6 m7 m8 m9 m10 m11 m12 m13 m14 m15 m16 m17 m18 m19 m20 m21 m22 0 m24 m25 m26 m27 p1 p2 p3 p4 r6 hgr6 _) (cwV 4 hts gX3_part_X3_ways rfl rfl rfl (by decide +kernel) ⟨Nat.le_of_ble_eq_true rfl, Nat.le_of_ble_eq_true rfl⟩) ⟨PreW.blind, xRecv (q0 := 0) hK hP rfl rfl, (xPrew hK hP hD _)⟩ rfl rfl hl.1 rfl (lv_room (Nat.le_of_ble_eq_true rfl)) dX3_part_32 ⟨Nat.le_of_ble_eq_true rfl, Nat.le_of_ble_eq_true rfl⟩) hD hS hA (fun H locs hP hD hS => ?_)
        replace hP : va_P D vwCl (wMc cI cJ adm m0 m1 m2 m3 m4 m5 m6 m7 m8 m9 m10 m11 m12 m13 m14 m15 m16 m17 m18 m19 m20 m21 m22 0 r6.2.1 r6.2.2 m26 m27) H := hP
        replace hD : va_D A (wMc cI cJ adm m0 m1 m2 m3 m4 m5 m6 m7 m8 m9 m10 m11 m12 m13 m14 m15 m16 m17 m18 m19 m20 m21 m22 0 r6.2.1 r6.2.2 m26 m27) := hD
        refine lv_goto (tgt := 39) hx hb dX3_part_35 (by decide) ?_
        obtain rfl := Option.some.inj hf
        exact retI hx hb hr hlocks hP hD hS dX3_part_39

def f_X3_measure (m20 : Al) (m21 : Al) (m22 : Int32) (m24 : Int64) (m25 : Int64) (p1 : Int32) (p2 : Int32) : Option (Int32 × Al × Al × Int32 × Int32 × Int64 × Int64) :=
(f_X3_isFraction p1 p2).bind (fun r1 =>
if (b2i r1) = 0 then
some ((-1), m20, m21, m22, 0, m24, m25)
else
if ¬ m22 = 8 then
(f_X3_make p1.toInt64 p2.toInt64).bind (fun r4 =>
gd (ib m22 8) (
bnd (m22 + 1) (fun v6 =>
some (v6, vp_updL m20 m22.toNatClampNeg r4.1, vp_updL m21 m22.toNatClampNeg r4.2, v6, 0, r4.1, r4.2))))
else
some ((-1), m20, m21, m22, 0, m24, m25))
abbrev rmX3_measure : Room := { frames := 122, cells := 0, slots := 0, locals := 2809 }
set_option maxHeartbeats 40000000 in
set_option maxRecDepth 100000 in
theorem c_X3_measure (l : Launch) (D : va_G) (cI cJ cZ : ClassId) (adm : Nat → Nat) (m0 : Ar) (m1 : Ar) (m2 : Ar) (m3 : Ar) (m4 : Int32) (m5 : Ar) (m6 : Int32) (m7 : Al) (m8 : Al) (m9 : Al) (m10 : Ar) (m11 : Ar) (m12 : Al) (m13 : Al) (m14 : Int32) (m15 : Al) (m16 : Int32) (m17 : Al) (m18 : Ar) (m19 : Int32) (m20 : Al) (m21 : Al) (m22 : Int32) (m23 : Int32) (m24 : Int64) (m25 : Int64) (m26 : Int32) (m27 : Int32) (p1 : Int32) (p2 : Int32) (o : (Int32 × Al × Al × Int32 × Int32 × Int64 × Int64)) (hf : f_X3_measure m20 m21 m22 m24 m25 p1 p2 = some o) : CtI l yX3_measure wsX3_measure rmX3_measure D cI cJ cZ [.ref (adm 0), .int p1, .int p2] (wMc cI cJ adm m0 m1 m2 m3 m4 m5 m6 m7 m8 m9 m10 m11 m12 m13 m14 m15 m16 m17 m18 m19 m20 m21 m22 m23 m24 m25 m26 m27) (wMc cI cJ adm m0 m1 m2 m3 m4 m5 m6 m7 m8 m9 m10 m11 m12 m13 m14 m15 m16 m17 m18 m19 o.2.1 o.2.2.1 o.2.2.2.1 o.2.2.2.2.1 o.2.2.2.2.2.1 o.2.2.2.2.2.2 m26 m27) o.1 := by
  intro sz
  refine Met.ofW (cc := cX3_measure) (maxL := 3) (ret := (some .int)) (by decide) rfl ?_
  intro p e s m args below meth c s₁ B hml hv
  obtain ⟨rfl, hsz, hP, hK, hD0⟩ := hv
  have hx := B.exec
  have hb := B.bytes
  have hr := B.returns
  have hts := atoms_spec (ws := wsX3_measure) B.pre
  have hown : s.vm.findClass RX3 = some m.cls := findClass_of_methodNamed B.named
  have hlocks := B.notSynchronized
  subst hsz
  have hD := hD0.self (sz := s.heap.size)
  clear hD0
  generalize hAe : va_A (wMc cI cJ adm m0 m1 m2 m3 m4 m5 m6 m7 m8 m9 m10 m11 m12 m13 m14 m15 m16 m17 m18 m19 m20 m21 m22 m23 m24 m25 m26 m27) s.heap.size = A at hD ⊢
  have hA : ∀ q : Nat, s.heap.size ≤ q → A q := fun q h => by rw [← hAe]; exact Or.inr h
  have hS : va_S A s.heap s.heap [] := va_S.rf
  have hinX3 : ∀ w ∈ wsX30, w ∈ wsX3_measure := by decide +kernel
  have hw0 : (Cond.fieldLink RX3 69 "SwingCircuitsModel" "thrown" "I").before _ s = true := hts _ (by decide +kernel)
  have hw1 : (Cond.fieldLink RX3 152 "SwingCircuitsModel" "measured" "I").before _ s = true := hts _ (by decide +kernel)
  have hw2 : (Cond.fieldLink RX3 60 "SwingCircuitsModel" "measuredNum" "[J").before _ s = true := hts _ (by decide +kernel)
  have hw3 : (Cond.fieldLink RX3 90 "SwingCircuitsModel" "num" "J").before _ s = true := hts _ (by decide +kernel)
  have hw4 : (Cond.fieldLink RX3 63 "SwingCircuitsModel" "measuredDen" "[J").before _ s = true := hts _ (by decide +kernel)
  have hw5 : (Cond.fieldLink RX3 94 "SwingCircuitsModel" "den" "J").before _ s = true := hts _ (by decide +kernel)
  have hl := lv_entry ([.ref (adm 0), .int p1, .int p2]) (n := 3) (Nat.le_of_ble_eq_true rfl)
  rw [lg_entry_eq]
  generalize (lg_sl ([.ref (adm 0), .int p1, .int p2]) ++ List.replicate (3 - (lg_sl ([.ref (adm 0), .int p1, .int p2])).length) Slot.unset).toArray = ls at hl ⊢
  replace hl : lv_has ls 3 [(0, .ref (adm 0)), (1, .int p1), (2, .int p2)] := hl
  unfold f_X3_measure at hf
  refine lv_aload_n hx hb dX3_measure_0 rfl (lv_at hl 0 rfl) ?_
  refine lv_iconst (v := 0) hx hb dX3_measure_1 (by decide) ?_
  refine va_put (D := D) (ci := 3) (v := .int 0) (ty := .int) (C := RX3) (T := TX3) (N := 28) hx hb hts hinX3 tyX3 tyX3_ok nmX3 hown hK.1 hP hD hS 0 rfl rfl 23 (by decide) hw0 (fun _ h9 => h9) rfl (by decide +kernel) rfl rfl (Nat.le_of_ble_eq_true rfl) dX3_measure_2 (fun H locs hP hD hS => ?_)
  replace hP : va_P D vwCl (wMc cI cJ adm m0 m1 m2 m3 m4 m5 m6 m7 m8 m9 m10 m11 m12 m13 m14 m15 m16 m17 m18 m19 m20 m21 m22 0 m24 m25 m26 m27) H := hP
  replace hD : va_D A (wMc cI cJ adm m0 m1 m2 m3 m4 m5 m6 m7 m8 m9 m10 m11 m12 m13 m14 m15 m16 m17 m18 m19 m20 m21 m22 0 m24 m25 m26 m27) := hD
  refine lv_iload_n hx hb dX3_measure_5 rfl (lv_at hl 1 rfl) ?_
  refine lv_iload_n hx hb dX3_measure_6 rfl (lv_at hl 2 rfl) ?_
  replace hf := bdE hf
  obtain ⟨r1, hgr1, hf⟩ := hf
  refine xI0 (va_runS (As := [.int p1, .int p2]) (rest := []) ⟨hx, hb, hml, hown, hts⟩ (c_X3_isFraction l D cI cJ cZ p1 p2 r1 hgr1 _) (va_cwS 2 hts gX3_measure_X3_isFraction rfl rfl rfl (by decide +kernel) ⟨Nat.le_of_ble_eq_true rfl, Nat.le_of_ble_eq_true rfl⟩) ⟨PreW.blind, (xPre0 hK _)⟩ rfl rfl hl.1 rfl (lv_room (Nat.le_of_ble_eq_true rfl)) dX3_measure_7 ⟨Nat.le_of_ble_eq_true rfl, Nat.le_of_ble_eq_true rfl⟩) hP hS hA (fun H locs hP hS => ?_)
  refine lv_if_eq (tgt := 22) hx hb dX3_measure_10 (by decide) (fun q2 => ?_) (fun q2 => ?_)
  · replace hf := ifT q2 hf
    refine lv_iconst (v := (-1)) hx hb dX3_measure_22 (by decide) ?_
    obtain rfl := Option.some.inj hf
    exact retI hx hb hr hlocks hP hD hS dX3_measure_23
  · replace hf := ifF q2 hf
    refine lv_aload_n hx hb dX3_measure_13 rfl (lv_at hl 0 rfl) ?_
    refine va_get (D := D) (ci := 3) (v := .int m22) (C := RX3) (T := TX3) (N := 28) hx hb hts hinX3 hown hK.1 hP 0 rfl rfl 22 (by decide) hw1 (fun _ h9 => h9) rfl dX3_measure_14 ?_
    refine lv_bipush (v := 8) hx hb dX3_measure_17 (by decide) ?_
    refine lv_icmp_ne (tgt := 24) hx hb dX3_measure_19 (by decide) (fun q3 => ?_) (fun q3 => ?_)
    · replace hf := ifT q3 hf
      refine lv_aload_n hx hb dX3_measure_24 rfl (lv_at hl 0 rfl) ?_
      refine lv_iload_n hx hb dX3_measure_25 rfl (lv_at hl 1 rfl) ?_
      refine lv_i2l hx hb dX3_measure_26 rfl ?_
      refine lv_iload_n hx hb dX3_measure_27 rfl (lv_at hl 2 rfl) ?_
      refine lv_i2l hx hb dX3_measure_28 rfl ?_
      replace hf := bdE hf
      obtain ⟨r4, hgr4, hf⟩ := hf
      refine xVw (va_runV (As := [.long p1.toInt64, .long p2.toInt64]) (rest := []) ⟨hx, hb, hml, hown, hts⟩ (c_X3_make l D cI cJ cZ adm m0 m1 m2 m3 m4 m5 m6 m7 m8 m9 m10 m11 m12 m13 m14 m15 m16 m17 m18 m19 m20 m21 m22 0 m24 m25 m26 m27 p1.toInt64 p2.toInt64 r4 hgr4 _) (cwV 2 hts gX3_measure_X3_make rfl rfl rfl (by decide +kernel) ⟨Nat.le_of_ble_eq_true rfl, Nat.le_of_ble_eq_true rfl⟩) ⟨PreW.blind, xRecv (q0 := 0) hK hP rfl rfl, (xPrew hK hP hD _)⟩ rfl rfl hl.1 rfl (lv_room (Nat.le_of_ble_eq_true rfl)) dX3_measure_29 ⟨Nat.le_of_ble_eq_true rfl, Nat.le_of_ble_eq_true rfl⟩) hD hS hA (fun H locs hP hD hS => ?_)
      replace hP : va_P D vwCl (wMc cI cJ adm m0 m1 m2 m3 m4 m5 m6 m7 m8 m9 m10 m11 m12 m13 m14 m15 m16 m17 m18 m19 m20 m21 m22 0 r4.1 r4.2 m26 m27) H := hP
      replace hD : va_D A (wMc cI cJ adm m0 m1 m2 m3 m4 m5 m6 m7 m8 m9 m10 m11 m12 m13 m14 m15 m16 m17 m18 m19 m20 m21 m22 0 r4.1 r4.2 m26 m27) := hD
      refine lv_aload_n hx hb dX3_measure_32 rfl (lv_at hl 0 rfl) ?_
      refine va_get (D := D) (ci := 3) (v := .ref (adm 16)) (C := RX3) (T := TX3) (N := 28) hx hb hts hinX3 hown hK.1 hP 0 rfl rfl 20 (by decide) hw2 (fun _ h9 => h9) rfl dX3_measure_33 ?_
      refine lv_aload_n hx hb dX3_measure_36 rfl (lv_at hl 0 rfl) ?_
      refine va_get (D := D) (ci := 3) (v := .int m22) (C := RX3) (T := TX3) (N := 28) hx hb hts hinX3 hown hK.1 hP 0 rfl rfl 22 (by decide) hw1 (fun _ h9 => h9) rfl dX3_measure_37 ?_
      refine lv_aload_n hx hb dX3_measure_40 rfl (lv_at hl 0 rfl) ?_
      refine va_get (D := D) (ci := 3) (v := .long r4.1) (C := RX3) (T := TX3) (N := 28) hx hb hts hinX3 hown hK.1 hP 0 rfl rfl 24 (by decide) hw3 (fun _ h9 => h9) rfl dX3_measure_41 ?_
      replace hf := gdE hf
      obtain ⟨h5, hf⟩ := hf
      refine va_last hx hb hK.1 hP hD hS 16 1 rfl rfl (ib_in h5) dX3_measure_44 (fun H locs hP hD hS => ?_)
      replace hP : va_P D vwCl (wMc cI cJ adm m0 m1 m2 m3 m4 m5 m6 m7 m8 m9 m10 m11 m12 m13 m14 m15 m16 m17 m18 m19 (vp_updL m20 m22.toNatClampNeg r4.1) m21 m22 0 r4.1 r4.2 m26 m27) H := hP
      replace hD : va_D A (wMc cI cJ adm m0 m1 m2 m3 m4 m5 m6 m7 m8 m9 m10 m11 m12 m13 m14 m15 m16 m17 m18 m19 (vp_updL m20 m22.toNatClampNeg r4.1) m21 m22 0 r4.1 r4.2 m26 m27) := hD
      refine lv_aload_n hx hb dX3_measure_45 rfl (lv_at hl 0 rfl) ?_
      refine va_get (D := D) (ci := 3) (v := .ref (adm 17)) (C := RX3) (T := TX3) (N := 28) hx hb hts hinX3 hown hK.1 hP 0 rfl rfl 21 (by decide) hw4 (fun _ h9 => h9) rfl dX3_measure_46 ?_
      refine lv_aload_n hx hb dX3_measure_49 rfl (lv_at hl 0 rfl) ?_
      refine va_get (D := D) (ci := 3) (v := .int m22) (C := RX3) (T := TX3) (N := 28) hx hb hts hinX3 hown hK.1 hP 0 rfl rfl 22 (by decide) hw1 (fun _ h9 => h9) rfl dX3_measure_50 ?_
      refine lv_aload_n hx hb dX3_measure_53 rfl (lv_at hl 0 rfl) ?_
      refine va_get (D := D) (ci := 3) (v := .long r4.2) (C := RX3) (T := TX3) (N := 28) hx hb hts hinX3 hown hK.1 hP 0 rfl rfl 25 (by decide) hw5 (fun _ h9 => h9) rfl dX3_measure_54 ?_
      refine va_last hx hb hK.1 hP hD hS 17 1 rfl rfl (ib_in h5) dX3_measure_57 (fun H locs hP hD hS => ?_)
      replace hP : va_P D vwCl (wMc cI cJ adm m0 m1 m2 m3 m4 m5 m6 m7 m8 m9 m10 m11 m12 m13 m14 m15 m16 m17 m18 m19 (vp_updL m20 m22.toNatClampNeg r4.1) (vp_updL m21 m22.toNatClampNeg r4.2) m22 0 r4.1 r4.2 m26 m27) H := hP
      replace hD : va_D A (wMc cI cJ adm m0 m1 m2 m3 m4 m5 m6 m7 m8 m9 m10 m11 m12 m13 m14 m15 m16 m17 m18 m19 (vp_updL m20 m22.toNatClampNeg r4.1) (vp_updL m21 m22.toNatClampNeg r4.2) m22 0 r4.1 r4.2 m26 m27) := hD
      refine lv_aload_n hx hb dX3_measure_58 rfl (lv_at hl 0 rfl) ?_
      refine lv_dup hx hb dX3_measure_59 rfl ?_
      refine va_get (D := D) (ci := 3) (v := .int m22) (C := RX3) (T := TX3) (N := 28) hx hb hts hinX3 hown hK.1 hP 0 rfl rfl 22 (by decide) hw1 (fun _ h9 => h9) rfl dX3_measure_60 ?_
      refine lv_iconst (v := 1) hx hb dX3_measure_63 (by decide) ?_
      refine lv_iadd hx hb dX3_measure_64 ?_
      refine lv_topi (fun v6 ev6 => ?_)
      replace hf := bndE hf ev6
      refine va_put (D := D) (ci := 3) (v := .int v6) (ty := .int) (C := RX3) (T := TX3) (N := 28) hx hb hts hinX3 tyX3 tyX3_ok nmX3 hown hK.1 hP hD hS 0 rfl rfl 22 (by decide) hw1 (fun _ h9 => h9) rfl (by decide +kernel) rfl rfl (Nat.le_of_ble_eq_true rfl) dX3_measure_65 (fun H locs hP hD hS => ?_)
      replace hP : va_P D vwCl (wMc cI cJ adm m0 m1 m2 m3 m4 m5 m6 m7 m8 m9 m10 m11 m12 m13 m14 m15 m16 m17 m18 m19 (vp_updL m20 m22.toNatClampNeg r4.1) (vp_updL m21 m22.toNatClampNeg r4.2) v6 0 r4.1 r4.2 m26 m27) H := hP
      replace hD : va_D A (wMc cI cJ adm m0 m1 m2 m3 m4 m5 m6 m7 m8 m9 m10 m11 m12 m13 m14 m15 m16 m17 m18 m19 (vp_updL m20 m22.toNatClampNeg r4.1) (vp_updL m21 m22.toNatClampNeg r4.2) v6 0 r4.1 r4.2 m26 m27) := hD
      refine lv_aload_n hx hb dX3_measure_68 rfl (lv_at hl 0 rfl) ?_
      refine va_get (D := D) (ci := 3) (v := .int v6) (C := RX3) (T := TX3) (N := 28) hx hb hts hinX3 hown hK.1 hP 0 rfl rfl 22 (by decide) hw1 (fun _ h9 => h9) rfl dX3_measure_69 ?_
      obtain rfl := Option.some.inj hf
      exact retI hx hb hr hlocks hP hD hS dX3_measure_72
    · replace hf := ifN q3 hf
      refine lv_iconst (v := (-1)) hx hb dX3_measure_22 (by decide) ?_
      obtain rfl := Option.some.inj hf
      exact retI hx hb hr hlocks hP hD hS dX3_measure_23

def f_X3_forget (m22 : Int32) : Option (Int32 × Int32 × Int32) :=
some (m22, 0, 0)
abbrev rmX3_forget : Room := { frames := 0, cells := 0, slots := 0, locals := 0 }
set_option maxHeartbeats 40000000 in
set_option maxRecDepth 100000 in
theorem c_X3_forget (l : Launch) (D : va_G) (cI cJ cZ : ClassId) (adm : Nat → Nat) (m0 : Ar) (m1 : Ar) (m2 : Ar) (m3 : Ar) (m4 : Int32) (m5 : Ar) (m6 : Int32) (m7 : Al) (m8 : Al) (m9 : Al) (m10 : Ar) (m11 : Ar) (m12 : Al) (m13 : Al) (m14 : Int32) (m15 : Al) (m16 : Int32) (m17 : Al) (m18 : Ar) (m19 : Int32) (m20 : Al) (m21 : Al) (m22 : Int32) (m23 : Int32) (m24 : Int64) (m25 : Int64) (m26 : Int32) (m27 : Int32) (o : (Int32 × Int32 × Int32)) (hf : f_X3_forget m22 = some o) : CtI l yX3_forget wsX3_forget rmX3_forget D cI cJ cZ [.ref (adm 0)] (wMc cI cJ adm m0 m1 m2 m3 m4 m5 m6 m7 m8 m9 m10 m11 m12 m13 m14 m15 m16 m17 m18 m19 m20 m21 m22 m23 m24 m25 m26 m27) (wMc cI cJ adm m0 m1 m2 m3 m4 m5 m6 m7 m8 m9 m10 m11 m12 m13 m14 m15 m16 m17 m18 m19 m20 m21 o.2.1 o.2.2 m24 m25 m26 m27) o.1 := by
  intro sz
  refine Met.ofW (cc := cX3_forget) (maxL := 2) (ret := (some .int)) (by decide) rfl ?_
  intro p e s m args below meth c s₁ B hml hv
  obtain ⟨rfl, hsz, hP, hK, hD0⟩ := hv
  have hx := B.exec
  have hb := B.bytes
  have hr := B.returns
  have hts := atoms_spec (ws := wsX3_forget) B.pre
  have hown : s.vm.findClass RX3 = some m.cls := findClass_of_methodNamed B.named
  have hlocks := B.notSynchronized
  subst hsz
  have hD := hD0.self (sz := s.heap.size)
  clear hD0
  generalize hAe : va_A (wMc cI cJ adm m0 m1 m2 m3 m4 m5 m6 m7 m8 m9 m10 m11 m12 m13 m14 m15 m16 m17 m18 m19 m20 m21 m22 m23 m24 m25 m26 m27) s.heap.size = A at hD ⊢
  have hA : ∀ q : Nat, s.heap.size ≤ q → A q := fun q h => by rw [← hAe]; exact Or.inr h
  have hS : va_S A s.heap s.heap [] := va_S.rf
  have hinX3 : ∀ w ∈ wsX30, w ∈ wsX3_forget := by decide +kernel
  have hw0 : (Cond.fieldLink RX3 69 "SwingCircuitsModel" "thrown" "I").before _ s = true := hts _ (by decide +kernel)
  have hw1 : (Cond.fieldLink RX3 152 "SwingCircuitsModel" "measured" "I").before _ s = true := hts _ (by decide +kernel)
  have hl := lv_entry ([.ref (adm 0)]) (n := 2) (Nat.le_of_ble_eq_true rfl)
  rw [lg_entry_eq]
  generalize (lg_sl ([.ref (adm 0)]) ++ List.replicate (2 - (lg_sl ([.ref (adm 0)])).length) Slot.unset).toArray = ls at hl ⊢
  replace hl : lv_has ls 2 [(0, .ref (adm 0))] := hl
  unfold f_X3_forget at hf
  refine lv_aload_n hx hb dX3_forget_0 rfl (lv_at hl 0 rfl) ?_
  refine lv_iconst (v := 0) hx hb dX3_forget_1 (by decide) ?_
  refine va_put (D := D) (ci := 3) (v := .int 0) (ty := .int) (C := RX3) (T := TX3) (N := 28) hx hb hts hinX3 tyX3 tyX3_ok nmX3 hown hK.1 hP hD hS 0 rfl rfl 23 (by decide) hw0 (fun _ h9 => h9) rfl (by decide +kernel) rfl rfl (Nat.le_of_ble_eq_true rfl) dX3_forget_2 (fun H locs hP hD hS => ?_)
  replace hP : va_P D vwCl (wMc cI cJ adm m0 m1 m2 m3 m4 m5 m6 m7 m8 m9 m10 m11 m12 m13 m14 m15 m16 m17 m18 m19 m20 m21 m22 0 m24 m25 m26 m27) H := hP
  replace hD : va_D A (wMc cI cJ adm m0 m1 m2 m3 m4 m5 m6 m7 m8 m9 m10 m11 m12 m13 m14 m15 m16 m17 m18 m19 m20 m21 m22 0 m24 m25 m26 m27) := hD
  refine lv_aload_n hx hb dX3_forget_5 rfl (lv_at hl 0 rfl) ?_
  refine va_get (D := D) (ci := 3) (v := .int m22) (C := RX3) (T := TX3) (N := 28) hx hb hts hinX3 hown hK.1 hP 0 rfl rfl 22 (by decide) hw1 (fun _ h9 => h9) rfl dX3_forget_6 ?_
  refine lv_istore_n (lv' := [(1, .int m22), (0, .ref (adm 0))]) hx hb dX3_forget_9 rfl hl (by decide) rfl (fun ls hl => ?_)
  refine lv_aload_n hx hb dX3_forget_10 rfl (lv_at hl 1 rfl) ?_
  refine lv_iconst (v := 0) hx hb dX3_forget_11 (by decide) ?_
  refine va_put (D := D) (ci := 3) (v := .int 0) (ty := .int) (C := RX3) (T := TX3) (N := 28) hx hb hts hinX3 tyX3 tyX3_ok nmX3 hown hK.1 hP hD hS 0 rfl rfl 22 (by decide) hw1 (fun _ h9 => h9) rfl (by decide +kernel) rfl rfl (Nat.le_of_ble_eq_true rfl) dX3_forget_12 (fun H locs hP hD hS => ?_)
  replace hP : va_P D vwCl (wMc cI cJ adm m0 m1 m2 m3 m4 m5 m6 m7 m8 m9 m10 m11 m12 m13 m14 m15 m16 m17 m18 m19 m20 m21 0 0 m24 m25 m26 m27) H := hP
  replace hD : va_D A (wMc cI cJ adm m0 m1 m2 m3 m4 m5 m6 m7 m8 m9 m10 m11 m12 m13 m14 m15 m16 m17 m18 m19 m20 m21 0 0 m24 m25 m26 m27) := hD
  refine lv_iload_n hx hb dX3_forget_15 rfl (lv_at hl 0 rfl) ?_
  obtain rfl := Option.some.inj hf
  exact retI hx hb hr hlocks hP hD hS dX3_forget_16

def f_X3_faults (m0 : Ar) (m1 : Ar) (m2 : Ar) (m3 : Ar) (m4 : Int32) (m5 : Ar) (m6 : Int32) (m7 : Al) (m8 : Al) (m9 : Al) (m10 : Ar) (m11 : Ar) (m12 : Al) (m13 : Al) (m14 : Int32) (m18 : Ar) (m19 : Int32) (m20 : Al) (m21 : Al) (m22 : Int32) (m24 : Int64) (m25 : Int64) (m26 : Int32) (m27 : Int32) (p1 : Int32) : Option (Int32 × Ar × Ar × Al × Al × Al × Ar × Ar × Al × Al × Int32 × Int32 × Int64 × Int64 × Int32 × Int32) :=
(f_X3_isCell m4 p1).bind (fun r1 =>
if (b2i r1) = 0 then
some ((-1), m2, m3, m7, m8, m9, m10, m11, m12, m13, m14, 0, m24, m25, m26, m27)
else
(f_X3_explaining m0 m1 m2 m3 m4 m5 m6 m7 m8 m9 m10 m11 m12 m13 m14 m18 m19 m20 m21 m22 m24 m25 m26 m27 p1 ((-1))).bind (fun r3 =>
some (r3.1, r3.2.1, r3.2.2.1, r3.2.2.2.1, r3.2.2.2.2.1, r3.2.2.2.2.2.1, r3.2.2.2.2.2.2.1, r3.2.2.2.2.2.2.2.1, r3.2.2.2.2.2.2.2.2.1, r3.2.2.2.2.2.2.2.2.2.1, r3.2.2.2.2.2.2.2.2.2.2.1, 0, r3.2.2.2.2.2.2.2.2.2.2.2.1, r3.2.2.2.2.2.2.2.2.2.2.2.2.1, r3.2.2.2.2.2.2.2.2.2.2.2.2.2.1, r3.2.2.2.2.2.2.2.2.2.2.2.2.2.2)))
abbrev rmX3_faults : Room := { frames := 127, cells := 0, slots := 0, locals := 2947 }
set_option maxHeartbeats 40000000 in
set_option maxRecDepth 100000 in
theorem c_X3_faults (l : Launch) (D : va_G) (cI cJ cZ : ClassId) (adm : Nat → Nat) (m0 : Ar) (m1 : Ar) (m2 : Ar) (m3 : Ar) (m4 : Int32) (m5 : Ar) (m6 : Int32) (m7 : Al) (m8 : Al) (m9 : Al) (m10 : Ar) (m11 : Ar) (m12 : Al) (m13 : Al) (m14 : Int32) (m15 : Al) (m16 : Int32) (m17 : Al) (m18 : Ar) (m19 : Int32) (m20 : Al) (m21 : Al) (m22 : Int32) (m23 : Int32) (m24 : Int64) (m25 : Int64) (m26 : Int32) (m27 : Int32) (p1 : Int32) (o : (Int32 × Ar × Ar × Al × Al × Al × Ar × Ar × Al × Al × Int32 × Int32 × Int64 × Int64 × Int32 × Int32)) (hf : f_X3_faults m0 m1 m2 m3 m4 m5 m6 m7 m8 m9 m10 m11 m12 m13 m14 m18 m19 m20 m21 m22 m24 m25 m26 m27 p1 = some o) : CtI l yX3_faults wsX3_faults rmX3_faults D cI cJ cZ [.ref (adm 0), .int p1] (wMc cI cJ adm m0 m1 m2 m3 m4 m5 m6 m7 m8 m9 m10 m11 m12 m13 m14 m15 m16 m17 m18 m19 m20 m21 m22 m23 m24 m25 m26 m27) (wMc cI cJ adm m0 m1 o.2.1 o.2.2.1 m4 m5 m6 o.2.2.2.1 o.2.2.2.2.1 o.2.2.2.2.2.1 o.2.2.2.2.2.2.1 o.2.2.2.2.2.2.2.1 o.2.2.2.2.2.2.2.2.1 o.2.2.2.2.2.2.2.2.2.1 o.2.2.2.2.2.2.2.2.2.2.1 m15 m16 m17 m18 m19 m20 m21 m22 o.2.2.2.2.2.2.2.2.2.2.2.1 o.2.2.2.2.2.2.2.2.2.2.2.2.1 o.2.2.2.2.2.2.2.2.2.2.2.2.2.1 o.2.2.2.2.2.2.2.2.2.2.2.2.2.2.1 o.2.2.2.2.2.2.2.2.2.2.2.2.2.2.2) o.1 := by
  intro sz
  refine Met.ofW (cc := cX3_faults) (maxL := 2) (ret := (some .int)) (by decide) rfl ?_
  intro p e s m args below meth c s₁ B hml hv
  obtain ⟨rfl, hsz, hP, hK, hD0⟩ := hv
  have hx := B.exec
  have hb := B.bytes
  have hr := B.returns
  have hts := atoms_spec (ws := wsX3_faults) B.pre
  have hown : s.vm.findClass RX3 = some m.cls := findClass_of_methodNamed B.named
  have hlocks := B.notSynchronized
  subst hsz
  have hD := hD0.self (sz := s.heap.size)
  clear hD0
  generalize hAe : va_A (wMc cI cJ adm m0 m1 m2 m3 m4 m5 m6 m7 m8 m9 m10 m11 m12 m13 m14 m15 m16 m17 m18 m19 m20 m21 m22 m23 m24 m25 m26 m27) s.heap.size = A at hD ⊢
  have hA : ∀ q : Nat, s.heap.size ≤ q → A q := fun q h => by rw [← hAe]; exact Or.inr h
  have hS : va_S A s.heap s.heap [] := va_S.rf
  have hinX3 : ∀ w ∈ wsX30, w ∈ wsX3_faults := by decide +kernel
  have hw0 : (Cond.fieldLink RX3 69 "SwingCircuitsModel" "thrown" "I").before _ s = true := hts _ (by decide +kernel)
  have hl := lv_entry ([.ref (adm 0), .int p1]) (n := 2) (Nat.le_of_ble_eq_true rfl)
  rw [lg_entry_eq]
  generalize (lg_sl ([.ref (adm 0), .int p1]) ++ List.replicate (2 - (lg_sl ([.ref (adm 0), .int p1])).length) Slot.unset).toArray = ls at hl ⊢
  replace hl : lv_has ls 2 [(0, .ref (adm 0)), (1, .int p1)] := hl
  unfold f_X3_faults at hf
  refine lv_aload_n hx hb dX3_faults_0 rfl (lv_at hl 0 rfl) ?_
  refine lv_iconst (v := 0) hx hb dX3_faults_1 (by decide) ?_
  refine va_put (D := D) (ci := 3) (v := .int 0) (ty := .int) (C := RX3) (T := TX3) (N := 28) hx hb hts hinX3 tyX3 tyX3_ok nmX3 hown hK.1 hP hD hS 0 rfl rfl 23 (by decide) hw0 (fun _ h9 => h9) rfl (by decide +kernel) rfl rfl (Nat.le_of_ble_eq_true rfl) dX3_faults_2 (fun H locs hP hD hS => ?_)
  replace hP : va_P D vwCl (wMc cI cJ adm m0 m1 m2 m3 m4 m5 m6 m7 m8 m9 m10 m11 m12 m13 m14 m15 m16 m17 m18 m19 m20 m21 m22 0 m24 m25 m26 m27) H := hP
  replace hD : va_D A (wMc cI cJ adm m0 m1 m2 m3 m4 m5 m6 m7 m8 m9 m10 m11 m12 m13 m14 m15 m16 m17 m18 m19 m20 m21 m22 0 m24 m25 m26 m27) := hD
  refine lv_aload_n hx hb dX3_faults_5 rfl (lv_at hl 0 rfl) ?_
  refine lv_iload_n hx hb dX3_faults_6 rfl (lv_at hl 1 rfl) ?_
  replace hf := bdE hf
  obtain ⟨r1, hgr1, hf⟩ := hf
  refine xIw (va_runV (As := [.int p1]) (rest := []) ⟨hx, hb, hml, hown, hts⟩ (c_X3_isCell l D cI cJ cZ adm m0 m1 m2 m3 m4 m5 m6 m7 m8 m9 m10 m11 m12 m13 m14 m15 m16 m17 m18 m19 m20 m21 m22 0 m24 m25 m26 m27 p1 r1 hgr1 _) (cwV 1 hts gX3_faults_X3_isCell rfl rfl rfl (by decide +kernel) ⟨Nat.le_of_ble_eq_true rfl, Nat.le_of_ble_eq_true rfl⟩) ⟨PreW.blind, xRecv (q0 := 0) hK hP rfl rfl, (xPrew hK hP hD _)⟩ rfl rfl hl.1 rfl (lv_room (Nat.le_of_ble_eq_true rfl)) dX3_faults_7 ⟨Nat.le_of_ble_eq_true rfl, Nat.le_of_ble_eq_true rfl⟩) hD hS hA (fun H locs hP hD hS => ?_)
  replace hP : va_P D vwCl (wMc cI cJ adm m0 m1 m2 m3 m4 m5 m6 m7 m8 m9 m10 m11 m12 m13 m14 m15 m16 m17 m18 m19 m20 m21 m22 0 m24 m25 m26 m27) H := hP
  replace hD : va_D A (wMc cI cJ adm m0 m1 m2 m3 m4 m5 m6 m7 m8 m9 m10 m11 m12 m13 m14 m15 m16 m17 m18 m19 m20 m21 m22 0 m24 m25 m26 m27) := hD
  refine lv_if_eq (tgt := 22) hx hb dX3_faults_10 (by decide) (fun q2 => ?_) (fun q2 => ?_)
  · replace hf := ifT q2 hf
    refine lv_iconst (v := (-1)) hx hb dX3_faults_22 (by decide) ?_
    obtain rfl := Option.some.inj hf
    exact retI hx hb hr hlocks hP hD hS dX3_faults_23
  · replace hf := ifF q2 hf
    refine lv_aload_n hx hb dX3_faults_13 rfl (lv_at hl 0 rfl) ?_
    refine lv_iload_n hx hb dX3_faults_14 rfl (lv_at hl 1 rfl) ?_
    refine lv_iconst (v := (-1)) hx hb dX3_faults_15 (by decide) ?_
    replace hf := bdE hf
    obtain ⟨r3, hgr3, hf⟩ := hf
    refine xIw (va_runV (As := [.int p1, .int ((-1))]) (rest := []) ⟨hx, hb, hml, hown, hts⟩ (c_X3_explaining l D cI cJ cZ adm m0 m1 m2 m3 m4 m5 m6 m7 m8 m9 m10 m11 m12 m13 m14 m15 m16 m17 m18 m19 m20 m21 m22 0 m24 m25 m26 m27 p1 ((-1)) r3 hgr3 _) (cwV 2 hts gX3_faults_X3_explaining rfl rfl rfl (by decide +kernel) ⟨Nat.le_of_ble_eq_true rfl, Nat.le_of_ble_eq_true rfl⟩) ⟨PreW.blind, xRecv (q0 := 0) hK hP rfl rfl, (xPrew hK hP hD _)⟩ rfl rfl hl.1 rfl (lv_room (Nat.le_of_ble_eq_true rfl)) dX3_faults_16 ⟨Nat.le_of_ble_eq_true rfl, Nat.le_of_ble_eq_true rfl⟩) hD hS hA (fun H locs hP hD hS => ?_)
    replace hP : va_P D vwCl (wMc cI cJ adm m0 m1 r3.2.1 r3.2.2.1 m4 m5 m6 r3.2.2.2.1 r3.2.2.2.2.1 r3.2.2.2.2.2.1 r3.2.2.2.2.2.2.1 r3.2.2.2.2.2.2.2.1 r3.2.2.2.2.2.2.2.2.1 r3.2.2.2.2.2.2.2.2.2.1 r3.2.2.2.2.2.2.2.2.2.2.1 m15 m16 m17 m18 m19 m20 m21 m22 0 r3.2.2.2.2.2.2.2.2.2.2.2.1 r3.2.2.2.2.2.2.2.2.2.2.2.2.1 r3.2.2.2.2.2.2.2.2.2.2.2.2.2.1 r3.2.2.2.2.2.2.2.2.2.2.2.2.2.2) H := hP
    replace hD : va_D A (wMc cI cJ adm m0 m1 r3.2.1 r3.2.2.1 m4 m5 m6 r3.2.2.2.1 r3.2.2.2.2.1 r3.2.2.2.2.2.1 r3.2.2.2.2.2.2.1 r3.2.2.2.2.2.2.2.1 r3.2.2.2.2.2.2.2.2.1 r3.2.2.2.2.2.2.2.2.2.1 r3.2.2.2.2.2.2.2.2.2.2.1 m15 m16 m17 m18 m19 m20 m21 m22 0 r3.2.2.2.2.2.2.2.2.2.2.2.1 r3.2.2.2.2.2.2.2.2.2.2.2.2.1 r3.2.2.2.2.2.2.2.2.2.2.2.2.2.1 r3.2.2.2.2.2.2.2.2.2.2.2.2.2.2) := hD
    refine lv_goto (tgt := 23) hx hb dX3_faults_19 (by decide) ?_
    obtain rfl := Option.some.inj hf
    exact retI hx hb hr hlocks hP hD hS dX3_faults_23

def f_X3_fault (m0 : Ar) (m1 : Ar) (m2 : Ar) (m3 : Ar) (m4 : Int32) (m5 : Ar) (m6 : Int32) (m7 : Al) (m8 : Al) (m9 : Al) (m10 : Ar) (m11 : Ar) (m12 : Al) (m13 : Al) (m14 : Int32) (m18 : Ar) (m19 : Int32) (m20 : Al) (m21 : Al) (m22 : Int32) (m24 : Int64) (m25 : Int64) (m26 : Int32) (m27 : Int32) (p1 : Int32) (p2 : Int32) : Option (Int32 × Ar × Ar × Al × Al × Al × Ar × Ar × Al × Al × Int32 × Int32 × Int64 × Int64 × Int32 × Int32) :=
(f_X3_isCell m4 p1).bind (fun r1 =>
if (b2i r1) = 0 then
some ((-1), m2, m3, m7, m8, m9, m10, m11, m12, m13, m14, 0, m24, m25, m26, m27)
else
if p2 < 0 then
some ((-1), m2, m3, m7, m8, m9, m10, m11, m12, m13, m14, 0, m24, m25, m26, m27)
else
(f_X3_explaining m0 m1 m2 m3 m4 m5 m6 m7 m8 m9 m10 m11 m12 m13 m14 m18 m19 m20 m21 m22 m24 m25 m26 m27 p1 p2).bind (fun r4 =>
some (r4.1, r4.2.1, r4.2.2.1, r4.2.2.2.1, r4.2.2.2.2.1, r4.2.2.2.2.2.1, r4.2.2.2.2.2.2.1, r4.2.2.2.2.2.2.2.1, r4.2.2.2.2.2.2.2.2.1, r4.2.2.2.2.2.2.2.2.2.1, r4.2.2.2.2.2.2.2.2.2.2.1, 0, r4.2.2.2.2.2.2.2.2.2.2.2.1, r4.2.2.2.2.2.2.2.2.2.2.2.2.1, r4.2.2.2.2.2.2.2.2.2.2.2.2.2.1, r4.2.2.2.2.2.2.2.2.2.2.2.2.2.2)))
abbrev rmX3_fault : Room := { frames := 127, cells := 0, slots := 0, locals := 2947 }
set_option maxHeartbeats 40000000 in
set_option maxRecDepth 100000 in
theorem c_X3_fault (l : Launch) (D : va_G) (cI cJ cZ : ClassId) (adm : Nat → Nat) (m0 : Ar) (m1 : Ar) (m2 : Ar) (m3 : Ar) (m4 : Int32) (m5 : Ar) (m6 : Int32) (m7 : Al) (m8 : Al) (m9 : Al) (m10 : Ar) (m11 : Ar) (m12 : Al) (m13 : Al) (m14 : Int32) (m15 : Al) (m16 : Int32) (m17 : Al) (m18 : Ar) (m19 : Int32) (m20 : Al) (m21 : Al) (m22 : Int32) (m23 : Int32) (m24 : Int64) (m25 : Int64) (m26 : Int32) (m27 : Int32) (p1 : Int32) (p2 : Int32) (o : (Int32 × Ar × Ar × Al × Al × Al × Ar × Ar × Al × Al × Int32 × Int32 × Int64 × Int64 × Int32 × Int32)) (hf : f_X3_fault m0 m1 m2 m3 m4 m5 m6 m7 m8 m9 m10 m11 m12 m13 m14 m18 m19 m20 m21 m22 m24 m25 m26 m27 p1 p2 = some o) : CtI l yX3_fault wsX3_fault rmX3_fault D cI cJ cZ [.ref (adm 0), .int p1, .int p2] (wMc cI cJ adm m0 m1 m2 m3 m4 m5 m6 m7 m8 m9 m10 m11 m12 m13 m14 m15 m16 m17 m18 m19 m20 m21 m22 m23 m24 m25 m26 m27) (wMc cI cJ adm m0 m1 o.2.1 o.2.2.1 m4 m5 m6 o.2.2.2.1 o.2.2.2.2.1 o.2.2.2.2.2.1 o.2.2.2.2.2.2.1 o.2.2.2.2.2.2.2.1 o.2.2.2.2.2.2.2.2.1 o.2.2.2.2.2.2.2.2.2.1 o.2.2.2.2.2.2.2.2.2.2.1 m15 m16 m17 m18 m19 m20 m21 m22 o.2.2.2.2.2.2.2.2.2.2.2.1 o.2.2.2.2.2.2.2.2.2.2.2.2.1 o.2.2.2.2.2.2.2.2.2.2.2.2.2.1 o.2.2.2.2.2.2.2.2.2.2.2.2.2.2.1 o.2.2.2.2.2.2.2.2.2.2.2.2.2.2.2) o.1 := by
  intro sz
  refine Met.ofW (cc := cX3_fault) (maxL := 3) (ret := (some .int)) (by decide) rfl ?_
  intro p e s m args below meth c s₁ B hml hv
  obtain ⟨rfl, hsz, hP, hK, hD0⟩ := hv
  have hx := B.exec
  have hb := B.bytes
  have hr := B.returns
  have hts := atoms_spec (ws := wsX3_fault) B.pre
  have hown : s.vm.findClass RX3 = some m.cls := findClass_of_methodNamed B.named
  have hlocks := B.notSynchronized
  subst hsz
  have hD := hD0.self (sz := s.heap.size)
  clear hD0
  generalize hAe : va_A (wMc cI cJ adm m0 m1 m2 m3 m4 m5 m6 m7 m8 m9 m10 m11 m12 m13 m14 m15 m16 m17 m18 m19 m20 m21 m22 m23 m24 m25 m26 m27) s.heap.size = A at hD ⊢
  have hA : ∀ q : Nat, s.heap.size ≤ q → A q := fun q h => by rw [← hAe]; exact Or.inr h
  have hS : va_S A s.heap s.heap [] := va_S.rf
  have hinX3 : ∀ w ∈ wsX30, w ∈ wsX3_fault := by decide +kernel
  have hw0 : (Cond.fieldLink RX3 69 "SwingCircuitsModel" "thrown" "I").before _ s = true := hts _ (by decide +kernel)
  have hl := lv_entry ([.ref (adm 0), .int p1, .int p2]) (n := 3) (Nat.le_of_ble_eq_true rfl)
  rw [lg_entry_eq]
  generalize (lg_sl ([.ref (adm 0), .int p1, .int p2]) ++ List.replicate (3 - (lg_sl ([.ref (adm 0), .int p1, .int p2])).length) Slot.unset).toArray = ls at hl ⊢
  replace hl : lv_has ls 3 [(0, .ref (adm 0)), (1, .int p1), (2, .int p2)] := hl
  unfold f_X3_fault at hf
  refine lv_aload_n hx hb dX3_fault_0 rfl (lv_at hl 0 rfl) ?_
  refine lv_iconst (v := 0) hx hb dX3_fault_1 (by decide) ?_
  refine va_put (D := D) (ci := 3) (v := .int 0) (ty := .int) (C := RX3) (T := TX3) (N := 28) hx hb hts hinX3 tyX3 tyX3_ok nmX3 hown hK.1 hP hD hS 0 rfl rfl 23 (by decide) hw0 (fun _ h9 => h9) rfl (by decide +kernel) rfl rfl (Nat.le_of_ble_eq_true rfl) dX3_fault_2 (fun H locs hP hD hS => ?_)
  replace hP : va_P D vwCl (wMc cI cJ adm m0 m1 m2 m3 m4 m5 m6 m7 m8 m9 m10 m11 m12 m13 m14 m15 m16 m17 m18 m19 m20 m21 m22 0 m24 m25 m26 m27) H := hP
  replace hD : va_D A (wMc cI cJ adm m0 m1 m2 m3 m4 m5 m6 m7 m8 m9 m10 m11 m12 m13 m14 m15 m16 m17 m18 m19 m20 m21 m22 0 m24 m25 m26 m27) := hD
  refine lv_aload_n hx hb dX3_fault_5 rfl (lv_at hl 0 rfl) ?_
  refine lv_iload_n hx hb dX3_fault_6 rfl (lv_at hl 1 rfl) ?_
  replace hf := bdE hf
  obtain ⟨r1, hgr1, hf⟩ := hf
  refine xIw (va_runV (As := [.int p1]) (rest := []) ⟨hx, hb, hml, hown, hts⟩ (c_X3_isCell l D cI cJ cZ adm m0 m1 m2 m3 m4 m5 m6 m7 m8 m9 m10 m11 m12 m13 m14 m15 m16 m17 m18 m19 m20 m21 m22 0 m24 m25 m26 m27 p1 r1 hgr1 _) (cwV 1 hts gX3_fault_X3_isCell rfl rfl rfl (by decide +kernel) ⟨Nat.le_of_ble_eq_true rfl, Nat.le_of_ble_eq_true rfl⟩) ⟨PreW.blind, xRecv (q0 := 0) hK hP rfl rfl, (xPrew hK hP hD _)⟩ rfl rfl hl.1 rfl (lv_room (Nat.le_of_ble_eq_true rfl)) dX3_fault_7 ⟨Nat.le_of_ble_eq_true rfl, Nat.le_of_ble_eq_true rfl⟩) hD hS hA (fun H locs hP hD hS => ?_)
  replace hP : va_P D vwCl (wMc cI cJ adm m0 m1 m2 m3 m4 m5 m6 m7 m8 m9 m10 m11 m12 m13 m14 m15 m16 m17 m18 m19 m20 m21 m22 0 m24 m25 m26 m27) H := hP
  replace hD : va_D A (wMc cI cJ adm m0 m1 m2 m3 m4 m5 m6 m7 m8 m9 m10 m11 m12 m13 m14 m15 m16 m17 m18 m19 m20 m21 m22 0 m24 m25 m26 m27) := hD
  refine lv_if_eq (tgt := 26) hx hb dX3_fault_10 (by decide) (fun q2 => ?_) (fun q2 => ?_)
  · replace hf := ifT q2 hf
    refine lv_iconst (v := (-1)) hx hb dX3_fault_26 (by decide) ?_
    obtain rfl := Option.some.inj hf
    exact retI hx hb hr hlocks hP hD hS dX3_fault_27
  · replace hf := ifF q2 hf
    refine lv_iload_n hx hb dX3_fault_13 rfl (lv_at hl 2 rfl) ?_
    refine lv_if_lt (tgt := 26) hx hb dX3_fault_14 (by decide) (fun q3 => ?_) (fun q3 => ?_)
    · replace hf := ifT q3 hf
      refine lv_iconst (v := (-1)) hx hb dX3_fault_26 (by decide) ?_
      obtain rfl := Option.some.inj hf
      exact retI hx hb hr hlocks hP hD hS dX3_fault_27
    · replace hf := ifF q3 hf
      refine lv_aload_n hx hb dX3_fault_17 rfl (lv_at hl 0 rfl) ?_
      refine lv_iload_n hx hb dX3_fault_18 rfl (lv_at hl 1 rfl) ?_
      refine lv_iload_n hx hb dX3_fault_19 rfl (lv_at hl 2 rfl) ?_
      replace hf := bdE hf
      obtain ⟨r4, hgr4, hf⟩ := hf
      refine xIw (va_runV (As := [.int p1, .int p2]) (rest := []) ⟨hx, hb, hml, hown, hts⟩ (c_X3_explaining l D cI cJ cZ adm m0 m1 m2 m3 m4 m5 m6 m7 m8 m9 m10 m11 m12 m13 m14 m15 m16 m17 m18 m19 m20 m21 m22 0 m24 m25 m26 m27 p1 p2 r4 hgr4 _) (cwV 2 hts gX3_fault_X3_explaining rfl rfl rfl (by decide +kernel) ⟨Nat.le_of_ble_eq_true rfl, Nat.le_of_ble_eq_true rfl⟩) ⟨PreW.blind, xRecv (q0 := 0) hK hP rfl rfl, (xPrew hK hP hD _)⟩ rfl rfl hl.1 rfl (lv_room (Nat.le_of_ble_eq_true rfl)) dX3_fault_20 ⟨Nat.le_of_ble_eq_true rfl, Nat.le_of_ble_eq_true rfl⟩) hD hS hA (fun H locs hP hD hS => ?_)
      replace hP : va_P D vwCl (wMc cI cJ adm m0 m1 r4.2.1 r4.2.2.1 m4 m5 m6 r4.2.2.2.1 r4.2.2.2.2.1 r4.2.2.2.2.2.1 r4.2.2.2.2.2.2.1 r4.2.2.2.2.2.2.2.1 r4.2.2.2.2.2.2.2.2.1 r4.2.2.2.2.2.2.2.2.2.1 r4.2.2.2.2.2.2.2.2.2.2.1 m15 m16 m17 m18 m19 m20 m21 m22 0 r4.2.2.2.2.2.2.2.2.2.2.2.1 r4.2.2.2.2.2.2.2.2.2.2.2.2.1 r4.2.2.2.2.2.2.2.2.2.2.2.2.2.1 r4.2.2.2.2.2.2.2.2.2.2.2.2.2.2) H := hP
      replace hD : va_D A (wMc cI cJ adm m0 m1 r4.2.1 r4.2.2.1 m4 m5 m6 r4.2.2.2.1 r4.2.2.2.2.1 r4.2.2.2.2.2.1 r4.2.2.2.2.2.2.1 r4.2.2.2.2.2.2.2.1 r4.2.2.2.2.2.2.2.2.1 r4.2.2.2.2.2.2.2.2.2.1 r4.2.2.2.2.2.2.2.2.2.2.1 m15 m16 m17 m18 m19 m20 m21 m22 0 r4.2.2.2.2.2.2.2.2.2.2.2.1 r4.2.2.2.2.2.2.2.2.2.2.2.2.1 r4.2.2.2.2.2.2.2.2.2.2.2.2.2.1 r4.2.2.2.2.2.2.2.2.2.2.2.2.2.2) := hD
      refine lv_goto (tgt := 27) hx hb dX3_fault_23 (by decide) ?_
      obtain rfl := Option.some.inj hf
      exact retI hx hb hr hlocks hP hD hS dX3_fault_27

def f_X3_fits (m0 : Ar) (m1 : Ar) (m2 : Ar) (m3 : Ar) (m4 : Int32) (m5 : Ar) (m6 : Int32) (m7 : Al) (m8 : Al) (m9 : Al) (m10 : Ar) (m11 : Ar) (m12 : Al) (m13 : Al) (m14 : Int32) (m20 : Al) (m21 : Al) (m22 : Int32) (m24 : Int64) (m25 : Int64) (m26 : Int32) (m27 : Int32) (p1 : Int32) : Option (Int32 × Al × Al × Al × Ar × Ar × Al × Al × Int32 × Int32 × Int64 × Int64 × Int32 × Int32) :=
(f_X3_isCell m4 p1).bind (fun r1 =>
if (b2i r1) = 0 then
some ((-1), m7, m8, m9, m10, m11, m12, m13, m14, 0, m24, m25, m26, m27)
else
(f_X3_isSo m0 m1 m2 m3 m4 m5 m6 m7 m8 m9 m10 m11 m12 m13 m14 m20 m21 m22 m24 m25 m26 m27 p1).bind (fun r3 =>
if (b2i r3.1) = 0 then
some (0, r3.2.1, r3.2.2.1, r3.2.2.2.1, r3.2.2.2.2.1, r3.2.2.2.2.2.1, r3.2.2.2.2.2.2.1, r3.2.2.2.2.2.2.2.1, r3.2.2.2.2.2.2.2.2.1, 0, r3.2.2.2.2.2.2.2.2.2.1, r3.2.2.2.2.2.2.2.2.2.2.1, r3.2.2.2.2.2.2.2.2.2.2.2.1, r3.2.2.2.2.2.2.2.2.2.2.2.2)
else
some (1, r3.2.1, r3.2.2.1, r3.2.2.2.1, r3.2.2.2.2.1, r3.2.2.2.2.2.1, r3.2.2.2.2.2.2.1, r3.2.2.2.2.2.2.2.1, r3.2.2.2.2.2.2.2.2.1, 0, r3.2.2.2.2.2.2.2.2.2.1, r3.2.2.2.2.2.2.2.2.2.2.1, r3.2.2.2.2.2.2.2.2.2.2.2.1, r3.2.2.2.2.2.2.2.2.2.2.2.2)))
abbrev rmX3_fits : Room := { frames := 125, cells := 0, slots := 0, locals := 2895 }
set_option maxHeartbeats 40000000 in
set_option maxRecDepth 100000 in
theorem c_X3_fits (l : Launch) (D : va_G) (cI cJ cZ : ClassId) (adm : Nat → Nat) (m0 : Ar) (m1 : Ar) (m2 : Ar) (m3 : Ar) (m4 : Int32) (m5 : Ar) (m6 : Int32) (m7 : Al) (m8 : Al) (m9 : Al) (m10 : Ar) (m11 : Ar) (m12 : Al) (m13 : Al) (m14 : Int32) (m15 : Al) (m16 : Int32) (m17 : Al) (m18 : Ar) (m19 : Int32) (m20 : Al) (m21 : Al) (m22 : Int32) (m23 : Int32) (m24 : Int64) (m25 : Int64) (m26 : Int32) (m27 : Int32) (p1 : Int32) (o : (Int32 × Al × Al × Al × Ar × Ar × Al × Al × Int32 × Int32 × Int64 × Int64 × Int32 × Int32)) (hf : f_X3_fits m0 m1 m2 m3 m4 m5 m6 m7 m8 m9 m10 m11 m12 m13 m14 m20 m21 m22 m24 m25 m26 m27 p1 = some o) : CtI l yX3_fits wsX3_fits rmX3_fits D cI cJ cZ [.ref (adm 0), .int p1] (wMc cI cJ adm m0 m1 m2 m3 m4 m5 m6 m7 m8 m9 m10 m11 m12 m13 m14 m15 m16 m17 m18 m19 m20 m21 m22 m23 m24 m25 m26 m27) (wMc cI cJ adm m0 m1 m2 m3 m4 m5 m6 o.2.1 o.2.2.1 o.2.2.2.1 o.2.2.2.2.1 o.2.2.2.2.2.1 o.2.2.2.2.2.2.1 o.2.2.2.2.2.2.2.1 o.2.2.2.2.2.2.2.2.1 m15 m16 m17 m18 m19 m20 m21 m22 o.2.2.2.2.2.2.2.2.2.1 o.2.2.2.2.2.2.2.2.2.2.1 o.2.2.2.2.2.2.2.2.2.2.2.1 o.2.2.2.2.2.2.2.2.2.2.2.2.1 o.2.2.2.2.2.2.2.2.2.2.2.2.2) o.1 := by
  intro sz
  refine Met.ofW (cc := cX3_fits) (maxL := 2) (ret := (some .int)) (by decide) rfl ?_
  intro p e s m args below meth c s₁ B hml hv
  obtain ⟨rfl, hsz, hP, hK, hD0⟩ := hv
  have hx := B.exec
  have hb := B.bytes
  have hr := B.returns
  have hts := atoms_spec (ws := wsX3_fits) B.pre
  have hown : s.vm.findClass RX3 = some m.cls := findClass_of_methodNamed B.named
  have hlocks := B.notSynchronized
  subst hsz
  have hD := hD0.self (sz := s.heap.size)
  clear hD0
  generalize hAe : va_A (wMc cI cJ adm m0 m1 m2 m3 m4 m5 m6 m7 m8 m9 m10 m11 m12 m13 m14 m15 m16 m17 m18 m19 m20 m21 m22 m23 m24 m25 m26 m27) s.heap.size = A at hD ⊢
  have hA : ∀ q : Nat, s.heap.size ≤ q → A q := fun q h => by rw [← hAe]; exact Or.inr h
  have hS : va_S A s.heap s.heap [] := va_S.rf
  have hinX3 : ∀ w ∈ wsX30, w ∈ wsX3_fits := by decide +kernel
  have hw0 : (Cond.fieldLink RX3 69 "SwingCircuitsModel" "thrown" "I").before _ s = true := hts _ (by decide +kernel)
  have hl := lv_entry ([.ref (adm 0), .int p1]) (n := 2) (Nat.le_of_ble_eq_true rfl)
  rw [lg_entry_eq]
  generalize (lg_sl ([.ref (adm 0), .int p1]) ++ List.replicate (2 - (lg_sl ([.ref (adm 0), .int p1])).length) Slot.unset).toArray = ls at hl ⊢
  replace hl : lv_has ls 2 [(0, .ref (adm 0)), (1, .int p1)] := hl
  unfold f_X3_fits at hf
  refine lv_aload_n hx hb dX3_fits_0 rfl (lv_at hl 0 rfl) ?_
  refine lv_iconst (v := 0) hx hb dX3_fits_1 (by decide) ?_
  refine va_put (D := D) (ci := 3) (v := .int 0) (ty := .int) (C := RX3) (T := TX3) (N := 28) hx hb hts hinX3 tyX3 tyX3_ok nmX3 hown hK.1 hP hD hS 0 rfl rfl 23 (by decide) hw0 (fun _ h9 => h9) rfl (by decide +kernel) rfl rfl (Nat.le_of_ble_eq_true rfl) dX3_fits_2 (fun H locs hP hD hS => ?_)
  replace hP : va_P D vwCl (wMc cI cJ adm m0 m1 m2 m3 m4 m5 m6 m7 m8 m9 m10 m11 m12 m13 m14 m15 m16 m17 m18 m19 m20 m21 m22 0 m24 m25 m26 m27) H := hP
  replace hD : va_D A (wMc cI cJ adm m0 m1 m2 m3 m4 m5 m6 m7 m8 m9 m10 m11 m12 m13 m14 m15 m16 m17 m18 m19 m20 m21 m22 0 m24 m25 m26 m27) := hD
  refine lv_aload_n hx hb dX3_fits_5 rfl (lv_at hl 0 rfl) ?_
  refine lv_iload_n hx hb dX3_fits_6 rfl (lv_at hl 1 rfl) ?_
  replace hf := bdE hf
  obtain ⟨r1, hgr1, hf⟩ := hf
  refine xIw (va_runV (As := [.int p1]) (rest := []) ⟨hx, hb, hml, hown, hts⟩ (c_X3_isCell l D cI cJ cZ adm m0 m1 m2 m3 m4 m5 m6 m7 m8 m9 m10 m11 m12 m13 m14 m15 m16 m17 m18 m19 m20 m21 m22 0 m24 m25 m26 m27 p1 r1 hgr1 _) (cwV 1 hts gX3_fits_X3_isCell rfl rfl rfl (by decide +kernel) ⟨Nat.le_of_ble_eq_true rfl, Nat.le_of_ble_eq_true rfl⟩) ⟨PreW.blind, xRecv (q0 := 0) hK hP rfl rfl, (xPrew hK hP hD _)⟩ rfl rfl hl.1 rfl (lv_room (Nat.le_of_ble_eq_true rfl)) dX3_fits_7 ⟨Nat.le_of_ble_eq_true rfl, Nat.le_of_ble_eq_true rfl⟩) hD hS hA (fun H locs hP hD hS => ?_)
  replace hP : va_P D vwCl (wMc cI cJ adm m0 m1 m2 m3 m4 m5 m6 m7 m8 m9 m10 m11 m12 m13 m14 m15 m16 m17 m18 m19 m20 m21 m22 0 m24 m25 m26 m27) H := hP
  replace hD : va_D A (wMc cI cJ adm m0 m1 m2 m3 m4 m5 m6 m7 m8 m9 m10 m11 m12 m13 m14 m15 m16 m17 m18 m19 m20 m21 m22 0 m24 m25 m26 m27) := hD
  refine lv_if_eq (tgt := 29) hx hb dX3_fits_10 (by decide) (fun q2 => ?_) (fun q2 => ?_)
  · replace hf := ifT q2 hf
    refine lv_iconst (v := (-1)) hx hb dX3_fits_29 (by decide) ?_
    obtain rfl := Option.some.inj hf
    exact retI hx hb hr hlocks hP hD hS dX3_fits_30
  · replace hf := ifF q2 hf
    refine lv_aload_n hx hb dX3_fits_13 rfl (lv_at hl 0 rfl) ?_
    refine lv_iload_n hx hb dX3_fits_14 rfl (lv_at hl 1 rfl) ?_
    replace hf := bdE hf
    obtain ⟨r3, hgr3, hf⟩ := hf
    refine xIw (va_runV (As := [.int p1]) (rest := []) ⟨hx, hb, hml, hown, hts⟩ (c_X3_isSo l D cI cJ cZ adm m0 m1 m2 m3 m4 m5 m6 m7 m8 m9 m10 m11 m12 m13 m14 m15 m16 m17 m18 m19 m20 m21 m22 0 m24 m25 m26 m27 p1 r3 hgr3 _) (cwV 1 hts gX3_fits_X3_isSo rfl rfl rfl (by decide +kernel) ⟨Nat.le_of_ble_eq_true rfl, Nat.le_of_ble_eq_true rfl⟩) ⟨PreW.blind, xRecv (q0 := 0) hK hP rfl rfl, (xPrew hK hP hD _)⟩ rfl rfl hl.1 rfl (lv_room (Nat.le_of_ble_eq_true rfl)) dX3_fits_15 ⟨Nat.le_of_ble_eq_true rfl, Nat.le_of_ble_eq_true rfl⟩) hD hS hA (fun H locs hP hD hS => ?_)
    replace hP : va_P D vwCl (wMc cI cJ adm m0 m1 m2 m3 m4 m5 m6 r3.2.1 r3.2.2.1 r3.2.2.2.1 r3.2.2.2.2.1 r3.2.2.2.2.2.1 r3.2.2.2.2.2.2.1 r3.2.2.2.2.2.2.2.1 r3.2.2.2.2.2.2.2.2.1 m15 m16 m17 m18 m19 m20 m21 m22 0 r3.2.2.2.2.2.2.2.2.2.1 r3.2.2.2.2.2.2.2.2.2.2.1 r3.2.2.2.2.2.2.2.2.2.2.2.1 r3.2.2.2.2.2.2.2.2.2.2.2.2) H := hP
    replace hD : va_D A (wMc cI cJ adm m0 m1 m2 m3 m4 m5 m6 r3.2.1 r3.2.2.1 r3.2.2.2.1 r3.2.2.2.2.1 r3.2.2.2.2.2.1 r3.2.2.2.2.2.2.1 r3.2.2.2.2.2.2.2.1 r3.2.2.2.2.2.2.2.2.1 m15 m16 m17 m18 m19 m20 m21 m22 0 r3.2.2.2.2.2.2.2.2.2.1 r3.2.2.2.2.2.2.2.2.2.2.1 r3.2.2.2.2.2.2.2.2.2.2.2.1 r3.2.2.2.2.2.2.2.2.2.2.2.2) := hD
    refine lv_if_eq (tgt := 25) hx hb dX3_fits_18 (by decide) (fun q4 => ?_) (fun q4 => ?_)
    · replace hf := ifT q4 hf
      refine lv_iconst (v := 0) hx hb dX3_fits_25 (by decide) ?_
      refine lv_goto (tgt := 30) hx hb dX3_fits_26 (by decide) ?_
      obtain rfl := Option.some.inj hf
      exact retI hx hb hr hlocks hP hD hS dX3_fits_30
    · replace hf := ifF q4 hf
      refine lv_iconst (v := 1) hx hb dX3_fits_21 (by decide) ?_
      refine lv_goto (tgt := 30) hx hb dX3_fits_22 (by decide) ?_
      obtain rfl := Option.some.inj hf
      exact retI hx hb hr hlocks hP hD hS dX3_fits_30

def f_X3_link_B133 (m0 : Ar) (m6 : Int32) (m7 : Al) (p1 : Int32) (p2 : Int32) (p3 : Int32) (p4 : Int32) (p5 : Int32) (p6 : Int32) (rec133 : Int32 → Ar → Option (Int32 × Ar × Int32 × Al × Int32)) (l8_133 : Int32) (m5_133 : Ar) : Option (Int32 × Ar × Int32 × Al × Int32) :=
if (6 : Int32) ≤ l8_133 then
bnd (m6 + 1) (fun v19 =>
(f_X3_resetAll m0 m7).bind (fun r20 =>
some (v19 - 1, m5_133, v19, r20, 0)))
else
gd (ib l8_133 6) (
bnd ((upd (upd (upd (upd (upd (upd (fun _ => 0) (0 : Int32).toNatClampNeg p1) (1 : Int32).toNatClampNeg p2) (2 : Int32).toNatClampNeg p3) (3 : Int32).toNatClampNeg p4) (4 : Int32).toNatClampNeg p5) (5 : Int32).toNatClampNeg p6) l8_133.toNatClampNeg) (fun v22 =>
gd (ib ((6 * m6) + l8_133) 48) (
rec133 (l8_133 + 1) (upd m5_133 ((6 * m6) + l8_133).toNatClampNeg v22))))
def f_X3_link_L133 (m0 : Ar) (m6 : Int32) (m7 : Al) (p1 : Int32) (p2 : Int32) (p3 : Int32) (p4 : Int32) (p5 : Int32) (p6 : Int32) : Nat → Int32 → Ar → Option (Int32 × Ar × Int32 × Al × Int32)
  | 0 => fun _ _ => none
  | n + 1 => f_X3_link_B133 m0 m6 m7 p1 p2 p3 p4 p5 p6 (f_X3_link_L133 m0 m6 m7 p1 p2 p3 p4 p5 p6 n)
def f_X3_link_J97 (m0 : Ar) (m5 : Ar) (m6 : Int32) (m7 : Al) (p1 : Int32) (p2 : Int32) (p3 : Int32) (p4 : Int32) (p5 : Int32) (p6 : Int32)  : Option (Int32 × Ar × Int32 × Al × Int32) :=
gd (ib 0 6) (
gd (ib 1 6) (
gd (ib 2 6) (
gd (ib 3 6) (
gd (ib 4 6) (
gd (ib 5 6) (
f_X3_link_L133 m0 m6 m7 p1 p2 p3 p4 p5 p6 fuel 0 m5))))))
def f_X3_link_J79 (m0 : Ar) (m5 : Ar) (m6 : Int32) (m7 : Al) (p1 : Int32) (p2 : Int32) (p3 : Int32) (p4 : Int32) (p5 : Int32) (p6 : Int32)  : Option (Int32 × Ar × Int32 × Al × Int32) :=
if ¬ p5 = 2 then
f_X3_link_J97 m0 m5 m6 m7 p1 p2 p3 p4 p5 p6
else
(f_X3_in p6 0 1).bind (fun r25 =>
if ¬ (b2i r25) = 0 then
f_X3_link_J97 m0 m5 m6 m7 p1 p2 p3 p4 p5 p6
else
some ((-1), m5, m6, m7, 0))
def f_X3_link (m0 : Ar) (m4 : Int32) (m5 : Ar) (m6 : Int32) (m7 : Al) (p1 : Int32) (p2 : Int32) (p3 : Int32) (p4 : Int32) (p5 : Int32) (p6 : Int32) : Option (Int32 × Ar × Int32 × Al × Int32) :=
(f_X3_isCell m4 p1).bind (fun r1 =>
if (b2i r1) = 0 then
some ((-1), m5, m6, m7, 0)
else
(f_X3_in p2 0 1).bind (fun r3 =>
if (b2i r3) = 0 then
some ((-1), m5, m6, m7, 0)
else
(f_X3_in p3 1 9).bind (fun r5 =>
if (b2i r5) = 0 then
some ((-1), m5, m6, m7, 0)
else
(f_X3_isCell m4 p4).bind (fun r7 =>
if (b2i r7) = 0 then
some ((-1), m5, m6, m7, 0)
else
(f_X3_in p5 0 2).bind (fun r9 =>
if (b2i r9) = 0 then
some ((-1), m5, m6, m7, 0)
else
if ¬ m6 = 8 then
if ¬ p5 = 0 then
f_X3_link_J79 m0 m5 m6 m7 p1 p2 p3 p4 p5 p6
else
(f_X3_in p6 ((-20)) 20).bind (fun r28 =>
if (b2i r28) = 0 then
some ((-1), m5, m6, m7, 0)
else
f_X3_link_J79 m0 m5 m6 m7 p1 p2 p3 p4 p5 p6)
else
some ((-1), m5, m6, m7, 0))))))
abbrev rmX3_link : Room := { frames := 2, cells := 1, slots := 6, locals := 43 }
set_option maxHeartbeats 40000000 in
set_option maxRecDepth 100000 in
theorem c_X3_link (l : Launch) (D : va_G) (cI cJ cZ : ClassId) (adm : Nat → Nat) (m0 : Ar) (m1 : Ar) (m2 : Ar) (m3 : Ar) (m4 : Int32) (m5 : Ar) (m6 : Int32) (m7 : Al) (m8 : Al) (m9 : Al) (m10 : Ar) (m11 : Ar) (m12 : Al) (m13 : Al) (m14 : Int32) (m15 : Al) (m16 : Int32) (m17 : Al) (m18 : Ar) (m19 : Int32) (m20 : Al) (m21 : Al) (m22 : Int32) (m23 : Int32) (m24 : Int64) (m25 : Int64) (m26 : Int32) (m27 : Int32) (p1 : Int32) (p2 : Int32) (p3 : Int32) (p4 : Int32) (p5 : Int32) (p6 : Int32) (o : (Int32 × Ar × Int32 × Al × Int32)) (hf : f_X3_link m0 m4 m5 m6 m7 p1 p2 p3 p4 p5 p6 = some o) : CtI l yX3_link wsX3_link rmX3_link D cI cJ cZ [.ref (adm 0), .int p1, .int p2, .int p3, .int p4, .int p5, .int p6] (wMc cI cJ adm m0 m1 m2 m3 m4 m5 m6 m7 m8 m9 m10 m11 m12 m13 m14 m15 m16 m17 m18 m19 m20 m21 m22 m23 m24 m25 m26 m27) (wMc cI cJ adm m0 m1 m2 m3 m4 o.2.1 o.2.2.1 o.2.2.2.1 m8 m9 m10 m11 m12 m13 m14 m15 m16 m17 m18 m19 m20 m21 m22 o.2.2.2.2 m24 m25 m26 m27) o.1 := by
  intro sz
  refine Met.ofW (cc := cX3_link) (maxL := 9) (ret := (some .int)) (by decide) rfl ?_
  intro p e s m args below meth c s₁ B hml hv
  obtain ⟨rfl, hsz, hP, hK, hD0⟩ := hv
  have hx := B.exec
  have hb := B.bytes
  have hr := B.returns
  have hts := atoms_spec (ws := wsX3_link) B.pre
  have hown : s.vm.findClass RX3 = some m.cls := findClass_of_methodNamed B.named
  have hlocks := B.notSynchronized
  subst hsz
  have hD := hD0.self (sz := s.heap.size)
  clear hD0
  generalize hAe : va_A (wMc cI cJ adm m0 m1 m2 m3 m4 m5 m6 m7 m8 m9 m10 m11 m12 m13 m14 m15 m16 m17 m18 m19 m20 m21 m22 m23 m24 m25 m26 m27) s.heap.size = A at hD ⊢
  have hA : ∀ q : Nat, s.heap.size ≤ q → A q := fun q h => by rw [← hAe]; exact Or.inr h
  have hS : va_S A s.heap s.heap [] := va_S.rf
  have hinX3 : ∀ w ∈ wsX30, w ∈ wsX3_link := by decide +kernel
  have hw0 : (Cond.fieldLink RX3 69 "SwingCircuitsModel" "thrown" "I").before _ s = true := hts _ (by decide +kernel)
  have hw1 : (Cond.fieldLink RX3 101 "SwingCircuitsModel" "linkMany" "I").before _ s = true := hts _ (by decide +kernel)
  have hw2 : (Cond.arrayClass .int).before _ s = true := hts _ (by decide +kernel)
  have hw3 : (Cond.fieldLink RX3 22 "SwingCircuitsModel" "links" "[I").before _ s = true := hts _ (by decide +kernel)
  have hl := lv_entry ([.ref (adm 0), .int p1, .int p2, .int p3, .int p4, .int p5, .int p6]) (n := 9) (Nat.le_of_ble_eq_true rfl)
  rw [lg_entry_eq]
  generalize (lg_sl ([.ref (adm 0), .int p1, .int p2, .int p3, .int p4, .int p5, .int p6]) ++ List.replicate (9 - (lg_sl ([.ref (adm 0), .int p1, .int p2, .int p3, .int p4, .int p5, .int p6])).length) Slot.unset).toArray = ls at hl ⊢
  replace hl : lv_has ls 9 [(0, .ref (adm 0)), (1, .int p1), (2, .int p2), (3, .int p3), (4, .int p4), (5, .int p5), (6, .int p6)] := hl
  unfold f_X3_link at hf
  refine lv_aload_n hx hb dX3_link_0 rfl (lv_at hl 0 rfl) ?_
  refine lv_iconst (v := 0) hx hb dX3_link_1 (by decide) ?_
  refine va_put (D := D) (ci := 3) (v := .int 0) (ty := .int) (C := RX3) (T := TX3) (N := 28) hx hb hts hinX3 tyX3 tyX3_ok nmX3 hown hK.1 hP hD hS 0 rfl rfl 23 (by decide) hw0 (fun _ h9 => h9) rfl (by decide +kernel) rfl rfl (Nat.le_of_ble_eq_true rfl) dX3_link_2 (fun H locs hP hD hS => ?_)
  replace hP : va_P D vwCl (wMc cI cJ adm m0 m1 m2 m3 m4 m5 m6 m7 m8 m9 m10 m11 m12 m13 m14 m15 m16 m17 m18 m19 m20 m21 m22 0 m24 m25 m26 m27) H := hP
  replace hD : va_D A (wMc cI cJ adm m0 m1 m2 m3 m4 m5 m6 m7 m8 m9 m10 m11 m12 m13 m14 m15 m16 m17 m18 m19 m20 m21 m22 0 m24 m25 m26 m27) := hD
  refine lv_aload_n hx hb dX3_link_5 rfl (lv_at hl 0 rfl) ?_
  refine lv_iload_n hx hb dX3_link_6 rfl (lv_at hl 1 rfl) ?_
  replace hf := bdE hf
  obtain ⟨r1, hgr1, hf⟩ := hf
  refine xIw (va_runV (As := [.int p1]) (rest := []) ⟨hx, hb, hml, hown, hts⟩ (c_X3_isCell l D cI cJ cZ adm m0 m1 m2 m3 m4 m5 m6 m7 m8 m9 m10 m11 m12 m13 m14 m15 m16 m17 m18 m19 m20 m21 m22 0 m24 m25 m26 m27 p1 r1 hgr1 _) (cwV 1 hts gX3_link_X3_isCell rfl rfl rfl (by decide +kernel) ⟨Nat.le_of_ble_eq_true rfl, Nat.le_of_ble_eq_true rfl⟩) ⟨PreW.blind, xRecv (q0 := 0) hK hP rfl rfl, (xPrew hK hP hD _)⟩ rfl rfl hl.1 rfl (lv_room (Nat.le_of_ble_eq_true rfl)) dX3_link_7 ⟨Nat.le_of_ble_eq_true rfl, Nat.le_of_ble_eq_true rfl⟩) hD hS hA (fun H locs hP hD hS => ?_)
  replace hP : va_P D vwCl (wMc cI cJ adm m0 m1 m2 m3 m4 m5 m6 m7 m8 m9 m10 m11 m12 m13 m14 m15 m16 m17 m18 m19 m20 m21 m22 0 m24 m25 m26 m27) H := hP
  replace hD : va_D A (wMc cI cJ adm m0 m1 m2 m3 m4 m5 m6 m7 m8 m9 m10 m11 m12 m13 m14 m15 m16 m17 m18 m19 m20 m21 m22 0 m24 m25 m26 m27) := hD
  refine lv_if_eq (tgt := 60) hx hb dX3_link_10 (by decide) (fun q2 => ?_) (fun q2 => ?_)
  · replace hf := ifT q2 hf
    refine lv_iconst (v := (-1)) hx hb dX3_link_60 (by decide) ?_
    obtain rfl := Option.some.inj hf
    refine W.widen (k := 1) (n := 6) (Nat.zero_le _) (Nat.zero_le _) ?_
    exact retI hx hb hr hlocks hP hD hS dX3_link_61
  · replace hf := ifF q2 hf
    refine lv_iload_n hx hb dX3_link_13 rfl (lv_at hl 2 rfl) ?_
    refine lv_iconst (v := 0) hx hb dX3_link_14 (by decide) ?_
    refine lv_iconst (v := 1) hx hb dX3_link_15 (by decide) ?_
    replace hf := bdE hf
    obtain ⟨r3, hgr3, hf⟩ := hf
    refine xI0 (va_runS (As := [.int p2, .int 0, .int 1]) (rest := []) ⟨hx, hb, hml, hown, hts⟩ (c_X3_in l D cI cJ cZ p2 0 1 r3 hgr3 _) (va_cwS 3 hts gX3_link_X3_in rfl rfl rfl (by decide +kernel) ⟨Nat.le_of_ble_eq_true rfl, Nat.le_of_ble_eq_true rfl⟩) ⟨PreW.blind, (xPre0 hK _)⟩ rfl rfl hl.1 rfl (lv_room (Nat.le_of_ble_eq_true rfl)) dX3_link_16 ⟨Nat.le_of_ble_eq_true rfl, Nat.le_of_ble_eq_true rfl⟩) hP hS hA (fun H locs hP hS => ?_)
    refine lv_if_eq (tgt := 60) hx hb dX3_link_19 (by decide) (fun q4 => ?_) (fun q4 => ?_)
    · replace hf := ifT q4 hf
      refine lv_iconst (v := (-1)) hx hb dX3_link_60 (by decide) ?_
      obtain rfl := Option.some.inj hf
      refine W.widen (k := 1) (n := 6) (Nat.zero_le _) (Nat.zero_le _) ?_
      exact retI hx hb hr hlocks hP hD hS dX3_link_61
    · replace hf := ifF q4 hf
      refine lv_iload_n hx hb dX3_link_22 rfl (lv_at hl 3 rfl) ?_
      refine lv_iconst (v := 1) hx hb dX3_link_23 (by decide) ?_
      refine lv_bipush (v := 9) hx hb dX3_link_24 (by decide) ?_
      replace hf := bdE hf
      obtain ⟨r5, hgr5, hf⟩ := hf
      refine xI0 (va_runS (As := [.int p3, .int 1, .int 9]) (rest := []) ⟨hx, hb, hml, hown, hts⟩ (c_X3_in l D cI cJ cZ p3 1 9 r5 hgr5 _) (va_cwS 3 hts gX3_link_X3_in rfl rfl rfl (by decide +kernel) ⟨Nat.le_of_ble_eq_true rfl, Nat.le_of_ble_eq_true rfl⟩) ⟨PreW.blind, (xPre0 hK _)⟩ rfl rfl hl.1 rfl (lv_room (Nat.le_of_ble_eq_true rfl)) dX3_link_26 ⟨Nat.le_of_ble_eq_true rfl, Nat.le_of_ble_eq_true rfl⟩) hP hS hA (fun H locs hP hS => ?_)
      refine lv_if_eq (tgt := 60) hx hb dX3_link_29 (by decide) (fun q6 => ?_) (fun q6 => ?_)
      · replace hf := ifT q6 hf
        refine lv_iconst (v := (-1)) hx hb dX3_link_60 (by decide) ?_
        obtain rfl := Option.some.inj hf
        refine W.widen (k := 1) (n := 6) (Nat.zero_le _) (Nat.zero_le _) ?_
        exact retI hx hb hr hlocks hP hD hS dX3_link_61
      · replace hf := ifF q6 hf
        refine lv_aload_n hx hb dX3_link_32 rfl (lv_at hl 0 rfl) ?_
        refine lv_iload hx hb dX3_link_33 (lv_at hl 4 rfl) ?_
        replace hf := bdE hf
        obtain ⟨r7, hgr7, hf⟩ := hf
        refine xIw (va_runV (As := [.int p4]) (rest := []) ⟨hx, hb, hml, hown, hts⟩ (c_X3_isCell l D cI cJ cZ adm m0 m1 m2 m3 m4 m5 m6 m7 m8 m9 m10 m11 m12 m13 m14 m15 m16 m17 m18 m19 m20 m21 m22 0 m24 m25 m26 m27 p4 r7 hgr7 _) (cwV 1 hts gX3_link_X3_isCell rfl rfl rfl (by decide +kernel) ⟨Nat.le_of_ble_eq_true rfl, Nat.le_of_ble_eq_true rfl⟩) ⟨PreW.blind, xRecv (q0 := 0) hK hP rfl rfl, (xPrew hK hP hD _)⟩ rfl rfl hl.1 rfl (lv_room (Nat.le_of_ble_eq_true rfl)) dX3_link_35 ⟨Nat.le_of_ble_eq_true rfl, Nat.le_of_ble_eq_true rfl⟩) hD hS hA (fun H locs hP hD hS => ?_)
        replace hP : va_P D vwCl (wMc cI cJ adm m0 m1 m2 m3 m4 m5 m6 m7 m8 m9 m10 m11 m12 m13 m14 m15 m16 m17 m18 m19 m20 m21 m22 0 m24 m25 m26 m27) H := hP
        replace hD : va_D A (wMc cI cJ adm m0 m1 m2 m3 m4 m5 m6 m7 m8 m9 m10 m11 m12 m13 m14 m15 m16 m17 m18 m19 m20 m21 m22 0 m24 m25 m26 m27) := hD
        refine lv_if_eq (tgt := 60) hx hb dX3_link_38 (by decide) (fun q8 => ?_) (fun q8 => ?_)
        · replace hf := ifT q8 hf
          refine lv_iconst (v := (-1)) hx hb dX3_link_60 (by decide) ?_
          obtain rfl := Option.some.inj hf
          refine W.widen (k := 1) (n := 6) (Nat.zero_le _) (Nat.zero_le _) ?_
          exact retI hx hb hr hlocks hP hD hS dX3_link_61
        · replace hf := ifF q8 hf
          refine lv_iload hx hb dX3_link_41 (lv_at hl 5 rfl) ?_
          refine lv_iconst (v := 0) hx hb dX3_link_43 (by decide) ?_
          refine lv_iconst (v := 2) hx hb dX3_link_44 (by decide) ?_
          replace hf := bdE hf
          obtain ⟨r9, hgr9, hf⟩ := hf
          refine xI0 (va_runS (As := [.int p5, .int 0, .int 2]) (rest := []) ⟨hx, hb, hml, hown, hts⟩ (c_X3_in l D cI cJ cZ p5 0 2 r9 hgr9 _) (va_cwS 3 hts gX3_link_X3_in rfl rfl rfl (by decide +kernel) ⟨Nat.le_of_ble_eq_true rfl, Nat.le_of_ble_eq_true rfl⟩) ⟨PreW.blind, (xPre0 hK _)⟩ rfl rfl hl.1 rfl (lv_room (Nat.le_of_ble_eq_true rfl)) dX3_link_45 ⟨Nat.le_of_ble_eq_true rfl, Nat.le_of_ble_eq_true rfl⟩) hP hS hA (fun H locs hP hS => ?_)
          refine lv_if_eq (tgt := 60) hx hb dX3_link_48 (by decide) (fun q10 => ?_) (fun q10 => ?_)
          · replace hf := ifT q10 hf
            refine lv_iconst (v := (-1)) hx hb dX3_link_60 (by decide) ?_
            obtain rfl := Option.some.inj hf
            refine W.widen (k := 1) (n := 6) (Nat.zero_le _) (Nat.zero_le _) ?_
            exact retI hx hb hr hlocks hP hD hS dX3_link_61
          · replace hf := ifF q10 hf
            refine lv_aload_n hx hb dX3_link_51 rfl (lv_at hl 0 rfl) ?_
            refine va_get (D := D) (ci := 3) (v := .int m6) (C := RX3) (T := TX3) (N := 28) hx hb hts hinX3 hown hK.1 hP 0 rfl rfl 6 (by decide) hw1 (fun _ h9 => h9) rfl dX3_link_52 ?_
            refine lv_bipush (v := 8) hx hb dX3_link_55 (by decide) ?_
            refine lv_icmp_ne (tgt := 62) hx hb dX3_link_57 (by decide) (fun q11 => ?_) (fun q11 => ?_)
            · replace hf := ifT q11 hf
              refine lv_iload hx hb dX3_link_62 (lv_at hl 5 rfl) ?_
              have J79 : ∀  (H : Heap) (locs : List Loc) (ls : Array Slot), f_X3_link_J79 m0 m5 m6 m7 p1 p2 p3 p4 p5 p6  = some o → va_P D vwCl (wMc cI cJ adm m0 m1 m2 m3 m4 m5 m6 m7 m8 m9 m10 m11 m12 m13 m14 m15 m16 m17 m18 m19 m20 m21 m22 0 m24 m25 m26 m27) H → va_D A (wMc cI cJ adm m0 m1 m2 m3 m4 m5 m6 m7 m8 m9 m10 m11 m12 m13 m14 m15 m16 m17 m18 m19 m20 m21 m22 0 m24 m25 m26 m27) → va_S A s.heap H locs → lv_has ls 9 [(0, .ref (adm 0)), (1, .int p1), (2, .int p2), (3, .int p3), (4, .int p4), (5, .int p5), (6, .int p6)] → W p l e (headSpec wsX3_link rmX3_link).room s m ([.ref (adm 0), .int p1, .int p2, .int p3, .int p4, .int p5, .int p6] : List Value).toArray below meth c H locs 0 0 (MQ below (QI D A o.1 (wMc cI cJ adm m0 m1 m2 m3 m4 o.2.1 o.2.2.1 o.2.2.2.1 m8 m9 m10 m11 m12 m13 m14 m15 m16 m17 m18 m19 m20 m21 m22 o.2.2.2.2 m24 m25 m26 m27)) ([.ref (adm 0), .int p1, .int p2, .int p3, .int p4, .int p5, .int p6] : List Value).toArray s 1 6 A) (F0 m 79 ls []) := by
                intro  H locs ls hf hP hD hS hl
                unfold f_X3_link_J79 at hf
                refine lv_iload hx hb dX3_link_79 (lv_at hl 5 rfl) ?_
                refine lv_iconst (v := 2) hx hb dX3_link_81 (by decide) ?_
                have J97 : ∀  (H : Heap) (locs : List Loc) (ls : Array Slot), f_X3_link_J97 m0 m5 m6 m7 p1 p2 p3 p4 p5 p6  = some o → va_P D vwCl (wMc cI cJ adm m0 m1 m2 m3 m4 m5 m6 m7 m8 m9 m10 m11 m12 m13 m14 m15 m16 m17 m18 m19 m20 m21 m22 0 m24 m25 m26 m27) H → va_D A (wMc cI cJ adm m0 m1 m2 m3 m4 m5 m6 m7 m8 m9 m10 m11 m12 m13 m14 m15 m16 m17 m18 m19 m20 m21 m22 0 m24 m25 m26 m27) → va_S A s.heap H locs → lv_has ls 9 [(0, .ref (adm 0)), (1, .int p1), (2, .int p2), (3, .int p3), (4, .int p4), (5, .int p5), (6, .int p6)] → W p l e (headSpec wsX3_link rmX3_link).room s m ([.ref (adm 0), .int p1, .int p2, .int p3, .int p4, .int p5, .int p6] : List Value).toArray below meth c H locs 0 0 (MQ below (QI D A o.1 (wMc cI cJ adm m0 m1 m2 m3 m4 o.2.1 o.2.2.1 o.2.2.2.1 m8 m9 m10 m11 m12 m13 m14 m15 m16 m17 m18 m19 m20 m21 m22 o.2.2.2.2 m24 m25 m26 m27)) ([.ref (adm 0), .int p1, .int p2, .int p3, .int p4, .int p5, .int p6] : List Value).toArray s 1 6 A) (F0 m 97 ls []) := by
                  intro  H locs ls hf hP hD hS hl
                  unfold f_X3_link_J97 at hf
                  refine lv_bipush (v := 6) hx hb dX3_link_97 (by decide) ?_
                  refine va_newa (ty := .int) (a0 := (6, .inl (fun _ => 0))) hx hb hw2 rfl hK.1 hP hD hS hA (fun _ => rfl) (by decide) (by decide) (by decide) (Nat.le_of_ble_eq_true rfl) (Nat.le_of_ble_eq_true rfl) dX3_link_99 (fun q9 cA H hK9 hP hD hS => ?_)
                  obtain rfl : cA = cI := arr_one hK.1 hK9 0 3 rfl rfl
                  replace hP : va_P D vwCl (wMc cI cJ adm m0 m1 m2 m3 m4 m5 m6 m7 m8 m9 m10 m11 m12 m13 m14 m15 m16 m17 m18 m19 m20 m21 m22 0 m24 m25 m26 m27 ++ [(q9, .inl (cI, 6, .inl (fun _ => 0)))]) H := hP
                  replace hD : va_D A (wMc cI cJ adm m0 m1 m2 m3 m4 m5 m6 m7 m8 m9 m10 m11 m12 m13 m14 m15 m16 m17 m18 m19 m20 m21 m22 0 m24 m25 m26 m27 ++ [(q9, .inl (cI, 6, .inl (fun _ => 0)))]) := hD
                  refine lv_dup hx hb dX3_link_101 rfl ?_
                  refine lv_iconst (v := 0) hx hb dX3_link_102 (by decide) ?_
                  refine lv_iload_n hx hb dX3_link_103 rfl (lv_at hl 1 rfl) ?_
                  replace hf := gdE hf
                  obtain ⟨h12, hf⟩ := hf
                  refine va_iast hx hb hK.1 hP hD hS 18 0 rfl rfl (ib_in h12) dX3_link_104 (fun H locs hP hD hS => ?_)
                  replace hP : va_P D vwCl (wMc cI cJ adm m0 m1 m2 m3 m4 m5 m6 m7 m8 m9 m10 m11 m12 m13 m14 m15 m16 m17 m18 m19 m20 m21 m22 0 m24 m25 m26 m27 ++ [(q9, .inl (cI, 6, .inl (upd (fun _ => 0) (0 : Int32).toNatClampNeg p1)))]) H := hP
                  replace hD : va_D A (wMc cI cJ adm m0 m1 m2 m3 m4 m5 m6 m7 m8 m9 m10 m11 m12 m13 m14 m15 m16 m17 m18 m19 m20 m21 m22 0 m24 m25 m26 m27 ++ [(q9, .inl (cI, 6, .inl (upd (fun _ => 0) (0 : Int32).toNatClampNeg p1)))]) := hD
                  refine lv_dup hx hb dX3_link_105 rfl ?_
                  refine lv_iconst (v := 1) hx hb dX3_link_106 (by decide) ?_
                  refine lv_iload_n hx hb dX3_link_107 rfl (lv_at hl 2 rfl) ?_
                  replace hf := gdE hf
                  obtain ⟨h13, hf⟩ := hf
                  refine va_iast hx hb hK.1 hP hD hS 18 0 rfl rfl (ib_in h13) dX3_link_108 (fun H locs hP hD hS => ?_)
                  replace hP : va_P D vwCl (wMc cI cJ adm m0 m1 m2 m3 m4 m5 m6 m7 m8 m9 m10 m11 m12 m13 m14 m15 m16 m17 m18 m19 m20 m21 m22 0 m24 m25 m26 m27 ++ [(q9, .inl (cI, 6, .inl (upd (upd (fun _ => 0) (0 : Int32).toNatClampNeg p1) (1 : Int32).toNatClampNeg p2)))]) H := hP
                  replace hD : va_D A (wMc cI cJ adm m0 m1 m2 m3 m4 m5 m6 m7 m8 m9 m10 m11 m12 m13 m14 m15 m16 m17 m18 m19 m20 m21 m22 0 m24 m25 m26 m27 ++ [(q9, .inl (cI, 6, .inl (upd (upd (fun _ => 0) (0 : Int32).toNatClampNeg p1) (1 : Int32).toNatClampNeg p2)))]) := hD
                  refine lv_dup hx hb dX3_link_109 rfl ?_
                  refine lv_iconst (v := 2) hx hb dX3_link_110 (by decide) ?_
                  refine lv_iload_n hx hb dX3_link_111 rfl (lv_at hl 3 rfl) ?_
                  replace hf := gdE hf
                  obtain ⟨h14, hf⟩ := hf
                  refine va_iast hx hb hK.1 hP hD hS 18 0 rfl rfl (ib_in h14) dX3_link_112 (fun H locs hP hD hS => ?_)
                  replace hP : va_P D vwCl (wMc cI cJ adm m0 m1 m2 m3 m4 m5 m6 m7 m8 m9 m10 m11 m12 m13 m14 m15 m16 m17 m18 m19 m20 m21 m22 0 m24 m25 m26 m27 ++ [(q9, .inl (cI, 6, .inl (upd (upd (upd (fun _ => 0) (0 : Int32).toNatClampNeg p1) (1 : Int32).toNatClampNeg p2) (2 : Int32).toNatClampNeg p3)))]) H := hP
                  replace hD : va_D A (wMc cI cJ adm m0 m1 m2 m3 m4 m5 m6 m7 m8 m9 m10 m11 m12 m13 m14 m15 m16 m17 m18 m19 m20 m21 m22 0 m24 m25 m26 m27 ++ [(q9, .inl (cI, 6, .inl (upd (upd (upd (fun _ => 0) (0 : Int32).toNatClampNeg p1) (1 : Int32).toNatClampNeg p2) (2 : Int32).toNatClampNeg p3)))]) := hD
                  refine lv_dup hx hb dX3_link_113 rfl ?_
                  refine lv_iconst (v := 3) hx hb dX3_link_114 (by decide) ?_
                  refine lv_iload hx hb dX3_link_115 (lv_at hl 4 rfl) ?_
                  replace hf := gdE hf
                  obtain ⟨h15, hf⟩ := hf
                  refine va_iast hx hb hK.1 hP hD hS 18 0 rfl rfl (ib_in h15) dX3_link_117 (fun H locs hP hD hS => ?_)
                  replace hP : va_P D vwCl (wMc cI cJ adm m0 m1 m2 m3 m4 m5 m6 m7 m8 m9 m10 m11 m12 m13 m14 m15 m16 m17 m18 m19 m20 m21 m22 0 m24 m25 m26 m27 ++ [(q9, .inl (cI, 6, .inl (upd (upd (upd (upd (fun _ => 0) (0 : Int32).toNatClampNeg p1) (1 : Int32).toNatClampNeg p2) (2 : Int32).toNatClampNeg p3) (3 : Int32).toNatClampNeg p4)))]) H := hP
                  replace hD : va_D A (wMc cI cJ adm m0 m1 m2 m3 m4 m5 m6 m7 m8 m9 m10 m11 m12 m13 m14 m15 m16 m17 m18 m19 m20 m21 m22 0 m24 m25 m26 m27 ++ [(q9, .inl (cI, 6, .inl (upd (upd (upd (upd (fun _ => 0) (0 : Int32).toNatClampNeg p1) (1 : Int32).toNatClampNeg p2) (2 : Int32).toNatClampNeg p3) (3 : Int32).toNatClampNeg p4)))]) := hD
                  refine lv_dup hx hb dX3_link_118 rfl ?_
                  refine lv_iconst (v := 4) hx hb dX3_link_119 (by decide) ?_
                  refine lv_iload hx hb dX3_link_120 (lv_at hl 5 rfl) ?_
                  replace hf := gdE hf
                  obtain ⟨h16, hf⟩ := hf
                  refine va_iast hx hb hK.1 hP hD hS 18 0 rfl rfl (ib_in h16) dX3_link_122 (fun H locs hP hD hS => ?_)
                  replace hP : va_P D vwCl (wMc cI cJ adm m0 m1 m2 m3 m4 m5 m6 m7 m8 m9 m10 m11 m12 m13 m14 m15 m16 m17 m18 m19 m20 m21 m22 0 m24 m25 m26 m27 ++ [(q9, .inl (cI, 6, .inl (upd (upd (upd (upd (upd (fun _ => 0) (0 : Int32).toNatClampNeg p1) (1 : Int32).toNatClampNeg p2) (2 : Int32).toNatClampNeg p3) (3 : Int32).toNatClampNeg p4) (4 : Int32).toNatClampNeg p5)))]) H := hP
                  replace hD : va_D A (wMc cI cJ adm m0 m1 m2 m3 m4 m5 m6 m7 m8 m9 m10 m11 m12 m13 m14 m15 m16 m17 m18 m19 m20 m21 m22 0 m24 m25 m26 m27 ++ [(q9, .inl (cI, 6, .inl (upd (upd (upd (upd (upd (fun _ => 0) (0 : Int32).toNatClampNeg p1) (1 : Int32).toNatClampNeg p2) (2 : Int32).toNatClampNeg p3) (3 : Int32).toNatClampNeg p4) (4 : Int32).toNatClampNeg p5)))]) := hD
                  refine lv_dup hx hb dX3_link_123 rfl ?_
                  refine lv_iconst (v := 5) hx hb dX3_link_124 (by decide) ?_
                  refine lv_iload hx hb dX3_link_125 (lv_at hl 6 rfl) ?_
                  replace hf := gdE hf
                  obtain ⟨h17, hf⟩ := hf
                  refine va_iast hx hb hK.1 hP hD hS 18 0 rfl rfl (ib_in h17) dX3_link_127 (fun H locs hP hD hS => ?_)
                  replace hP : va_P D vwCl (wMc cI cJ adm m0 m1 m2 m3 m4 m5 m6 m7 m8 m9 m10 m11 m12 m13 m14 m15 m16 m17 m18 m19 m20 m21 m22 0 m24 m25 m26 m27 ++ [(q9, .inl (cI, 6, .inl (upd (upd (upd (upd (upd (upd (fun _ => 0) (0 : Int32).toNatClampNeg p1) (1 : Int32).toNatClampNeg p2) (2 : Int32).toNatClampNeg p3) (3 : Int32).toNatClampNeg p4) (4 : Int32).toNatClampNeg p5) (5 : Int32).toNatClampNeg p6)))]) H := hP
                  replace hD : va_D A (wMc cI cJ adm m0 m1 m2 m3 m4 m5 m6 m7 m8 m9 m10 m11 m12 m13 m14 m15 m16 m17 m18 m19 m20 m21 m22 0 m24 m25 m26 m27 ++ [(q9, .inl (cI, 6, .inl (upd (upd (upd (upd (upd (upd (fun _ => 0) (0 : Int32).toNatClampNeg p1) (1 : Int32).toNatClampNeg p2) (2 : Int32).toNatClampNeg p3) (3 : Int32).toNatClampNeg p4) (4 : Int32).toNatClampNeg p5) (5 : Int32).toNatClampNeg p6)))]) := hD
                  refine lv_astore (lv' := [(7, .ref q9), (0, .ref (adm 0)), (1, .int p1), (2, .int p2), (3, .int p3), (4, .int p4), (5, .int p5), (6, .int p6)]) hx hb dX3_link_128 hl (by decide) rfl (fun ls hl => ?_)
                  refine lv_iconst (v := 0) hx hb dX3_link_130 (by decide) ?_
                  refine lv_istore (lv' := [(8, .int 0), (7, .ref q9), (0, .ref (adm 0)), (1, .int p1), (2, .int p2), (3, .int p3), (4, .int p4), (5, .int p5), (6, .int p6)]) hx hb dX3_link_131 hl (by decide) rfl (fun ls hl => ?_)
                  have L133 : ∀ (n : Nat) (l8_133 : Int32) (m5_133 : Ar) (H : Heap) (locs : List Loc) (ls : Array Slot), f_X3_link_L133 m0 m6 m7 p1 p2 p3 p4 p5 p6 n l8_133 m5_133 = some o → va_P D vwCl (wMc cI cJ adm m0 m1 m2 m3 m4 m5_133 m6 m7 m8 m9 m10 m11 m12 m13 m14 m15 m16 m17 m18 m19 m20 m21 m22 0 m24 m25 m26 m27 ++ [(q9, .inl (cI, 6, .inl (upd (upd (upd (upd (upd (upd (fun _ => 0) (0 : Int32).toNatClampNeg p1) (1 : Int32).toNatClampNeg p2) (2 : Int32).toNatClampNeg p3) (3 : Int32).toNatClampNeg p4) (4 : Int32).toNatClampNeg p5) (5 : Int32).toNatClampNeg p6)))]) H → va_D A (wMc cI cJ adm m0 m1 m2 m3 m4 m5_133 m6 m7 m8 m9 m10 m11 m12 m13 m14 m15 m16 m17 m18 m19 m20 m21 m22 0 m24 m25 m26 m27 ++ [(q9, .inl (cI, 6, .inl (upd (upd (upd (upd (upd (upd (fun _ => 0) (0 : Int32).toNatClampNeg p1) (1 : Int32).toNatClampNeg p2) (2 : Int32).toNatClampNeg p3) (3 : Int32).toNatClampNeg p4) (4 : Int32).toNatClampNeg p5) (5 : Int32).toNatClampNeg p6)))]) → va_S A s.heap H locs → lv_has ls 9 [(0, .ref (adm 0)), (7, .ref q9), (8, .int l8_133)] → W p l e (headSpec wsX3_link rmX3_link).room s m ([.ref (adm 0), .int p1, .int p2, .int p3, .int p4, .int p5, .int p6] : List Value).toArray below meth c H locs (0 + 1) (0 + 6) (MQ below (QI D A o.1 (wMc cI cJ adm m0 m1 m2 m3 m4 o.2.1 o.2.2.1 o.2.2.2.1 m8 m9 m10 m11 m12 m13 m14 m15 m16 m17 m18 m19 m20 m21 m22 o.2.2.2.2 m24 m25 m26 m27)) ([.ref (adm 0), .int p1, .int p2, .int p3, .int p4, .int p5, .int p6] : List Value).toArray s 1 6 A) (F0 m 133 ls []) := by
                    intro n
                    induction n with
                    | zero => intro l8_133 m5_133 H locs ls hf; cases hf
                    | succ n ih133 =>
                      intro l8_133 m5_133 H locs ls hf hP hD hS hl
                      replace hf : f_X3_link_B133 m0 m6 m7 p1 p2 p3 p4 p5 p6 (f_X3_link_L133 m0 m6 m7 p1 p2 p3 p4 p5 p6 n) l8_133 m5_133 = some o := hf
                      generalize f_X3_link_L133 m0 m6 m7 p1 p2 p3 p4 p5 p6 n = rec133 at ih133 hf
                      unfold f_X3_link_B133 at hf
                      refine lv_iload hx hb dX3_link_133 (lv_at hl 2 rfl) ?_
                      refine lv_bipush (v := 6) hx hb dX3_link_135 (by decide) ?_
                      refine lv_icmp_ge (tgt := 166) hx hb dX3_link_137 (by decide) (fun q18 => ?_) (fun q18 => ?_)
                      · replace hf := ifT q18 hf
                        refine lv_aload_n hx hb dX3_link_166 rfl (lv_at hl 0 rfl) ?_
                        refine lv_dup hx hb dX3_link_167 rfl ?_
                        refine va_get (D := D) (ci := 3) (v := .int m6) (C := RX3) (T := TX3) (N := 28) hx hb hts hinX3 hown hK.1 hP 0 rfl rfl 6 (by decide) hw1 (fun _ h9 => h9) rfl dX3_link_168 ?_
                        refine lv_iconst (v := 1) hx hb dX3_link_171 (by decide) ?_
                        refine lv_iadd hx hb dX3_link_172 ?_
                        refine lv_topi (fun v19 ev19 => ?_)
                        replace hf := bndE hf ev19
                        refine va_put (D := D) (ci := 3) (v := .int v19) (ty := .int) (C := RX3) (T := TX3) (N := 28) hx hb hts hinX3 tyX3 tyX3_ok nmX3 hown hK.1 hP hD hS 0 rfl rfl 6 (by decide) hw1 (fun _ h9 => h9) rfl (by decide +kernel) rfl rfl (Nat.le_of_ble_eq_true rfl) dX3_link_173 (fun H locs hP hD hS => ?_)
                        replace hP : va_P D vwCl (wMc cI cJ adm m0 m1 m2 m3 m4 m5_133 v19 m7 m8 m9 m10 m11 m12 m13 m14 m15 m16 m17 m18 m19 m20 m21 m22 0 m24 m25 m26 m27 ++ [(q9, .inl (cI, 6, .inl (upd (upd (upd (upd (upd (upd (fun _ => 0) (0 : Int32).toNatClampNeg p1) (1 : Int32).toNatClampNeg p2) (2 : Int32).toNatClampNeg p3) (3 : Int32).toNatClampNeg p4) (4 : Int32).toNatClampNeg p5) (5 : Int32).toNatClampNeg p6)))]) H := hP
                        replace hD : va_D A (wMc cI cJ adm m0 m1 m2 m3 m4 m5_133 v19 m7 m8 m9 m10 m11 m12 m13 m14 m15 m16 m17 m18 m19 m20 m21 m22 0 m24 m25 m26 m27 ++ [(q9, .inl (cI, 6, .inl (upd (upd (upd (upd (upd (upd (fun _ => 0) (0 : Int32).toNatClampNeg p1) (1 : Int32).toNatClampNeg p2) (2 : Int32).toNatClampNeg p3) (3 : Int32).toNatClampNeg p4) (4 : Int32).toNatClampNeg p5) (5 : Int32).toNatClampNeg p6)))]) := hD
                        refine lv_aload_n hx hb dX3_link_176 rfl (lv_at hl 0 rfl) ?_
                        replace hf := bdE hf
                        obtain ⟨r20, hgr20, hf⟩ := hf
                        refine xV (w2 := (wMc cI cJ adm m0 m1 m2 m3 m4 m5_133 v19 r20 m8 m9 m10 m11 m12 m13 m14 m15 m16 m17 m18 m19 m20 m21 m22 0 m24 m25 m26 m27 ++ [(q9, .inl (cI, 6, .inl (upd (upd (upd (upd (upd (upd (fun _ => 0) (0 : Int32).toNatClampNeg p1) (1 : Int32).toNatClampNeg p2) (2 : Int32).toNatClampNeg p3) (3 : Int32).toNatClampNeg p4) (4 : Int32).toNatClampNeg p5) (5 : Int32).toNatClampNeg p6)))])) (wr := ([(q9, .inl (cI, 6, .inl (upd (upd (upd (upd (upd (upd (fun _ => 0) (0 : Int32).toNatClampNeg p1) (1 : Int32).toNatClampNeg p2) (2 : Int32).toNatClampNeg p3) (3 : Int32).toNatClampNeg p4) (4 : Int32).toNatClampNeg p5) (5 : Int32).toNatClampNeg p6)))])) (va_runV (As := []) (rest := []) ⟨hx, hb, hml, hown, hts⟩ (c_X3_resetAll l D cI cJ cZ adm m0 m1 m2 m3 m4 m5_133 v19 m7 m8 m9 m10 m11 m12 m13 m14 m15 m16 m17 m18 m19 m20 m21 m22 0 m24 m25 m26 m27 r20 hgr20 _) (cwV 0 hts gX3_link_X3_resetAll rfl rfl rfl (by decide +kernel) ⟨Nat.le_of_ble_eq_true rfl, Nat.le_of_ble_eq_true rfl⟩) ⟨PreW.blind, xRecv (q0 := 0) hK hP rfl rfl, (xPre hK hP hD [0, 1, 2, 3, 4, 5, 6, 7, 8, 9, 10, 11, 12, 13, 14, 15, 16, 17] rfl (by decide) _)⟩ rfl rfl hl.1 rfl (lv_room (Nat.le_of_ble_eq_true rfl)) dX3_link_177 ⟨Nat.le_of_ble_eq_true rfl, Nat.le_of_ble_eq_true rfl⟩) hP hD hS hA [0, 1, 2, 3, 4, 5, 6, 7, 8, 9, 10, 11, 12, 13, 14, 15, 16, 17] [18] [1, 2, 3, 4, 5, 6, 7, 8, 9, 10, 11, 12, 13, 14, 15, 16, 17, 18, 0] rfl rfl (by decide) (by decide) rfl (by decide) (fun H locs hP hD hS => ?_)
                        refine lv_aload_n hx hb dX3_link_180 rfl (lv_at hl 0 rfl) ?_
                        refine va_get (D := D) (ci := 3) (v := .int v19) (C := RX3) (T := TX3) (N := 28) hx hb hts hinX3 hown hK.1 hP 0 rfl rfl 6 (by decide) hw1 (fun _ h9 => h9) rfl dX3_link_181 ?_
                        refine lv_iconst (v := 1) hx hb dX3_link_184 (by decide) ?_
                        refine lv_isub hx hb dX3_link_185 ?_
                        obtain rfl := Option.some.inj hf
                        replace hP : va_P D vwCl (wMc cI cJ adm m0 m1 m2 m3 m4 m5_133 v19 r20 m8 m9 m10 m11 m12 m13 m14 m15 m16 m17 m18 m19 m20 m21 m22 0 m24 m25 m26 m27) H := P_subm hP [0, 1, 2, 3, 4, 5, 6, 7, 8, 9, 10, 11, 12, 13, 14, 15, 16, 17] rfl
                        replace hD : va_D A (wMc cI cJ adm m0 m1 m2 m3 m4 m5_133 v19 r20 m8 m9 m10 m11 m12 m13 m14 m15 m16 m17 m18 m19 m20 m21 m22 0 m24 m25 m26 m27) := hD.sub [0, 1, 2, 3, 4, 5, 6, 7, 8, 9, 10, 11, 12, 13, 14, 15, 16, 17] (by decide) rfl
                        exact retI hx hb hr hlocks hP hD hS dX3_link_186
                      · replace hf := ifF q18 hf
                        refine lv_aload_n hx hb dX3_link_140 rfl (lv_at hl 0 rfl) ?_
                        refine va_get (D := D) (ci := 3) (v := .ref (adm 5)) (C := RX3) (T := TX3) (N := 28) hx hb hts hinX3 hown hK.1 hP 0 rfl rfl 5 (by decide) hw3 (fun _ h9 => h9) rfl dX3_link_141 ?_
                        refine lv_bipush (v := 6) hx hb dX3_link_144 (by decide) ?_
                        refine lv_aload_n hx hb dX3_link_146 rfl (lv_at hl 0 rfl) ?_
                        refine va_get (D := D) (ci := 3) (v := .int m6) (C := RX3) (T := TX3) (N := 28) hx hb hts hinX3 hown hK.1 hP 0 rfl rfl 6 (by decide) hw1 (fun _ h9 => h9) rfl dX3_link_147 ?_
                        refine lv_imul hx hb dX3_link_150 ?_
                        refine lv_iload hx hb dX3_link_151 (lv_at hl 2 rfl) ?_
                        refine lv_iadd hx hb dX3_link_153 ?_
                        refine lv_aload hx hb dX3_link_154 (lv_at hl 1 rfl) ?_
                        refine lv_iload hx hb dX3_link_156 (lv_at hl 2 rfl) ?_
                        replace hf := gdE hf
                        obtain ⟨h21, hf⟩ := hf
                        refine va_iald hx hb hK.1 hP 18 0 rfl rfl (ib_in h21) dX3_link_158 ?_
                        refine lv_topi (fun v22 ev22 => ?_)
                        replace hf := bndE hf ev22
                        replace hf := gdE hf
                        obtain ⟨h23, hf⟩ := hf
                        refine va_iast hx hb hK.1 hP hD hS 5 0 rfl rfl (ib_in h23) dX3_link_159 (fun H locs hP hD hS => ?_)
                        replace hP : va_P D vwCl (wMc cI cJ adm m0 m1 m2 m3 m4 (upd m5_133 ((6 * m6) + l8_133).toNatClampNeg v22) m6 m7 m8 m9 m10 m11 m12 m13 m14 m15 m16 m17 m18 m19 m20 m21 m22 0 m24 m25 m26 m27 ++ [(q9, .inl (cI, 6, .inl (upd (upd (upd (upd (upd (upd (fun _ => 0) (0 : Int32).toNatClampNeg p1) (1 : Int32).toNatClampNeg p2) (2 : Int32).toNatClampNeg p3) (3 : Int32).toNatClampNeg p4) (4 : Int32).toNatClampNeg p5) (5 : Int32).toNatClampNeg p6)))]) H := hP
                        replace hD : va_D A (wMc cI cJ adm m0 m1 m2 m3 m4 (upd m5_133 ((6 * m6) + l8_133).toNatClampNeg v22) m6 m7 m8 m9 m10 m11 m12 m13 m14 m15 m16 m17 m18 m19 m20 m21 m22 0 m24 m25 m26 m27 ++ [(q9, .inl (cI, 6, .inl (upd (upd (upd (upd (upd (upd (fun _ => 0) (0 : Int32).toNatClampNeg p1) (1 : Int32).toNatClampNeg p2) (2 : Int32).toNatClampNeg p3) (3 : Int32).toNatClampNeg p4) (4 : Int32).toNatClampNeg p5) (5 : Int32).toNatClampNeg p6)))]) := hD
                        refine lv_iinc (v := l8_133 + 1) (lv' := [(8, .int (l8_133 + 1)), (0, .ref (adm 0)), (7, .ref q9)]) hx hb dX3_link_160 hl (k := 2) rfl (by rfl) (by decide) rfl (fun ls hl => ?_)
                        refine lv_goto (tgt := 133) hx hb dX3_link_163 (by decide) ?_
                        exact ih133 (l8_133 + 1) (upd m5_133 ((6 * m6) + l8_133).toNatClampNeg v22) _ _ _ hf hP hD hS (lv_sub hl [1, 2, 0] rfl)
                  exact L133 fuel 0 m5 _ _ _ hf hP hD hS (lv_sub hl [2, 1, 0] rfl)
                refine lv_icmp_ne (tgt := 97) hx hb dX3_link_82 (by decide) (fun q24 => ?_) (fun q24 => ?_)
                · replace hf := ifT q24 hf
                  exact J97  _ _ _ hf hP hD hS (lv_sub hl [0, 1, 2, 3, 4, 5, 6] rfl)
                · replace hf := ifN q24 hf
                  refine lv_iload hx hb dX3_link_85 (lv_at hl 6 rfl) ?_
                  refine lv_iconst (v := 0) hx hb dX3_link_87 (by decide) ?_
                  refine lv_iconst (v := 1) hx hb dX3_link_88 (by decide) ?_
                  replace hf := bdE hf
                  obtain ⟨r25, hgr25, hf⟩ := hf
                  refine xI0 (va_runS (As := [.int p6, .int 0, .int 1]) (rest := []) ⟨hx, hb, hml, hown, hts⟩ (c_X3_in l D cI cJ cZ p6 0 1 r25 hgr25 _) (va_cwS 3 hts gX3_link_X3_in rfl rfl rfl (by decide +kernel) ⟨Nat.le_of_ble_eq_true rfl, Nat.le_of_ble_eq_true rfl⟩) ⟨PreW.blind, (xPre0 hK _)⟩ rfl rfl hl.1 rfl (lv_room (Nat.le_of_ble_eq_true rfl)) dX3_link_89 ⟨Nat.le_of_ble_eq_true rfl, Nat.le_of_ble_eq_true rfl⟩) hP hS hA (fun H locs hP hS => ?_)
                  refine lv_if_ne (tgt := 97) hx hb dX3_link_92 (by decide) (fun q26 => ?_) (fun q26 => ?_)
                  · replace hf := ifT q26 hf
                    exact J97  _ _ _ hf hP hD hS (lv_sub hl [0, 1, 2, 3, 4, 5, 6] rfl)
                  · replace hf := ifN q26 hf
                    refine lv_iconst (v := (-1)) hx hb dX3_link_95 (by decide) ?_
                    obtain rfl := Option.some.inj hf
                    refine W.widen (k := 1) (n := 6) (Nat.zero_le _) (Nat.zero_le _) ?_
                    exact retI hx hb hr hlocks hP hD hS dX3_link_96
              refine lv_if_ne (tgt := 79) hx hb dX3_link_64 (by decide) (fun q27 => ?_) (fun q27 => ?_)
              · replace hf := ifT q27 hf
                exact J79  _ _ _ hf hP hD hS (lv_sub hl [0, 1, 2, 3, 4, 5, 6] rfl)
              · replace hf := ifN q27 hf
                refine lv_iload hx hb dX3_link_67 (lv_at hl 6 rfl) ?_
                refine lv_bipush (v := (-20)) hx hb dX3_link_69 (by decide) ?_
                refine lv_bipush (v := 20) hx hb dX3_link_71 (by decide) ?_
                replace hf := bdE hf
                obtain ⟨r28, hgr28, hf⟩ := hf
                refine xI0 (va_runS (As := [.int p6, .int ((-20)), .int 20]) (rest := []) ⟨hx, hb, hml, hown, hts⟩ (c_X3_in l D cI cJ cZ p6 ((-20)) 20 r28 hgr28 _) (va_cwS 3 hts gX3_link_X3_in rfl rfl rfl (by decide +kernel) ⟨Nat.le_of_ble_eq_true rfl, Nat.le_of_ble_eq_true rfl⟩) ⟨PreW.blind, (xPre0 hK _)⟩ rfl rfl hl.1 rfl (lv_room (Nat.le_of_ble_eq_true rfl)) dX3_link_73 ⟨Nat.le_of_ble_eq_true rfl, Nat.le_of_ble_eq_true rfl⟩) hP hS hA (fun H locs hP hS => ?_)
                refine lv_if_eq (tgt := 95) hx hb dX3_link_76 (by decide) (fun q29 => ?_) (fun q29 => ?_)
                · replace hf := ifT q29 hf
                  refine lv_iconst (v := (-1)) hx hb dX3_link_95 (by decide) ?_
                  obtain rfl := Option.some.inj hf
                  refine W.widen (k := 1) (n := 6) (Nat.zero_le _) (Nat.zero_le _) ?_
                  exact retI hx hb hr hlocks hP hD hS dX3_link_96
                · replace hf := ifF q29 hf
                  exact J79  _ _ _ hf hP hD hS (lv_sub hl [0, 1, 2, 3, 4, 5, 6] rfl)
            · replace hf := ifN q11 hf
              refine lv_iconst (v := (-1)) hx hb dX3_link_60 (by decide) ?_
              obtain rfl := Option.some.inj hf
              refine W.widen (k := 1) (n := 6) (Nat.zero_le _) (Nat.zero_le _) ?_
              exact retI hx hb hr hlocks hP hD hS dX3_link_61
