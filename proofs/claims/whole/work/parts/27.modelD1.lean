def f_X3_cell (m0 : Ar) (m1 : Ar) (m2 : Ar) (m3 : Ar) (m4 : Int32) (m7 : Al) (p1 : Int32) (p2 : Int32) (p3 : Int32) (p4 : Int32) : Option (Int32 × Ar × Ar × Ar × Ar × Int32 × Al × Int32) :=
(f_X3_in p1 ((-50)) 50).bind (fun r1 =>
if (b2i r1) = 0 then
some ((-1), m0, m1, m2, m3, m4, m7, 0)
else
(f_X3_in p2 ((-50)) 50).bind (fun r3 =>
if (b2i r3) = 0 then
some ((-1), m0, m1, m2, m3, m4, m7, 0)
else
if p2 ≤ p1 then
some ((-1), m0, m1, m2, m3, m4, m7, 0)
else
(f_X3_in p3 1 60).bind (fun r6 =>
if (b2i r6) = 0 then
some ((-1), m0, m1, m2, m3, m4, m7, 0)
else
(f_X3_in p4 1 60).bind (fun r8 =>
if (b2i r8) = 0 then
some ((-1), m0, m1, m2, m3, m4, m7, 0)
else
if ¬ m4 = 4 then
gd (ib m4 4) (
bnd (m4 + 1) (fun v12 =>
(f_X3_resetAll (upd m0 m4.toNatClampNeg p1) m7).bind (fun r13 =>
some (v12 - 1, upd m0 m4.toNatClampNeg p1, upd m1 m4.toNatClampNeg p2, upd m2 m4.toNatClampNeg p3, upd m3 m4.toNatClampNeg p4, v12, r13, 0))))
else
some ((-1), m0, m1, m2, m3, m4, m7, 0)))))
abbrev rmX3_cell : Room := { frames := 1, cells := 0, slots := 0, locals := 22 }
set_option maxHeartbeats 40000000 in
set_option maxRecDepth 100000 in
theorem c_X3_cell (l : Launch) (D : va_G) (cI cJ cZ : ClassId) (adm : Nat → Nat) (m0 : Ar) (m1 : Ar) (m2 : Ar) (m3 : Ar) (m4 : Int32) (m5 : Ar) (m6 : Int32) (m7 : Al) (m8 : Al) (m9 : Al) (m10 : Ar) (m11 : Ar) (m12 : Al) (m13 : Al) (m14 : Int32) (m15 : Al) (m16 : Int32) (m17 : Al) (m18 : Ar) (m19 : Int32) (m20 : Al) (m21 : Al) (m22 : Int32) (m23 : Int32) (m24 : Int64) (m25 : Int64) (m26 : Int32) (m27 : Int32) (p1 : Int32) (p2 : Int32) (p3 : Int32) (p4 : Int32) (o : (Int32 × Ar × Ar × Ar × Ar × Int32 × Al × Int32)) (hf : f_X3_cell m0 m1 m2 m3 m4 m7 p1 p2 p3 p4 = some o) : CtI l yX3_cell wsX3_cell rmX3_cell D cI cJ cZ [.ref (adm 0), .int p1, .int p2, .int p3, .int p4] (wMc cI cJ adm m0 m1 m2 m3 m4 m5 m6 m7 m8 m9 m10 m11 m12 m13 m14 m15 m16 m17 m18 m19 m20 m21 m22 m23 m24 m25 m26 m27) (wMc cI cJ adm o.2.1 o.2.2.1 o.2.2.2.1 o.2.2.2.2.1 o.2.2.2.2.2.1 m5 m6 o.2.2.2.2.2.2.1 m8 m9 m10 m11 m12 m13 m14 m15 m16 m17 m18 m19 m20 m21 m22 o.2.2.2.2.2.2.2 m24 m25 m26 m27) o.1 := by
  intro sz
  refine Met.ofW (cc := cX3_cell) (maxL := 5) (ret := (some .int)) (by decide) rfl ?_
  intro p e s m args below meth c s₁ B hml hv
  obtain ⟨rfl, hsz, hP, hK, hD0⟩ := hv
  have hx := B.exec
  have hb := B.bytes
  have hr := B.returns
  have hts := atoms_spec (ws := wsX3_cell) B.pre
  have hown : s.vm.findClass RX3 = some m.cls := findClass_of_methodNamed B.named
  have hlocks := B.notSynchronized
  subst hsz
  have hD := hD0.self (sz := s.heap.size)
  clear hD0
  generalize hAe : va_A (wMc cI cJ adm m0 m1 m2 m3 m4 m5 m6 m7 m8 m9 m10 m11 m12 m13 m14 m15 m16 m17 m18 m19 m20 m21 m22 m23 m24 m25 m26 m27) s.heap.size = A at hD ⊢
  have hA : ∀ q : Nat, s.heap.size ≤ q → A q := fun q h => by rw [← hAe]; exact Or.inr h
  have hS : va_S A s.heap s.heap [] := va_S.rf
  have hinX3 : ∀ w ∈ wsX30, w ∈ wsX3_cell := by decide +kernel
  have hw0 : (Cond.fieldLink RX3 69 "SwingCircuitsModel" "thrown" "I").before _ s = true := hts _ (by decide +kernel)
  have hw1 : (Cond.fieldLink RX3 73 "SwingCircuitsModel" "cells" "I").before _ s = true := hts _ (by decide +kernel)
  have hw2 : (Cond.fieldLink RX3 9 "SwingCircuitsModel" "low" "[I").before _ s = true := hts _ (by decide +kernel)
  have hw3 : (Cond.fieldLink RX3 13 "SwingCircuitsModel" "high" "[I").before _ s = true := hts _ (by decide +kernel)
  have hw4 : (Cond.fieldLink RX3 16 "SwingCircuitsModel" "rise" "[I").before _ s = true := hts _ (by decide +kernel)
  have hw5 : (Cond.fieldLink RX3 19 "SwingCircuitsModel" "fall" "[I").before _ s = true := hts _ (by decide +kernel)
  have hl := lv_entry ([.ref (adm 0), .int p1, .int p2, .int p3, .int p4]) (n := 5) (Nat.le_of_ble_eq_true rfl)
  rw [lg_entry_eq]
  generalize (lg_sl ([.ref (adm 0), .int p1, .int p2, .int p3, .int p4]) ++ List.replicate (5 - (lg_sl ([.ref (adm 0), .int p1, .int p2, .int p3, .int p4])).length) Slot.unset).toArray = ls at hl ⊢
  replace hl : lv_has ls 5 [(0, .ref (adm 0)), (1, .int p1), (2, .int p2), (3, .int p3), (4, .int p4)] := hl
  unfold f_X3_cell at hf
  refine lv_aload_n hx hb dX3_cell_0 rfl (lv_at hl 0 rfl) ?_
  refine lv_iconst (v := 0) hx hb dX3_cell_1 (by decide) ?_
  refine va_put (D := D) (ci := 3) (v := .int 0) (ty := .int) (C := RX3) (T := TX3) (N := 28) hx hb hts hinX3 tyX3 tyX3_ok nmX3 hown hK.1 hP hD hS 0 rfl rfl 23 (by decide) hw0 (fun _ h9 => h9) rfl (by decide +kernel) rfl rfl (Nat.le_of_ble_eq_true rfl) dX3_cell_2 (fun H locs hP hD hS => ?_)
  replace hP : va_P D vwCl (wMc cI cJ adm m0 m1 m2 m3 m4 m5 m6 m7 m8 m9 m10 m11 m12 m13 m14 m15 m16 m17 m18 m19 m20 m21 m22 0 m24 m25 m26 m27) H := hP
  replace hD : va_D A (wMc cI cJ adm m0 m1 m2 m3 m4 m5 m6 m7 m8 m9 m10 m11 m12 m13 m14 m15 m16 m17 m18 m19 m20 m21 m22 0 m24 m25 m26 m27) := hD
  refine lv_iload_n hx hb dX3_cell_5 rfl (lv_at hl 1 rfl) ?_
  refine lv_bipush (v := (-50)) hx hb dX3_cell_6 (by decide) ?_
  refine lv_bipush (v := 50) hx hb dX3_cell_8 (by decide) ?_
  replace hf := bdE hf
  obtain ⟨r1, hgr1, hf⟩ := hf
  refine xI0 (va_runS (As := [.int p1, .int ((-50)), .int 50]) (rest := []) ⟨hx, hb, hml, hown, hts⟩ (c_X3_in l D cI cJ cZ p1 ((-50)) 50 r1 hgr1 _) (va_cwS 3 hts gX3_cell_X3_in rfl rfl rfl (by decide +kernel) ⟨Nat.le_of_ble_eq_true rfl, Nat.le_of_ble_eq_true rfl⟩) ⟨PreW.blind, (xPre0 hK _)⟩ rfl rfl hl.1 rfl (lv_room (Nat.le_of_ble_eq_true rfl)) dX3_cell_10 ⟨Nat.le_of_ble_eq_true rfl, Nat.le_of_ble_eq_true rfl⟩) hP hS hA (fun H locs hP hS => ?_)
  refine lv_if_eq (tgt := 61) hx hb dX3_cell_13 (by decide) (fun q2 => ?_) (fun q2 => ?_)
  · replace hf := ifT q2 hf
    refine lv_iconst (v := (-1)) hx hb dX3_cell_61 (by decide) ?_
    obtain rfl := Option.some.inj hf
    exact retI hx hb hr hlocks hP hD hS dX3_cell_62
  · replace hf := ifF q2 hf
    refine lv_iload_n hx hb dX3_cell_16 rfl (lv_at hl 2 rfl) ?_
    refine lv_bipush (v := (-50)) hx hb dX3_cell_17 (by decide) ?_
    refine lv_bipush (v := 50) hx hb dX3_cell_19 (by decide) ?_
    replace hf := bdE hf
    obtain ⟨r3, hgr3, hf⟩ := hf
    refine xI0 (va_runS (As := [.int p2, .int ((-50)), .int 50]) (rest := []) ⟨hx, hb, hml, hown, hts⟩ (c_X3_in l D cI cJ cZ p2 ((-50)) 50 r3 hgr3 _) (va_cwS 3 hts gX3_cell_X3_in rfl rfl rfl (by decide +kernel) ⟨Nat.le_of_ble_eq_true rfl, Nat.le_of_ble_eq_true rfl⟩) ⟨PreW.blind, (xPre0 hK _)⟩ rfl rfl hl.1 rfl (lv_room (Nat.le_of_ble_eq_true rfl)) dX3_cell_21 ⟨Nat.le_of_ble_eq_true rfl, Nat.le_of_ble_eq_true rfl⟩) hP hS hA (fun H locs hP hS => ?_)
    refine lv_if_eq (tgt := 61) hx hb dX3_cell_24 (by decide) (fun q4 => ?_) (fun q4 => ?_)
    · replace hf := ifT q4 hf
      refine lv_iconst (v := (-1)) hx hb dX3_cell_61 (by decide) ?_
      obtain rfl := Option.some.inj hf
      exact retI hx hb hr hlocks hP hD hS dX3_cell_62
    · replace hf := ifF q4 hf
      refine lv_iload_n hx hb dX3_cell_27 rfl (lv_at hl 1 rfl) ?_
      refine lv_iload_n hx hb dX3_cell_28 rfl (lv_at hl 2 rfl) ?_
      refine lv_icmp_ge (tgt := 61) hx hb dX3_cell_29 (by decide) (fun q5 => ?_) (fun q5 => ?_)
      · replace hf := ifT q5 hf
        refine lv_iconst (v := (-1)) hx hb dX3_cell_61 (by decide) ?_
        obtain rfl := Option.some.inj hf
        exact retI hx hb hr hlocks hP hD hS dX3_cell_62
      · replace hf := ifF q5 hf
        refine lv_iload_n hx hb dX3_cell_32 rfl (lv_at hl 3 rfl) ?_
        refine lv_iconst (v := 1) hx hb dX3_cell_33 (by decide) ?_
        refine lv_bipush (v := 60) hx hb dX3_cell_34 (by decide) ?_
        replace hf := bdE hf
        obtain ⟨r6, hgr6, hf⟩ := hf
        refine xI0 (va_runS (As := [.int p3, .int 1, .int 60]) (rest := []) ⟨hx, hb, hml, hown, hts⟩ (c_X3_in l D cI cJ cZ p3 1 60 r6 hgr6 _) (va_cwS 3 hts gX3_cell_X3_in rfl rfl rfl (by decide +kernel) ⟨Nat.le_of_ble_eq_true rfl, Nat.le_of_ble_eq_true rfl⟩) ⟨PreW.blind, (xPre0 hK _)⟩ rfl rfl hl.1 rfl (lv_room (Nat.le_of_ble_eq_true rfl)) dX3_cell_36 ⟨Nat.le_of_ble_eq_true rfl, Nat.le_of_ble_eq_true rfl⟩) hP hS hA (fun H locs hP hS => ?_)
        refine lv_if_eq (tgt := 61) hx hb dX3_cell_39 (by decide) (fun q7 => ?_) (fun q7 => ?_)
        · replace hf := ifT q7 hf
          refine lv_iconst (v := (-1)) hx hb dX3_cell_61 (by decide) ?_
          obtain rfl := Option.some.inj hf
          exact retI hx hb hr hlocks hP hD hS dX3_cell_62
        · replace hf := ifF q7 hf
          refine lv_iload hx hb dX3_cell_42 (lv_at hl 4 rfl) ?_
          refine lv_iconst (v := 1) hx hb dX3_cell_44 (by decide) ?_
          refine lv_bipush (v := 60) hx hb dX3_cell_45 (by decide) ?_
          replace hf := bdE hf
          obtain ⟨r8, hgr8, hf⟩ := hf
          refine xI0 (va_runS (As := [.int p4, .int 1, .int 60]) (rest := []) ⟨hx, hb, hml, hown, hts⟩ (c_X3_in l D cI cJ cZ p4 1 60 r8 hgr8 _) (va_cwS 3 hts gX3_cell_X3_in rfl rfl rfl (by decide +kernel) ⟨Nat.le_of_ble_eq_true rfl, Nat.le_of_ble_eq_true rfl⟩) ⟨PreW.blind, (xPre0 hK _)⟩ rfl rfl hl.1 rfl (lv_room (Nat.le_of_ble_eq_true rfl)) dX3_cell_47 ⟨Nat.le_of_ble_eq_true rfl, Nat.le_of_ble_eq_true rfl⟩) hP hS hA (fun H locs hP hS => ?_)
          refine lv_if_eq (tgt := 61) hx hb dX3_cell_50 (by decide) (fun q9 => ?_) (fun q9 => ?_)
          · replace hf := ifT q9 hf
            refine lv_iconst (v := (-1)) hx hb dX3_cell_61 (by decide) ?_
            obtain rfl := Option.some.inj hf
            exact retI hx hb hr hlocks hP hD hS dX3_cell_62
          · replace hf := ifF q9 hf
            refine lv_aload_n hx hb dX3_cell_53 rfl (lv_at hl 0 rfl) ?_
            refine va_get (D := D) (ci := 3) (v := .int m4) (C := RX3) (T := TX3) (N := 28) hx hb hts hinX3 hown hK.1 hP 0 rfl rfl 4 (by decide) hw1 (fun _ h9 => h9) rfl dX3_cell_54 ?_
            refine lv_iconst (v := 4) hx hb dX3_cell_57 (by decide) ?_
            refine lv_icmp_ne (tgt := 63) hx hb dX3_cell_58 (by decide) (fun q10 => ?_) (fun q10 => ?_)
            · replace hf := ifT q10 hf
              refine lv_aload_n hx hb dX3_cell_63 rfl (lv_at hl 0 rfl) ?_
              refine va_get (D := D) (ci := 3) (v := .ref (adm 1)) (C := RX3) (T := TX3) (N := 28) hx hb hts hinX3 hown hK.1 hP 0 rfl rfl 0 (by decide) hw2 (fun _ h9 => h9) rfl dX3_cell_64 ?_
              refine lv_aload_n hx hb dX3_cell_67 rfl (lv_at hl 0 rfl) ?_
              refine va_get (D := D) (ci := 3) (v := .int m4) (C := RX3) (T := TX3) (N := 28) hx hb hts hinX3 hown hK.1 hP 0 rfl rfl 4 (by decide) hw1 (fun _ h9 => h9) rfl dX3_cell_68 ?_
              refine lv_iload_n hx hb dX3_cell_71 rfl (lv_at hl 1 rfl) ?_
              replace hf := gdE hf
              obtain ⟨h11, hf⟩ := hf
              refine va_iast hx hb hK.1 hP hD hS 1 0 rfl rfl (ib_in h11) dX3_cell_72 (fun H locs hP hD hS => ?_)
              replace hP : va_P D vwCl (wMc cI cJ adm (upd m0 m4.toNatClampNeg p1) m1 m2 m3 m4 m5 m6 m7 m8 m9 m10 m11 m12 m13 m14 m15 m16 m17 m18 m19 m20 m21 m22 0 m24 m25 m26 m27) H := hP
              replace hD : va_D A (wMc cI cJ adm (upd m0 m4.toNatClampNeg p1) m1 m2 m3 m4 m5 m6 m7 m8 m9 m10 m11 m12 m13 m14 m15 m16 m17 m18 m19 m20 m21 m22 0 m24 m25 m26 m27) := hD
              refine lv_aload_n hx hb dX3_cell_73 rfl (lv_at hl 0 rfl) ?_
              refine va_get (D := D) (ci := 3) (v := .ref (adm 2)) (C := RX3) (T := TX3) (N := 28) hx hb hts hinX3 hown hK.1 hP 0 rfl rfl 1 (by decide) hw3 (fun _ h9 => h9) rfl dX3_cell_74 ?_
              refine lv_aload_n hx hb dX3_cell_77 rfl (lv_at hl 0 rfl) ?_
              refine va_get (D := D) (ci := 3) (v := .int m4) (C := RX3) (T := TX3) (N := 28) hx hb hts hinX3 hown hK.1 hP 0 rfl rfl 4 (by decide) hw1 (fun _ h9 => h9) rfl dX3_cell_78 ?_
              refine lv_iload_n hx hb dX3_cell_81 rfl (lv_at hl 2 rfl) ?_
              refine va_iast hx hb hK.1 hP hD hS 2 0 rfl rfl (ib_in h11) dX3_cell_82 (fun H locs hP hD hS => ?_)
              replace hP : va_P D vwCl (wMc cI cJ adm (upd m0 m4.toNatClampNeg p1) (upd m1 m4.toNatClampNeg p2) m2 m3 m4 m5 m6 m7 m8 m9 m10 m11 m12 m13 m14 m15 m16 m17 m18 m19 m20 m21 m22 0 m24 m25 m26 m27) H := hP
              replace hD : va_D A (wMc cI cJ adm (upd m0 m4.toNatClampNeg p1) (upd m1 m4.toNatClampNeg p2) m2 m3 m4 m5 m6 m7 m8 m9 m10 m11 m12 m13 m14 m15 m16 m17 m18 m19 m20 m21 m22 0 m24 m25 m26 m27) := hD
              refine lv_aload_n hx hb dX3_cell_83 rfl (lv_at hl 0 rfl) ?_
              refine va_get (D := D) (ci := 3) (v := .ref (adm 3)) (C := RX3) (T := TX3) (N := 28) hx hb hts hinX3 hown hK.1 hP 0 rfl rfl 2 (by decide) hw4 (fun _ h9 => h9) rfl dX3_cell_84 ?_
              refine lv_aload_n hx hb dX3_cell_87 rfl (lv_at hl 0 rfl) ?_
              refine va_get (D := D) (ci := 3) (v := .int m4) (C := RX3) (T := TX3) (N := 28) hx hb hts hinX3 hown hK.1 hP 0 rfl rfl 4 (by decide) hw1 (fun _ h9 => h9) rfl dX3_cell_88 ?_
              refine lv_iload_n hx hb dX3_cell_91 rfl (lv_at hl 3 rfl) ?_
              refine va_iast hx hb hK.1 hP hD hS 3 0 rfl rfl (ib_in h11) dX3_cell_92 (fun H locs hP hD hS => ?_)
              replace hP : va_P D vwCl (wMc cI cJ adm (upd m0 m4.toNatClampNeg p1) (upd m1 m4.toNatClampNeg p2) (upd m2 m4.toNatClampNeg p3) m3 m4 m5 m6 m7 m8 m9 m10 m11 m12 m13 m14 m15 m16 m17 m18 m19 m20 m21 m22 0 m24 m25 m26 m27) H := hP
              replace hD : va_D A (wMc cI cJ adm (upd m0 m4.toNatClampNeg p1) (upd m1 m4.toNatClampNeg p2) (upd m2 m4.toNatClampNeg p3) m3 m4 m5 m6 m7 m8 m9 m10 m11 m12 m13 m14 m15 m16 m17 m18 m19 m20 m21 m22 0 m24 m25 m26 m27) := hD
              refine lv_aload_n hx hb dX3_cell_93 rfl (lv_at hl 0 rfl) ?_
              refine va_get (D := D) (ci := 3) (v := .ref (adm 4)) (C := RX3) (T := TX3) (N := 28) hx hb hts hinX3 hown hK.1 hP 0 rfl rfl 3 (by decide) hw5 (fun _ h9 => h9) rfl dX3_cell_94 ?_
              refine lv_aload_n hx hb dX3_cell_97 rfl (lv_at hl 0 rfl) ?_
              refine va_get (D := D) (ci := 3) (v := .int m4) (C := RX3) (T := TX3) (N := 28) hx hb hts hinX3 hown hK.1 hP 0 rfl rfl 4 (by decide) hw1 (fun _ h9 => h9) rfl dX3_cell_98 ?_
              refine lv_iload hx hb dX3_cell_101 (lv_at hl 4 rfl) ?_
              refine va_iast hx hb hK.1 hP hD hS 4 0 rfl rfl (ib_in h11) dX3_cell_103 (fun H locs hP hD hS => ?_)
              replace hP : va_P D vwCl (wMc cI cJ adm (upd m0 m4.toNatClampNeg p1) (upd m1 m4.toNatClampNeg p2) (upd m2 m4.toNatClampNeg p3) (upd m3 m4.toNatClampNeg p4) m4 m5 m6 m7 m8 m9 m10 m11 m12 m13 m14 m15 m16 m17 m18 m19 m20 m21 m22 0 m24 m25 m26 m27) H := hP
              replace hD : va_D A (wMc cI cJ adm (upd m0 m4.toNatClampNeg p1) (upd m1 m4.toNatClampNeg p2) (upd m2 m4.toNatClampNeg p3) (upd m3 m4.toNatClampNeg p4) m4 m5 m6 m7 m8 m9 m10 m11 m12 m13 m14 m15 m16 m17 m18 m19 m20 m21 m22 0 m24 m25 m26 m27) := hD
              refine lv_aload_n hx hb dX3_cell_104 rfl (lv_at hl 0 rfl) ?_
              refine lv_dup hx hb dX3_cell_105 rfl ?_
              refine va_get (D := D) (ci := 3) (v := .int m4) (C := RX3) (T := TX3) (N := 28) hx hb hts hinX3 hown hK.1 hP 0 rfl rfl 4 (by decide) hw1 (fun _ h9 => h9) rfl dX3_cell_106 ?_
              refine lv_iconst (v := 1) hx hb dX3_cell_109 (by decide) ?_
              refine lv_iadd hx hb dX3_cell_110 ?_
              refine lv_topi (fun v12 ev12 => ?_)
              replace hf := bndE hf ev12
              refine va_put (D := D) (ci := 3) (v := .int v12) (ty := .int) (C := RX3) (T := TX3) (N := 28) hx hb hts hinX3 tyX3 tyX3_ok nmX3 hown hK.1 hP hD hS 0 rfl rfl 4 (by decide) hw1 (fun _ h9 => h9) rfl (by decide +kernel) rfl rfl (Nat.le_of_ble_eq_true rfl) dX3_cell_111 (fun H locs hP hD hS => ?_)
              replace hP : va_P D vwCl (wMc cI cJ adm (upd m0 m4.toNatClampNeg p1) (upd m1 m4.toNatClampNeg p2) (upd m2 m4.toNatClampNeg p3) (upd m3 m4.toNatClampNeg p4) v12 m5 m6 m7 m8 m9 m10 m11 m12 m13 m14 m15 m16 m17 m18 m19 m20 m21 m22 0 m24 m25 m26 m27) H := hP
              replace hD : va_D A (wMc cI cJ adm (upd m0 m4.toNatClampNeg p1) (upd m1 m4.toNatClampNeg p2) (upd m2 m4.toNatClampNeg p3) (upd m3 m4.toNatClampNeg p4) v12 m5 m6 m7 m8 m9 m10 m11 m12 m13 m14 m15 m16 m17 m18 m19 m20 m21 m22 0 m24 m25 m26 m27) := hD
              refine lv_aload_n hx hb dX3_cell_114 rfl (lv_at hl 0 rfl) ?_
              replace hf := bdE hf
              obtain ⟨r13, hgr13, hf⟩ := hf
              refine xVw (va_runV (As := []) (rest := []) ⟨hx, hb, hml, hown, hts⟩ (c_X3_resetAll l D cI cJ cZ adm (upd m0 m4.toNatClampNeg p1) (upd m1 m4.toNatClampNeg p2) (upd m2 m4.toNatClampNeg p3) (upd m3 m4.toNatClampNeg p4) v12 m5 m6 m7 m8 m9 m10 m11 m12 m13 m14 m15 m16 m17 m18 m19 m20 m21 m22 0 m24 m25 m26 m27 r13 hgr13 _) (cwV 0 hts gX3_cell_X3_resetAll rfl rfl rfl (by decide +kernel) ⟨Nat.le_of_ble_eq_true rfl, Nat.le_of_ble_eq_true rfl⟩) ⟨PreW.blind, xRecv (q0 := 0) hK hP rfl rfl, (xPrew hK hP hD _)⟩ rfl rfl hl.1 rfl (lv_room (Nat.le_of_ble_eq_true rfl)) dX3_cell_115 ⟨Nat.le_of_ble_eq_true rfl, Nat.le_of_ble_eq_true rfl⟩) hD hS hA (fun H locs hP hD hS => ?_)
              replace hP : va_P D vwCl (wMc cI cJ adm (upd m0 m4.toNatClampNeg p1) (upd m1 m4.toNatClampNeg p2) (upd m2 m4.toNatClampNeg p3) (upd m3 m4.toNatClampNeg p4) v12 m5 m6 r13 m8 m9 m10 m11 m12 m13 m14 m15 m16 m17 m18 m19 m20 m21 m22 0 m24 m25 m26 m27) H := hP
              replace hD : va_D A (wMc cI cJ adm (upd m0 m4.toNatClampNeg p1) (upd m1 m4.toNatClampNeg p2) (upd m2 m4.toNatClampNeg p3) (upd m3 m4.toNatClampNeg p4) v12 m5 m6 r13 m8 m9 m10 m11 m12 m13 m14 m15 m16 m17 m18 m19 m20 m21 m22 0 m24 m25 m26 m27) := hD
              refine lv_aload_n hx hb dX3_cell_118 rfl (lv_at hl 0 rfl) ?_
              refine va_get (D := D) (ci := 3) (v := .int v12) (C := RX3) (T := TX3) (N := 28) hx hb hts hinX3 hown hK.1 hP 0 rfl rfl 4 (by decide) hw1 (fun _ h9 => h9) rfl dX3_cell_119 ?_
              refine lv_iconst (v := 1) hx hb dX3_cell_122 (by decide) ?_
              refine lv_isub hx hb dX3_cell_123 ?_
              obtain rfl := Option.some.inj hf
              exact retI hx hb hr hlocks hP hD hS dX3_cell_124
            · replace hf := ifN q10 hf
              refine lv_iconst (v := (-1)) hx hb dX3_cell_61 (by decide) ?_
              obtain rfl := Option.some.inj hf
              exact retI hx hb hr hlocks hP hD hS dX3_cell_62

def f_X3_clear (m0 : Ar) (m4 : Int32) (m7 : Al) : Option (Int32 × Int32 × Int32 × Al × Int32) :=
(f_X3_resetAll m0 m7).bind (fun r1 =>
some (m4, 0, 0, r1, 0))
abbrev rmX3_clear : Room := { frames := 1, cells := 0, slots := 0, locals := 21 }
set_option maxHeartbeats 40000000 in
set_option maxRecDepth 100000 in
theorem c_X3_clear (l : Launch) (D : va_G) (cI cJ cZ : ClassId) (adm : Nat → Nat) (m0 : Ar) (m1 : Ar) (m2 : Ar) (m3 : Ar) (m4 : Int32) (m5 : Ar) (m6 : Int32) (m7 : Al) (m8 : Al) (m9 : Al) (m10 : Ar) (m11 : Ar) (m12 : Al) (m13 : Al) (m14 : Int32) (m15 : Al) (m16 : Int32) (m17 : Al) (m18 : Ar) (m19 : Int32) (m20 : Al) (m21 : Al) (m22 : Int32) (m23 : Int32) (m24 : Int64) (m25 : Int64) (m26 : Int32) (m27 : Int32) (o : (Int32 × Int32 × Int32 × Al × Int32)) (hf : f_X3_clear m0 m4 m7 = some o) : CtI l yX3_clear wsX3_clear rmX3_clear D cI cJ cZ [.ref (adm 0)] (wMc cI cJ adm m0 m1 m2 m3 m4 m5 m6 m7 m8 m9 m10 m11 m12 m13 m14 m15 m16 m17 m18 m19 m20 m21 m22 m23 m24 m25 m26 m27) (wMc cI cJ adm m0 m1 m2 m3 o.2.1 m5 o.2.2.1 o.2.2.2.1 m8 m9 m10 m11 m12 m13 m14 m15 m16 m17 m18 m19 m20 m21 m22 o.2.2.2.2 m24 m25 m26 m27) o.1 := by
  intro sz
  refine Met.ofW (cc := cX3_clear) (maxL := 2) (ret := (some .int)) (by decide) rfl ?_
  intro p e s m args below meth c s₁ B hml hv
  obtain ⟨rfl, hsz, hP, hK, hD0⟩ := hv
  have hx := B.exec
  have hb := B.bytes
  have hr := B.returns
  have hts := atoms_spec (ws := wsX3_clear) B.pre
  have hown : s.vm.findClass RX3 = some m.cls := findClass_of_methodNamed B.named
  have hlocks := B.notSynchronized
  subst hsz
  have hD := hD0.self (sz := s.heap.size)
  clear hD0
  generalize hAe : va_A (wMc cI cJ adm m0 m1 m2 m3 m4 m5 m6 m7 m8 m9 m10 m11 m12 m13 m14 m15 m16 m17 m18 m19 m20 m21 m22 m23 m24 m25 m26 m27) s.heap.size = A at hD ⊢
  have hA : ∀ q : Nat, s.heap.size ≤ q → A q := fun q h => by rw [← hAe]; exact Or.inr h
  have hS : va_S A s.heap s.heap [] := va_S.rf
  have hinX3 : ∀ w ∈ wsX30, w ∈ wsX3_clear := by decide +kernel
  have hw0 : (Cond.fieldLink RX3 69 "SwingCircuitsModel" "thrown" "I").before _ s = true := hts _ (by decide +kernel)
  have hw1 : (Cond.fieldLink RX3 73 "SwingCircuitsModel" "cells" "I").before _ s = true := hts _ (by decide +kernel)
  have hw2 : (Cond.fieldLink RX3 101 "SwingCircuitsModel" "linkMany" "I").before _ s = true := hts _ (by decide +kernel)
  have hl := lv_entry ([.ref (adm 0)]) (n := 2) (Nat.le_of_ble_eq_true rfl)
  rw [lg_entry_eq]
  generalize (lg_sl ([.ref (adm 0)]) ++ List.replicate (2 - (lg_sl ([.ref (adm 0)])).length) Slot.unset).toArray = ls at hl ⊢
  replace hl : lv_has ls 2 [(0, .ref (adm 0))] := hl
  unfold f_X3_clear at hf
  refine lv_aload_n hx hb dX3_clear_0 rfl (lv_at hl 0 rfl) ?_
  refine lv_iconst (v := 0) hx hb dX3_clear_1 (by decide) ?_
  refine va_put (D := D) (ci := 3) (v := .int 0) (ty := .int) (C := RX3) (T := TX3) (N := 28) hx hb hts hinX3 tyX3 tyX3_ok nmX3 hown hK.1 hP hD hS 0 rfl rfl 23 (by decide) hw0 (fun _ h9 => h9) rfl (by decide +kernel) rfl rfl (Nat.le_of_ble_eq_true rfl) dX3_clear_2 (fun H locs hP hD hS => ?_)
  replace hP : va_P D vwCl (wMc cI cJ adm m0 m1 m2 m3 m4 m5 m6 m7 m8 m9 m10 m11 m12 m13 m14 m15 m16 m17 m18 m19 m20 m21 m22 0 m24 m25 m26 m27) H := hP
  replace hD : va_D A (wMc cI cJ adm m0 m1 m2 m3 m4 m5 m6 m7 m8 m9 m10 m11 m12 m13 m14 m15 m16 m17 m18 m19 m20 m21 m22 0 m24 m25 m26 m27) := hD
  refine lv_aload_n hx hb dX3_clear_5 rfl (lv_at hl 0 rfl) ?_
  refine va_get (D := D) (ci := 3) (v := .int m4) (C := RX3) (T := TX3) (N := 28) hx hb hts hinX3 hown hK.1 hP 0 rfl rfl 4 (by decide) hw1 (fun _ h9 => h9) rfl dX3_clear_6 ?_
  refine lv_istore_n (lv' := [(1, .int m4), (0, .ref (adm 0))]) hx hb dX3_clear_9 rfl hl (by decide) rfl (fun ls hl => ?_)
  refine lv_aload_n hx hb dX3_clear_10 rfl (lv_at hl 1 rfl) ?_
  refine lv_iconst (v := 0) hx hb dX3_clear_11 (by decide) ?_
  refine va_put (D := D) (ci := 3) (v := .int 0) (ty := .int) (C := RX3) (T := TX3) (N := 28) hx hb hts hinX3 tyX3 tyX3_ok nmX3 hown hK.1 hP hD hS 0 rfl rfl 4 (by decide) hw1 (fun _ h9 => h9) rfl (by decide +kernel) rfl rfl (Nat.le_of_ble_eq_true rfl) dX3_clear_12 (fun H locs hP hD hS => ?_)
  replace hP : va_P D vwCl (wMc cI cJ adm m0 m1 m2 m3 0 m5 m6 m7 m8 m9 m10 m11 m12 m13 m14 m15 m16 m17 m18 m19 m20 m21 m22 0 m24 m25 m26 m27) H := hP
  replace hD : va_D A (wMc cI cJ adm m0 m1 m2 m3 0 m5 m6 m7 m8 m9 m10 m11 m12 m13 m14 m15 m16 m17 m18 m19 m20 m21 m22 0 m24 m25 m26 m27) := hD
  refine lv_aload_n hx hb dX3_clear_15 rfl (lv_at hl 1 rfl) ?_
  refine lv_iconst (v := 0) hx hb dX3_clear_16 (by decide) ?_
  refine va_put (D := D) (ci := 3) (v := .int 0) (ty := .int) (C := RX3) (T := TX3) (N := 28) hx hb hts hinX3 tyX3 tyX3_ok nmX3 hown hK.1 hP hD hS 0 rfl rfl 6 (by decide) hw2 (fun _ h9 => h9) rfl (by decide +kernel) rfl rfl (Nat.le_of_ble_eq_true rfl) dX3_clear_17 (fun H locs hP hD hS => ?_)
  replace hP : va_P D vwCl (wMc cI cJ adm m0 m1 m2 m3 0 m5 0 m7 m8 m9 m10 m11 m12 m13 m14 m15 m16 m17 m18 m19 m20 m21 m22 0 m24 m25 m26 m27) H := hP
  replace hD : va_D A (wMc cI cJ adm m0 m1 m2 m3 0 m5 0 m7 m8 m9 m10 m11 m12 m13 m14 m15 m16 m17 m18 m19 m20 m21 m22 0 m24 m25 m26 m27) := hD
  refine lv_aload_n hx hb dX3_clear_20 rfl (lv_at hl 1 rfl) ?_
  replace hf := bdE hf
  obtain ⟨r1, hgr1, hf⟩ := hf
  refine xVw (va_runV (As := []) (rest := []) ⟨hx, hb, hml, hown, hts⟩ (c_X3_resetAll l D cI cJ cZ adm m0 m1 m2 m3 0 m5 0 m7 m8 m9 m10 m11 m12 m13 m14 m15 m16 m17 m18 m19 m20 m21 m22 0 m24 m25 m26 m27 r1 hgr1 _) (cwV 0 hts gX3_clear_X3_resetAll rfl rfl rfl (by decide +kernel) ⟨Nat.le_of_ble_eq_true rfl, Nat.le_of_ble_eq_true rfl⟩) ⟨PreW.blind, xRecv (q0 := 0) hK hP rfl rfl, (xPrew hK hP hD _)⟩ rfl rfl hl.1 rfl (lv_room (Nat.le_of_ble_eq_true rfl)) dX3_clear_21 ⟨Nat.le_of_ble_eq_true rfl, Nat.le_of_ble_eq_true rfl⟩) hD hS hA (fun H locs hP hD hS => ?_)
  replace hP : va_P D vwCl (wMc cI cJ adm m0 m1 m2 m3 0 m5 0 r1 m8 m9 m10 m11 m12 m13 m14 m15 m16 m17 m18 m19 m20 m21 m22 0 m24 m25 m26 m27) H := hP
  replace hD : va_D A (wMc cI cJ adm m0 m1 m2 m3 0 m5 0 r1 m8 m9 m10 m11 m12 m13 m14 m15 m16 m17 m18 m19 m20 m21 m22 0 m24 m25 m26 m27) := hD
  refine lv_iload_n hx hb dX3_clear_24 rfl (lv_at hl 0 rfl) ?_
  obtain rfl := Option.some.inj hf
  exact retI hx hb hr hlocks hP hD hS dX3_clear_25

def f_X3_reset (m0 : Ar) (m7 : Al) : Option (Int32 × Al × Int32) :=
gd (ib 30 31) (
bnd ((m7 (30 : Int32).toNatClampNeg).toInt32) (fun v2 =>
(f_X3_resetAll m0 m7).bind (fun r3 =>
some (v2, r3, 0))))
abbrev rmX3_reset : Room := { frames := 1, cells := 0, slots := 0, locals := 21 }
set_option maxHeartbeats 40000000 in
set_option maxRecDepth 100000 in
theorem c_X3_reset (l : Launch) (D : va_G) (cI cJ cZ : ClassId) (adm : Nat → Nat) (m0 : Ar) (m1 : Ar) (m2 : Ar) (m3 : Ar) (m4 : Int32) (m5 : Ar) (m6 : Int32) (m7 : Al) (m8 : Al) (m9 : Al) (m10 : Ar) (m11 : Ar) (m12 : Al) (m13 : Al) (m14 : Int32) (m15 : Al) (m16 : Int32) (m17 : Al) (m18 : Ar) (m19 : Int32) (m20 : Al) (m21 : Al) (m22 : Int32) (m23 : Int32) (m24 : Int64) (m25 : Int64) (m26 : Int32) (m27 : Int32) (o : (Int32 × Al × Int32)) (hf : f_X3_reset m0 m7 = some o) : CtI l yX3_reset wsX3_reset rmX3_reset D cI cJ cZ [.ref (adm 0)] (wMc cI cJ adm m0 m1 m2 m3 m4 m5 m6 m7 m8 m9 m10 m11 m12 m13 m14 m15 m16 m17 m18 m19 m20 m21 m22 m23 m24 m25 m26 m27) (wMc cI cJ adm m0 m1 m2 m3 m4 m5 m6 o.2.1 m8 m9 m10 m11 m12 m13 m14 m15 m16 m17 m18 m19 m20 m21 m22 o.2.2 m24 m25 m26 m27) o.1 := by
  intro sz
  refine Met.ofW (cc := cX3_reset) (maxL := 2) (ret := (some .int)) (by decide) rfl ?_
  intro p e s m args below meth c s₁ B hml hv
  obtain ⟨rfl, hsz, hP, hK, hD0⟩ := hv
  have hx := B.exec
  have hb := B.bytes
  have hr := B.returns
  have hts := atoms_spec (ws := wsX3_reset) B.pre
  have hown : s.vm.findClass RX3 = some m.cls := findClass_of_methodNamed B.named
  have hlocks := B.notSynchronized
  subst hsz
  have hD := hD0.self (sz := s.heap.size)
  clear hD0
  generalize hAe : va_A (wMc cI cJ adm m0 m1 m2 m3 m4 m5 m6 m7 m8 m9 m10 m11 m12 m13 m14 m15 m16 m17 m18 m19 m20 m21 m22 m23 m24 m25 m26 m27) s.heap.size = A at hD ⊢
  have hA : ∀ q : Nat, s.heap.size ≤ q → A q := fun q h => by rw [← hAe]; exact Or.inr h
  have hS : va_S A s.heap s.heap [] := va_S.rf
  have hinX3 : ∀ w ∈ wsX30, w ∈ wsX3_reset := by decide +kernel
  have hw0 : (Cond.fieldLink RX3 69 "SwingCircuitsModel" "thrown" "I").before _ s = true := hts _ (by decide +kernel)
  have hw1 : (Cond.fieldLink RX3 25 "SwingCircuitsModel" "now" "[J").before _ s = true := hts _ (by decide +kernel)
  have hl := lv_entry ([.ref (adm 0)]) (n := 2) (Nat.le_of_ble_eq_true rfl)
  rw [lg_entry_eq]
  generalize (lg_sl ([.ref (adm 0)]) ++ List.replicate (2 - (lg_sl ([.ref (adm 0)])).length) Slot.unset).toArray = ls at hl ⊢
  replace hl : lv_has ls 2 [(0, .ref (adm 0))] := hl
  unfold f_X3_reset at hf
  refine lv_aload_n hx hb dX3_reset_0 rfl (lv_at hl 0 rfl) ?_
  refine lv_iconst (v := 0) hx hb dX3_reset_1 (by decide) ?_
  refine va_put (D := D) (ci := 3) (v := .int 0) (ty := .int) (C := RX3) (T := TX3) (N := 28) hx hb hts hinX3 tyX3 tyX3_ok nmX3 hown hK.1 hP hD hS 0 rfl rfl 23 (by decide) hw0 (fun _ h9 => h9) rfl (by decide +kernel) rfl rfl (Nat.le_of_ble_eq_true rfl) dX3_reset_2 (fun H locs hP hD hS => ?_)
  replace hP : va_P D vwCl (wMc cI cJ adm m0 m1 m2 m3 m4 m5 m6 m7 m8 m9 m10 m11 m12 m13 m14 m15 m16 m17 m18 m19 m20 m21 m22 0 m24 m25 m26 m27) H := hP
  replace hD : va_D A (wMc cI cJ adm m0 m1 m2 m3 m4 m5 m6 m7 m8 m9 m10 m11 m12 m13 m14 m15 m16 m17 m18 m19 m20 m21 m22 0 m24 m25 m26 m27) := hD
  refine lv_aload_n hx hb dX3_reset_5 rfl (lv_at hl 0 rfl) ?_
  refine va_get (D := D) (ci := 3) (v := .ref (adm 6)) (C := RX3) (T := TX3) (N := 28) hx hb hts hinX3 hown hK.1 hP 0 rfl rfl 7 (by decide) hw1 (fun _ h9 => h9) rfl dX3_reset_6 ?_
  refine lv_bipush (v := 30) hx hb dX3_reset_9 (by decide) ?_
  replace hf := gdE hf
  obtain ⟨h1, hf⟩ := hf
  refine va_lald hx hb hK.1 hP 6 1 rfl rfl (ib_in h1) dX3_reset_11 ?_
  refine lv_l2i hx hb dX3_reset_12 rfl ?_
  refine lv_topi (fun v2 ev2 => ?_)
  replace hf := bndE hf ev2
  refine lv_istore_n (lv' := [(1, .int v2), (0, .ref (adm 0))]) hx hb dX3_reset_13 rfl hl (by decide) rfl (fun ls hl => ?_)
  refine lv_aload_n hx hb dX3_reset_14 rfl (lv_at hl 1 rfl) ?_
  replace hf := bdE hf
  obtain ⟨r3, hgr3, hf⟩ := hf
  refine xVw (va_runV (As := []) (rest := []) ⟨hx, hb, hml, hown, hts⟩ (c_X3_resetAll l D cI cJ cZ adm m0 m1 m2 m3 m4 m5 m6 m7 m8 m9 m10 m11 m12 m13 m14 m15 m16 m17 m18 m19 m20 m21 m22 0 m24 m25 m26 m27 r3 hgr3 _) (cwV 0 hts gX3_reset_X3_resetAll rfl rfl rfl (by decide +kernel) ⟨Nat.le_of_ble_eq_true rfl, Nat.le_of_ble_eq_true rfl⟩) ⟨PreW.blind, xRecv (q0 := 0) hK hP rfl rfl, (xPrew hK hP hD _)⟩ rfl rfl hl.1 rfl (lv_room (Nat.le_of_ble_eq_true rfl)) dX3_reset_15 ⟨Nat.le_of_ble_eq_true rfl, Nat.le_of_ble_eq_true rfl⟩) hD hS hA (fun H locs hP hD hS => ?_)
  replace hP : va_P D vwCl (wMc cI cJ adm m0 m1 m2 m3 m4 m5 m6 r3 m8 m9 m10 m11 m12 m13 m14 m15 m16 m17 m18 m19 m20 m21 m22 0 m24 m25 m26 m27) H := hP
  replace hD : va_D A (wMc cI cJ adm m0 m1 m2 m3 m4 m5 m6 r3 m8 m9 m10 m11 m12 m13 m14 m15 m16 m17 m18 m19 m20 m21 m22 0 m24 m25 m26 m27) := hD
  refine lv_iload_n hx hb dX3_reset_18 rfl (lv_at hl 0 rfl) ?_
  obtain rfl := Option.some.inj hf
  exact retI hx hb hr hlocks hP hD hS dX3_reset_19

def f_X3_set_J76 (m0 : Ar) (m7 : Al) (k0_53 : Int32) (m2_76 : Ar) (m3_76 : Ar) : Option (Int32 × Ar × Ar × Al × Int32) :=
(f_X3_resetAll m0 m7).bind (fun r7 =>
some (k0_53, m2_76, m3_76, r7, 0))
def f_X3_set_J53 (m0 : Ar) (m2 : Ar) (m3 : Ar) (m7 : Al) (p1 : Int32) (p2 : Int32) (p3 : Int32) (k0_53 : Int32) : Option (Int32 × Ar × Ar × Al × Int32) :=
if ¬ p2 = 0 then
gd (ib p1 4) (
f_X3_set_J76 m0 m7 k0_53 m2 (upd m3 p1.toNatClampNeg p3))
else
gd (ib p1 4) (
f_X3_set_J76 m0 m7 k0_53 (upd m2 p1.toNatClampNeg p3) m3)
def f_X3_set (m0 : Ar) (m2 : Ar) (m3 : Ar) (m4 : Int32) (m7 : Al) (p1 : Int32) (p2 : Int32) (p3 : Int32) : Option (Int32 × Ar × Ar × Al × Int32) :=
(f_X3_isCell m4 p1).bind (fun r1 =>
if (b2i r1) = 0 then
some ((-1), m2, m3, m7, 0)
else
(f_X3_in p2 0 1).bind (fun r3 =>
if (b2i r3) = 0 then
some ((-1), m2, m3, m7, 0)
else
(f_X3_in p3 1 60).bind (fun r5 =>
if ¬ (b2i r5) = 0 then
if ¬ p2 = 0 then
gd (ib p1 4) (
f_X3_set_J53 m0 m2 m3 m7 p1 p2 p3 (m3 p1.toNatClampNeg))
else
gd (ib p1 4) (
f_X3_set_J53 m0 m2 m3 m7 p1 p2 p3 (m2 p1.toNatClampNeg))
else
some ((-1), m2, m3, m7, 0))))
abbrev rmX3_set : Room := { frames := 2, cells := 0, slots := 0, locals := 43 }
set_option maxHeartbeats 40000000 in
set_option maxRecDepth 100000 in
theorem c_X3_set (l : Launch) (D : va_G) (cI cJ cZ : ClassId) (adm : Nat → Nat) (m0 : Ar) (m1 : Ar) (m2 : Ar) (m3 : Ar) (m4 : Int32) (m5 : Ar) (m6 : Int32) (m7 : Al) (m8 : Al) (m9 : Al) (m10 : Ar) (m11 : Ar) (m12 : Al) (m13 : Al) (m14 : Int32) (m15 : Al) (m16 : Int32) (m17 : Al) (m18 : Ar) (m19 : Int32) (m20 : Al) (m21 : Al) (m22 : Int32) (m23 : Int32) (m24 : Int64) (m25 : Int64) (m26 : Int32) (m27 : Int32) (p1 : Int32) (p2 : Int32) (p3 : Int32) (o : (Int32 × Ar × Ar × Al × Int32)) (hf : f_X3_set m0 m2 m3 m4 m7 p1 p2 p3 = some o) : CtI l yX3_set wsX3_set rmX3_set D cI cJ cZ [.ref (adm 0), .int p1, .int p2, .int p3] (wMc cI cJ adm m0 m1 m2 m3 m4 m5 m6 m7 m8 m9 m10 m11 m12 m13 m14 m15 m16 m17 m18 m19 m20 m21 m22 m23 m24 m25 m26 m27) (wMc cI cJ adm m0 m1 o.2.1 o.2.2.1 m4 m5 m6 o.2.2.2.1 m8 m9 m10 m11 m12 m13 m14 m15 m16 m17 m18 m19 m20 m21 m22 o.2.2.2.2 m24 m25 m26 m27) o.1 := by
  intro sz
  refine Met.ofW (cc := cX3_set) (maxL := 5) (ret := (some .int)) (by decide) rfl ?_
  intro p e s m args below meth c s₁ B hml hv
  obtain ⟨rfl, hsz, hP, hK, hD0⟩ := hv
  have hx := B.exec
  have hb := B.bytes
  have hr := B.returns
  have hts := atoms_spec (ws := wsX3_set) B.pre
  have hown : s.vm.findClass RX3 = some m.cls := findClass_of_methodNamed B.named
  have hlocks := B.notSynchronized
  subst hsz
  have hD := hD0.self (sz := s.heap.size)
  clear hD0
  generalize hAe : va_A (wMc cI cJ adm m0 m1 m2 m3 m4 m5 m6 m7 m8 m9 m10 m11 m12 m13 m14 m15 m16 m17 m18 m19 m20 m21 m22 m23 m24 m25 m26 m27) s.heap.size = A at hD ⊢
  have hA : ∀ q : Nat, s.heap.size ≤ q → A q := fun q h => by rw [← hAe]; exact Or.inr h
  have hS : va_S A s.heap s.heap [] := va_S.rf
  have hinX3 : ∀ w ∈ wsX30, w ∈ wsX3_set := by decide +kernel
  have hw0 : (Cond.fieldLink RX3 69 "SwingCircuitsModel" "thrown" "I").before _ s = true := hts _ (by decide +kernel)
  have hw1 : (Cond.fieldLink RX3 16 "SwingCircuitsModel" "rise" "[I").before _ s = true := hts _ (by decide +kernel)
  have hw2 : (Cond.fieldLink RX3 19 "SwingCircuitsModel" "fall" "[I").before _ s = true := hts _ (by decide +kernel)
  have hl := lv_entry ([.ref (adm 0), .int p1, .int p2, .int p3]) (n := 5) (Nat.le_of_ble_eq_true rfl)
  rw [lg_entry_eq]
  generalize (lg_sl ([.ref (adm 0), .int p1, .int p2, .int p3]) ++ List.replicate (5 - (lg_sl ([.ref (adm 0), .int p1, .int p2, .int p3])).length) Slot.unset).toArray = ls at hl ⊢
  replace hl : lv_has ls 5 [(0, .ref (adm 0)), (1, .int p1), (2, .int p2), (3, .int p3)] := hl
  unfold f_X3_set at hf
  refine lv_aload_n hx hb dX3_set_0 rfl (lv_at hl 0 rfl) ?_
  refine lv_iconst (v := 0) hx hb dX3_set_1 (by decide) ?_
  refine va_put (D := D) (ci := 3) (v := .int 0) (ty := .int) (C := RX3) (T := TX3) (N := 28) hx hb hts hinX3 tyX3 tyX3_ok nmX3 hown hK.1 hP hD hS 0 rfl rfl 23 (by decide) hw0 (fun _ h9 => h9) rfl (by decide +kernel) rfl rfl (Nat.le_of_ble_eq_true rfl) dX3_set_2 (fun H locs hP hD hS => ?_)
  replace hP : va_P D vwCl (wMc cI cJ adm m0 m1 m2 m3 m4 m5 m6 m7 m8 m9 m10 m11 m12 m13 m14 m15 m16 m17 m18 m19 m20 m21 m22 0 m24 m25 m26 m27) H := hP
  replace hD : va_D A (wMc cI cJ adm m0 m1 m2 m3 m4 m5 m6 m7 m8 m9 m10 m11 m12 m13 m14 m15 m16 m17 m18 m19 m20 m21 m22 0 m24 m25 m26 m27) := hD
  refine lv_aload_n hx hb dX3_set_5 rfl (lv_at hl 0 rfl) ?_
  refine lv_iload_n hx hb dX3_set_6 rfl (lv_at hl 1 rfl) ?_
  replace hf := bdE hf
  obtain ⟨r1, hgr1, hf⟩ := hf
  refine xIw (va_runV (As := [.int p1]) (rest := []) ⟨hx, hb, hml, hown, hts⟩ (c_X3_isCell l D cI cJ cZ adm m0 m1 m2 m3 m4 m5 m6 m7 m8 m9 m10 m11 m12 m13 m14 m15 m16 m17 m18 m19 m20 m21 m22 0 m24 m25 m26 m27 p1 r1 hgr1 _) (cwV 1 hts gX3_set_X3_isCell rfl rfl rfl (by decide +kernel) ⟨Nat.le_of_ble_eq_true rfl, Nat.le_of_ble_eq_true rfl⟩) ⟨PreW.blind, xRecv (q0 := 0) hK hP rfl rfl, (xPrew hK hP hD _)⟩ rfl rfl hl.1 rfl (lv_room (Nat.le_of_ble_eq_true rfl)) dX3_set_7 ⟨Nat.le_of_ble_eq_true rfl, Nat.le_of_ble_eq_true rfl⟩) hD hS hA (fun H locs hP hD hS => ?_)
  replace hP : va_P D vwCl (wMc cI cJ adm m0 m1 m2 m3 m4 m5 m6 m7 m8 m9 m10 m11 m12 m13 m14 m15 m16 m17 m18 m19 m20 m21 m22 0 m24 m25 m26 m27) H := hP
  replace hD : va_D A (wMc cI cJ adm m0 m1 m2 m3 m4 m5 m6 m7 m8 m9 m10 m11 m12 m13 m14 m15 m16 m17 m18 m19 m20 m21 m22 0 m24 m25 m26 m27) := hD
  refine lv_if_eq (tgt := 32) hx hb dX3_set_10 (by decide) (fun q2 => ?_) (fun q2 => ?_)
  · replace hf := ifT q2 hf
    refine lv_iconst (v := (-1)) hx hb dX3_set_32 (by decide) ?_
    obtain rfl := Option.some.inj hf
    exact retI hx hb hr hlocks hP hD hS dX3_set_33
  · replace hf := ifF q2 hf
    refine lv_iload_n hx hb dX3_set_13 rfl (lv_at hl 2 rfl) ?_
    refine lv_iconst (v := 0) hx hb dX3_set_14 (by decide) ?_
    refine lv_iconst (v := 1) hx hb dX3_set_15 (by decide) ?_
    replace hf := bdE hf
    obtain ⟨r3, hgr3, hf⟩ := hf
    refine xI0 (va_runS (As := [.int p2, .int 0, .int 1]) (rest := []) ⟨hx, hb, hml, hown, hts⟩ (c_X3_in l D cI cJ cZ p2 0 1 r3 hgr3 _) (va_cwS 3 hts gX3_set_X3_in rfl rfl rfl (by decide +kernel) ⟨Nat.le_of_ble_eq_true rfl, Nat.le_of_ble_eq_true rfl⟩) ⟨PreW.blind, (xPre0 hK _)⟩ rfl rfl hl.1 rfl (lv_room (Nat.le_of_ble_eq_true rfl)) dX3_set_16 ⟨Nat.le_of_ble_eq_true rfl, Nat.le_of_ble_eq_true rfl⟩) hP hS hA (fun H locs hP hS => ?_)
    refine lv_if_eq (tgt := 32) hx hb dX3_set_19 (by decide) (fun q4 => ?_) (fun q4 => ?_)
    · replace hf := ifT q4 hf
      refine lv_iconst (v := (-1)) hx hb dX3_set_32 (by decide) ?_
      obtain rfl := Option.some.inj hf
      exact retI hx hb hr hlocks hP hD hS dX3_set_33
    · replace hf := ifF q4 hf
      refine lv_iload_n hx hb dX3_set_22 rfl (lv_at hl 3 rfl) ?_
      refine lv_iconst (v := 1) hx hb dX3_set_23 (by decide) ?_
      refine lv_bipush (v := 60) hx hb dX3_set_24 (by decide) ?_
      replace hf := bdE hf
      obtain ⟨r5, hgr5, hf⟩ := hf
      refine xI0 (va_runS (As := [.int p3, .int 1, .int 60]) (rest := []) ⟨hx, hb, hml, hown, hts⟩ (c_X3_in l D cI cJ cZ p3 1 60 r5 hgr5 _) (va_cwS 3 hts gX3_set_X3_in rfl rfl rfl (by decide +kernel) ⟨Nat.le_of_ble_eq_true rfl, Nat.le_of_ble_eq_true rfl⟩) ⟨PreW.blind, (xPre0 hK _)⟩ rfl rfl hl.1 rfl (lv_room (Nat.le_of_ble_eq_true rfl)) dX3_set_26 ⟨Nat.le_of_ble_eq_true rfl, Nat.le_of_ble_eq_true rfl⟩) hP hS hA (fun H locs hP hS => ?_)
      refine lv_if_ne (tgt := 34) hx hb dX3_set_29 (by decide) (fun q6 => ?_) (fun q6 => ?_)
      · replace hf := ifT q6 hf
        refine lv_iload_n hx hb dX3_set_34 rfl (lv_at hl 2 rfl) ?_
        have J53 : ∀ (k0_53 : Int32) (H : Heap) (locs : List Loc) (ls : Array Slot), f_X3_set_J53 m0 m2 m3 m7 p1 p2 p3 k0_53 = some o → va_P D vwCl (wMc cI cJ adm m0 m1 m2 m3 m4 m5 m6 m7 m8 m9 m10 m11 m12 m13 m14 m15 m16 m17 m18 m19 m20 m21 m22 0 m24 m25 m26 m27) H → va_D A (wMc cI cJ adm m0 m1 m2 m3 m4 m5 m6 m7 m8 m9 m10 m11 m12 m13 m14 m15 m16 m17 m18 m19 m20 m21 m22 0 m24 m25 m26 m27) → va_S A s.heap H locs → lv_has ls 5 [(0, .ref (adm 0)), (1, .int p1), (2, .int p2), (3, .int p3)] → W p l e (headSpec wsX3_set rmX3_set).room s m ([.ref (adm 0), .int p1, .int p2, .int p3] : List Value).toArray below meth c H locs 0 0 (MQ below (QI D A o.1 (wMc cI cJ adm m0 m1 o.2.1 o.2.2.1 m4 m5 m6 o.2.2.2.1 m8 m9 m10 m11 m12 m13 m14 m15 m16 m17 m18 m19 m20 m21 m22 o.2.2.2.2 m24 m25 m26 m27)) ([.ref (adm 0), .int p1, .int p2, .int p3] : List Value).toArray s 0 0 A) (F0 m 53 ls [.int k0_53]) := by
          intro k0_53 H locs ls hf hP hD hS hl
          unfold f_X3_set_J53 at hf
          refine lv_istore (lv' := [(4, .int k0_53), (0, .ref (adm 0)), (1, .int p1), (2, .int p2), (3, .int p3)]) hx hb dX3_set_53 hl (by decide) rfl (fun ls hl => ?_)
          refine lv_iload_n hx hb dX3_set_55 rfl (lv_at hl 3 rfl) ?_
          have J76 : ∀ (m2_76 : Ar) (m3_76 : Ar) (H : Heap) (locs : List Loc) (ls : Array Slot), f_X3_set_J76 m0 m7 k0_53 m2_76 m3_76 = some o → va_P D vwCl (wMc cI cJ adm m0 m1 m2_76 m3_76 m4 m5 m6 m7 m8 m9 m10 m11 m12 m13 m14 m15 m16 m17 m18 m19 m20 m21 m22 0 m24 m25 m26 m27) H → va_D A (wMc cI cJ adm m0 m1 m2_76 m3_76 m4 m5 m6 m7 m8 m9 m10 m11 m12 m13 m14 m15 m16 m17 m18 m19 m20 m21 m22 0 m24 m25 m26 m27) → va_S A s.heap H locs → lv_has ls 5 [(0, .ref (adm 0)), (4, .int k0_53)] → W p l e (headSpec wsX3_set rmX3_set).room s m ([.ref (adm 0), .int p1, .int p2, .int p3] : List Value).toArray below meth c H locs 0 0 (MQ below (QI D A o.1 (wMc cI cJ adm m0 m1 o.2.1 o.2.2.1 m4 m5 m6 o.2.2.2.1 m8 m9 m10 m11 m12 m13 m14 m15 m16 m17 m18 m19 m20 m21 m22 o.2.2.2.2 m24 m25 m26 m27)) ([.ref (adm 0), .int p1, .int p2, .int p3] : List Value).toArray s 0 0 A) (F0 m 76 ls []) := by
            intro m2_76 m3_76 H locs ls hf hP hD hS hl
            unfold f_X3_set_J76 at hf
            refine lv_aload_n hx hb dX3_set_76 rfl (lv_at hl 0 rfl) ?_
            replace hf := bdE hf
            obtain ⟨r7, hgr7, hf⟩ := hf
            refine xVw (va_runV (As := []) (rest := []) ⟨hx, hb, hml, hown, hts⟩ (c_X3_resetAll l D cI cJ cZ adm m0 m1 m2_76 m3_76 m4 m5 m6 m7 m8 m9 m10 m11 m12 m13 m14 m15 m16 m17 m18 m19 m20 m21 m22 0 m24 m25 m26 m27 r7 hgr7 _) (cwV 0 hts gX3_set_X3_resetAll rfl rfl rfl (by decide +kernel) ⟨Nat.le_of_ble_eq_true rfl, Nat.le_of_ble_eq_true rfl⟩) ⟨PreW.blind, xRecv (q0 := 0) hK hP rfl rfl, (xPrew hK hP hD _)⟩ rfl rfl hl.1 rfl (lv_room (Nat.le_of_ble_eq_true rfl)) dX3_set_77 ⟨Nat.le_of_ble_eq_true rfl, Nat.le_of_ble_eq_true rfl⟩) hD hS hA (fun H locs hP hD hS => ?_)
            replace hP : va_P D vwCl (wMc cI cJ adm m0 m1 m2_76 m3_76 m4 m5 m6 r7 m8 m9 m10 m11 m12 m13 m14 m15 m16 m17 m18 m19 m20 m21 m22 0 m24 m25 m26 m27) H := hP
            replace hD : va_D A (wMc cI cJ adm m0 m1 m2_76 m3_76 m4 m5 m6 r7 m8 m9 m10 m11 m12 m13 m14 m15 m16 m17 m18 m19 m20 m21 m22 0 m24 m25 m26 m27) := hD
            refine lv_iload hx hb dX3_set_80 (lv_at hl 1 rfl) ?_
            obtain rfl := Option.some.inj hf
            exact retI hx hb hr hlocks hP hD hS dX3_set_82
          refine lv_if_ne (tgt := 69) hx hb dX3_set_56 (by decide) (fun q8 => ?_) (fun q8 => ?_)
          · replace hf := ifT q8 hf
            refine lv_aload_n hx hb dX3_set_69 rfl (lv_at hl 1 rfl) ?_
            refine va_get (D := D) (ci := 3) (v := .ref (adm 4)) (C := RX3) (T := TX3) (N := 28) hx hb hts hinX3 hown hK.1 hP 0 rfl rfl 3 (by decide) hw2 (fun _ h9 => h9) rfl dX3_set_70 ?_
            refine lv_iload_n hx hb dX3_set_73 rfl (lv_at hl 2 rfl) ?_
            refine lv_iload_n hx hb dX3_set_74 rfl (lv_at hl 4 rfl) ?_
            replace hf := gdE hf
            obtain ⟨h9, hf⟩ := hf
            refine va_iast hx hb hK.1 hP hD hS 4 0 rfl rfl (ib_in h9) dX3_set_75 (fun H locs hP hD hS => ?_)
            replace hP : va_P D vwCl (wMc cI cJ adm m0 m1 m2 (upd m3 p1.toNatClampNeg p3) m4 m5 m6 m7 m8 m9 m10 m11 m12 m13 m14 m15 m16 m17 m18 m19 m20 m21 m22 0 m24 m25 m26 m27) H := hP
            replace hD : va_D A (wMc cI cJ adm m0 m1 m2 (upd m3 p1.toNatClampNeg p3) m4 m5 m6 m7 m8 m9 m10 m11 m12 m13 m14 m15 m16 m17 m18 m19 m20 m21 m22 0 m24 m25 m26 m27) := hD
            exact J76 m2 (upd m3 p1.toNatClampNeg p3) _ _ _ hf hP hD hS (lv_sub hl [1, 0] rfl)
          · replace hf := ifN q8 hf
            refine lv_aload_n hx hb dX3_set_59 rfl (lv_at hl 1 rfl) ?_
            refine va_get (D := D) (ci := 3) (v := .ref (adm 3)) (C := RX3) (T := TX3) (N := 28) hx hb hts hinX3 hown hK.1 hP 0 rfl rfl 2 (by decide) hw1 (fun _ h9 => h9) rfl dX3_set_60 ?_
            refine lv_iload_n hx hb dX3_set_63 rfl (lv_at hl 2 rfl) ?_
            refine lv_iload_n hx hb dX3_set_64 rfl (lv_at hl 4 rfl) ?_
            replace hf := gdE hf
            obtain ⟨h10, hf⟩ := hf
            refine va_iast hx hb hK.1 hP hD hS 3 0 rfl rfl (ib_in h10) dX3_set_65 (fun H locs hP hD hS => ?_)
            replace hP : va_P D vwCl (wMc cI cJ adm m0 m1 (upd m2 p1.toNatClampNeg p3) m3 m4 m5 m6 m7 m8 m9 m10 m11 m12 m13 m14 m15 m16 m17 m18 m19 m20 m21 m22 0 m24 m25 m26 m27) H := hP
            replace hD : va_D A (wMc cI cJ adm m0 m1 (upd m2 p1.toNatClampNeg p3) m3 m4 m5 m6 m7 m8 m9 m10 m11 m12 m13 m14 m15 m16 m17 m18 m19 m20 m21 m22 0 m24 m25 m26 m27) := hD
            refine lv_goto (tgt := 76) hx hb dX3_set_66 (by decide) ?_
            exact J76 (upd m2 p1.toNatClampNeg p3) m3 _ _ _ hf hP hD hS (lv_sub hl [1, 0] rfl)
        refine lv_if_ne (tgt := 47) hx hb dX3_set_35 (by decide) (fun q11 => ?_) (fun q11 => ?_)
        · replace hf := ifT q11 hf
          refine lv_aload_n hx hb dX3_set_47 rfl (lv_at hl 0 rfl) ?_
          refine va_get (D := D) (ci := 3) (v := .ref (adm 4)) (C := RX3) (T := TX3) (N := 28) hx hb hts hinX3 hown hK.1 hP 0 rfl rfl 3 (by decide) hw2 (fun _ h9 => h9) rfl dX3_set_48 ?_
          refine lv_iload_n hx hb dX3_set_51 rfl (lv_at hl 1 rfl) ?_
          replace hf := gdE hf
          obtain ⟨h12, hf⟩ := hf
          refine va_iald hx hb hK.1 hP 4 0 rfl rfl (ib_in h12) dX3_set_52 ?_
          exact J53 (m3 p1.toNatClampNeg) _ _ _ hf hP hD hS (lv_sub hl [0, 1, 2, 3] rfl)
        · replace hf := ifN q11 hf
          refine lv_aload_n hx hb dX3_set_38 rfl (lv_at hl 0 rfl) ?_
          refine va_get (D := D) (ci := 3) (v := .ref (adm 3)) (C := RX3) (T := TX3) (N := 28) hx hb hts hinX3 hown hK.1 hP 0 rfl rfl 2 (by decide) hw1 (fun _ h9 => h9) rfl dX3_set_39 ?_
          refine lv_iload_n hx hb dX3_set_42 rfl (lv_at hl 1 rfl) ?_
          replace hf := gdE hf
          obtain ⟨h13, hf⟩ := hf
          refine va_iald hx hb hK.1 hP 3 0 rfl rfl (ib_in h13) dX3_set_43 ?_
          refine lv_goto (tgt := 53) hx hb dX3_set_44 (by decide) ?_
          exact J53 (m2 p1.toNatClampNeg) _ _ _ hf hP hD hS (lv_sub hl [0, 1, 2, 3] rfl)
      · replace hf := ifN q6 hf
        refine lv_iconst (v := (-1)) hx hb dX3_set_32 (by decide) ?_
        obtain rfl := Option.some.inj hf
        exact retI hx hb hr hlocks hP hD hS dX3_set_33
