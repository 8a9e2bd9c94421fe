def f_X3_of (m0 : Ar) (m1 : Ar) (m2 : Ar) (m3 : Ar) (m4 : Int32) (m7 : Al) (m24 : Int64) (m25 : Int64) (p1 : Int32) (p2 : Int32) : Option (Int32 × Int32 × Int64 × Int64) :=
(f_X3_isCell m4 p1).bind (fun r1 =>
if (b2i r1) = 0 then
some (0, 1, m24, m25)
else
(f_X3_in p2 0 6).bind (fun r3 =>
if ¬ (b2i r3) = 0 then
gd (ib p1 4) (
(f_X3_beat m0 m1 p1 (m2 p1.toNatClampNeg) (m3 p1.toNatClampNeg)).bind (fun r6 =>
if p2 = 0 then
gd (ib (0 + (2 * p1)) 31) (
some ((m7 (0 + (2 * p1)).toNatClampNeg).toInt32, 0, r6.1, r6.2))
else
if p2 = 1 then
gd (ib ((0 + (2 * p1)) + 1) 31) (
some ((m7 ((0 + (2 * p1)) + 1).toNatClampNeg).toInt32, 0, r6.1, r6.2))
else
if p2 = 2 then
gd (ib (8 + p1) 31) (
some ((m7 (8 + p1).toNatClampNeg).toInt32, 0, r6.1, r6.2))
else
if p2 = 3 then
gd (ib (22 + p1) 31) (
some ((m7 (22 + p1).toNatClampNeg).toInt32, 0, r6.1, r6.2))
else
if p2 = 4 then
gd (ib (26 + p1) 31) (
some ((m7 (26 + p1).toNatClampNeg).toInt32, 0, r6.1, r6.2))
else
if p2 = 5 then
some (r6.1.toInt32, 0, r6.1, r6.2)
else
some (r6.2.toInt32, 0, r6.1, r6.2)))
else
some (0, 1, m24, m25)))
abbrev rmX3_of : Room := { frames := 123, cells := 0, slots := 0, locals := 2832 }
set_option maxHeartbeats 40000000 in
set_option maxRecDepth 100000 in
theorem c_X3_of (l : Launch) (D : va_G) (cI cJ cZ : ClassId) (adm : Nat → Nat) (m0 : Ar) (m1 : Ar) (m2 : Ar) (m3 : Ar) (m4 : Int32) (m5 : Ar) (m6 : Int32) (m7 : Al) (m8 : Al) (m9 : Al) (m10 : Ar) (m11 : Ar) (m12 : Al) (m13 : Al) (m14 : Int32) (m15 : Al) (m16 : Int32) (m17 : Al) (m18 : Ar) (m19 : Int32) (m20 : Al) (m21 : Al) (m22 : Int32) (m23 : Int32) (m24 : Int64) (m25 : Int64) (m26 : Int32) (m27 : Int32) (p1 : Int32) (p2 : Int32) (o : (Int32 × Int32 × Int64 × Int64)) (hf : f_X3_of m0 m1 m2 m3 m4 m7 m24 m25 p1 p2 = some o) : CtI l yX3_of wsX3_of rmX3_of D cI cJ cZ [.ref (adm 0), .int p1, .int p2] (wMc cI cJ adm m0 m1 m2 m3 m4 m5 m6 m7 m8 m9 m10 m11 m12 m13 m14 m15 m16 m17 m18 m19 m20 m21 m22 m23 m24 m25 m26 m27) (wMc cI cJ adm m0 m1 m2 m3 m4 m5 m6 m7 m8 m9 m10 m11 m12 m13 m14 m15 m16 m17 m18 m19 m20 m21 m22 o.2.1 o.2.2.1 o.2.2.2 m26 m27) o.1 := by
  intro sz
  refine Met.ofW (cc := cX3_of) (maxL := 3) (ret := (some .int)) (by decide) rfl ?_
  intro p e s m args below meth c s₁ B hml hv
  obtain ⟨rfl, hsz, hP, hK, hD0⟩ := hv
  have hx := B.exec
  have hb := B.bytes
  have hr := B.returns
  have hts := atoms_spec (ws := wsX3_of) B.pre
  have hown : s.vm.findClass RX3 = some m.cls := findClass_of_methodNamed B.named
  have hlocks := B.notSynchronized
  subst hsz
  have hD := hD0.self (sz := s.heap.size)
  clear hD0
  generalize hAe : va_A (wMc cI cJ adm m0 m1 m2 m3 m4 m5 m6 m7 m8 m9 m10 m11 m12 m13 m14 m15 m16 m17 m18 m19 m20 m21 m22 m23 m24 m25 m26 m27) s.heap.size = A at hD ⊢
  have hA : ∀ q : Nat, s.heap.size ≤ q → A q := fun q h => by rw [← hAe]; exact Or.inr h
  have hS : va_S A s.heap s.heap [] := va_S.rf
  have hinX3 : ∀ w ∈ wsX30, w ∈ wsX3_of := by decide +kernel
  have hw0 : (Cond.fieldLink RX3 69 "SwingCircuitsModel" "thrown" "I").before _ s = true := hts _ (by decide +kernel)
  have hw1 : (Cond.fieldLink RX3 16 "SwingCircuitsModel" "rise" "[I").before _ s = true := hts _ (by decide +kernel)
  have hw2 : (Cond.fieldLink RX3 19 "SwingCircuitsModel" "fall" "[I").before _ s = true := hts _ (by decide +kernel)
  have hw3 : (Cond.fieldLink RX3 94 "SwingCircuitsModel" "den" "J").before _ s = true := hts _ (by decide +kernel)
  have hw4 : (Cond.fieldLink RX3 90 "SwingCircuitsModel" "num" "J").before _ s = true := hts _ (by decide +kernel)
  have hw5 : (Cond.fieldLink RX3 25 "SwingCircuitsModel" "now" "[J").before _ s = true := hts _ (by decide +kernel)
  have hl := lv_entry ([.ref (adm 0), .int p1, .int p2]) (n := 3) (Nat.le_of_ble_eq_true rfl)
  rw [lg_entry_eq]
  generalize (lg_sl ([.ref (adm 0), .int p1, .int p2]) ++ List.replicate (3 - (lg_sl ([.ref (adm 0), .int p1, .int p2])).length) Slot.unset).toArray = ls at hl ⊢
  replace hl : lv_has ls 3 [(0, .ref (adm 0)), (1, .int p1), (2, .int p2)] := hl
  unfold f_X3_of at hf
  refine lv_aload_n hx hb dX3_of_0 rfl (lv_at hl 0 rfl) ?_
  refine lv_iconst (v := 0) hx hb dX3_of_1 (by decide) ?_
  refine va_put (D := D) (ci := 3) (v := .int 0) (ty := .int) (C := RX3) (T := TX3) (N := 28) hx hb hts hinX3 tyX3 tyX3_ok nmX3 hown hK.1 hP hD hS 0 rfl rfl 23 (by decide) hw0 (fun _ h9 => h9) rfl (by decide +kernel) rfl rfl (Nat.le_of_ble_eq_true rfl) dX3_of_2 (fun H locs hP hD hS => ?_)
  replace hP : va_P D vwCl (wMc cI cJ adm m0 m1 m2 m3 m4 m5 m6 m7 m8 m9 m10 m11 m12 m13 m14 m15 m16 m17 m18 m19 m20 m21 m22 0 m24 m25 m26 m27) H := hP
  replace hD : va_D A (wMc cI cJ adm m0 m1 m2 m3 m4 m5 m6 m7 m8 m9 m10 m11 m12 m13 m14 m15 m16 m17 m18 m19 m20 m21 m22 0 m24 m25 m26 m27) := hD
  refine lv_aload_n hx hb dX3_of_5 rfl (lv_at hl 0 rfl) ?_
  refine lv_iload_n hx hb dX3_of_6 rfl (lv_at hl 1 rfl) ?_
  replace hf := bdE hf
  obtain ⟨r1, hgr1, hf⟩ := hf
  refine xIw (va_runV (As := [.int p1]) (rest := []) ⟨hx, hb, hml, hown, hts⟩ (c_X3_isCell l D cI cJ cZ adm m0 m1 m2 m3 m4 m5 m6 m7 m8 m9 m10 m11 m12 m13 m14 m15 m16 m17 m18 m19 m20 m21 m22 0 m24 m25 m26 m27 p1 r1 hgr1 _) (cwV 1 hts gX3_of_X3_isCell rfl rfl rfl (by decide +kernel) ⟨Nat.le_of_ble_eq_true rfl, Nat.le_of_ble_eq_true rfl⟩) ⟨PreW.blind, xRecv (q0 := 0) hK hP rfl rfl, (xPrew hK hP hD _)⟩ rfl rfl hl.1 rfl (lv_room (Nat.le_of_ble_eq_true rfl)) dX3_of_7 ⟨Nat.le_of_ble_eq_true rfl, Nat.le_of_ble_eq_true rfl⟩) hD hS hA (fun H locs hP hD hS => ?_)
  replace hP : va_P D vwCl (wMc cI cJ adm m0 m1 m2 m3 m4 m5 m6 m7 m8 m9 m10 m11 m12 m13 m14 m15 m16 m17 m18 m19 m20 m21 m22 0 m24 m25 m26 m27) H := hP
  replace hD : va_D A (wMc cI cJ adm m0 m1 m2 m3 m4 m5 m6 m7 m8 m9 m10 m11 m12 m13 m14 m15 m16 m17 m18 m19 m20 m21 m22 0 m24 m25 m26 m27) := hD
  refine lv_if_eq (tgt := 23) hx hb dX3_of_10 (by decide) (fun q2 => ?_) (fun q2 => ?_)
  · replace hf := ifT q2 hf
    refine lv_aload_n hx hb dX3_of_23 rfl (lv_at hl 0 rfl) ?_
    refine lv_iconst (v := 1) hx hb dX3_of_24 (by decide) ?_
    refine va_put (D := D) (ci := 3) (v := .int 1) (ty := .int) (C := RX3) (T := TX3) (N := 28) hx hb hts hinX3 tyX3 tyX3_ok nmX3 hown hK.1 hP hD hS 0 rfl rfl 23 (by decide) hw0 (fun _ h9 => h9) rfl (by decide +kernel) rfl rfl (Nat.le_of_ble_eq_true rfl) dX3_of_25 (fun H locs hP hD hS => ?_)
    replace hP : va_P D vwCl (wMc cI cJ adm m0 m1 m2 m3 m4 m5 m6 m7 m8 m9 m10 m11 m12 m13 m14 m15 m16 m17 m18 m19 m20 m21 m22 1 m24 m25 m26 m27) H := hP
    replace hD : va_D A (wMc cI cJ adm m0 m1 m2 m3 m4 m5 m6 m7 m8 m9 m10 m11 m12 m13 m14 m15 m16 m17 m18 m19 m20 m21 m22 1 m24 m25 m26 m27) := hD
    refine lv_iconst (v := 0) hx hb dX3_of_28 (by decide) ?_
    obtain rfl := Option.some.inj hf
    exact retI hx hb hr hlocks hP hD hS dX3_of_29
  · replace hf := ifF q2 hf
    refine lv_iload_n hx hb dX3_of_13 rfl (lv_at hl 2 rfl) ?_
    refine lv_iconst (v := 0) hx hb dX3_of_14 (by decide) ?_
    refine lv_bipush (v := 6) hx hb dX3_of_15 (by decide) ?_
    replace hf := bdE hf
    obtain ⟨r3, hgr3, hf⟩ := hf
    refine xI0 (va_runS (As := [.int p2, .int 0, .int 6]) (rest := []) ⟨hx, hb, hml, hown, hts⟩ (c_X3_in l D cI cJ cZ p2 0 6 r3 hgr3 _) (va_cwS 3 hts gX3_of_X3_in rfl rfl rfl (by decide +kernel) ⟨Nat.le_of_ble_eq_true rfl, Nat.le_of_ble_eq_true rfl⟩) ⟨PreW.blind, (xPre0 hK _)⟩ rfl rfl hl.1 rfl (lv_room (Nat.le_of_ble_eq_true rfl)) dX3_of_17 ⟨Nat.le_of_ble_eq_true rfl, Nat.le_of_ble_eq_true rfl⟩) hP hS hA (fun H locs hP hS => ?_)
    refine lv_if_ne (tgt := 30) hx hb dX3_of_20 (by decide) (fun q4 => ?_) (fun q4 => ?_)
    · replace hf := ifT q4 hf
      refine lv_aload_n hx hb dX3_of_30 rfl (lv_at hl 0 rfl) ?_
      refine lv_iload_n hx hb dX3_of_31 rfl (lv_at hl 1 rfl) ?_
      refine lv_aload_n hx hb dX3_of_32 rfl (lv_at hl 0 rfl) ?_
      refine va_get (D := D) (ci := 3) (v := .ref (adm 3)) (C := RX3) (T := TX3) (N := 28) hx hb hts hinX3 hown hK.1 hP 0 rfl rfl 2 (by decide) hw1 (fun _ h9 => h9) rfl dX3_of_33 ?_
      refine lv_iload_n hx hb dX3_of_36 rfl (lv_at hl 1 rfl) ?_
      replace hf := gdE hf
      obtain ⟨h5, hf⟩ := hf
      refine va_iald hx hb hK.1 hP 3 0 rfl rfl (ib_in h5) dX3_of_37 ?_
      refine lv_aload_n hx hb dX3_of_38 rfl (lv_at hl 0 rfl) ?_
      refine va_get (D := D) (ci := 3) (v := .ref (adm 4)) (C := RX3) (T := TX3) (N := 28) hx hb hts hinX3 hown hK.1 hP 0 rfl rfl 3 (by decide) hw2 (fun _ h9 => h9) rfl dX3_of_39 ?_
      refine lv_iload_n hx hb dX3_of_42 rfl (lv_at hl 1 rfl) ?_
      refine va_iald hx hb hK.1 hP 4 0 rfl rfl (ib_in h5) dX3_of_43 ?_
      replace hf := bdE hf
      obtain ⟨r6, hgr6, hf⟩ := hf
      refine xVw (va_runV (As := [.int p1, .int (m2 p1.toNatClampNeg), .int (m3 p1.toNatClampNeg)]) (rest := []) ⟨hx, hb, hml, hown, hts⟩ (c_X3_beat l D cI cJ cZ adm m0 m1 m2 m3 m4 m5 m6 m7 m8 m9 m10 m11 m12 m13 m14 m15 m16 m17 m18 m19 m20 m21 m22 0 m24 m25 m26 m27 p1 (m2 p1.toNatClampNeg) (m3 p1.toNatClampNeg) r6 hgr6 _) (cwV 3 hts gX3_of_X3_beat rfl rfl rfl (by decide +kernel) ⟨Nat.le_of_ble_eq_true rfl, Nat.le_of_ble_eq_true rfl⟩) ⟨PreW.blind, xRecv (q0 := 0) hK hP rfl rfl, (xPrew hK hP hD _)⟩ rfl rfl hl.1 rfl (lv_room (Nat.le_of_ble_eq_true rfl)) dX3_of_44 ⟨Nat.le_of_ble_eq_true rfl, Nat.le_of_ble_eq_true rfl⟩) hD hS hA (fun H locs hP hD hS => ?_)
      replace hP : va_P D vwCl (wMc cI cJ adm m0 m1 m2 m3 m4 m5 m6 m7 m8 m9 m10 m11 m12 m13 m14 m15 m16 m17 m18 m19 m20 m21 m22 0 r6.1 r6.2 m26 m27) H := hP
      replace hD : va_D A (wMc cI cJ adm m0 m1 m2 m3 m4 m5 m6 m7 m8 m9 m10 m11 m12 m13 m14 m15 m16 m17 m18 m19 m20 m21 m22 0 r6.1 r6.2 m26 m27) := hD
      refine lv_iload_n hx hb dX3_of_47 rfl (lv_at hl 2 rfl) ?_
      by_cases q7 : p2 = 0
      · replace hf := ifT q7 hf
        refine lv_tableIn (off := 40) (tgt := 88) hx hb dX3_of_48 (by rw [q7]; decide) (by rw [q7]; decide) (by rw [q7]; rfl) (by decide) ?_
        refine lv_aload_n hx hb dX3_of_88 rfl (lv_at hl 0 rfl) ?_
        refine va_get (D := D) (ci := 3) (v := .ref (adm 6)) (C := RX3) (T := TX3) (N := 28) hx hb hts hinX3 hown hK.1 hP 0 rfl rfl 7 (by decide) hw5 (fun _ h9 => h9) rfl dX3_of_89 ?_
        refine lv_iconst (v := 0) hx hb dX3_of_92 (by decide) ?_
        refine lv_iconst (v := 2) hx hb dX3_of_93 (by decide) ?_
        refine lv_iload_n hx hb dX3_of_94 rfl (lv_at hl 1 rfl) ?_
        refine lv_imul hx hb dX3_of_95 ?_
        refine lv_iadd hx hb dX3_of_96 ?_
        replace hf := gdE hf
        obtain ⟨h8, hf⟩ := hf
        refine va_lald hx hb hK.1 hP 6 1 rfl rfl (ib_in h8) dX3_of_97 ?_
        refine lv_l2i hx hb dX3_of_98 rfl ?_
        obtain rfl := Option.some.inj hf
        exact retI hx hb hr hlocks hP hD hS dX3_of_99
      · replace hf := ifF q7 hf
        by_cases q9 : p2 = 1
        · replace hf := ifT q9 hf
          refine lv_tableIn (off := 52) (tgt := 100) hx hb dX3_of_48 (by rw [q9]; decide) (by rw [q9]; decide) (by rw [q9]; rfl) (by decide) ?_
          refine lv_aload_n hx hb dX3_of_100 rfl (lv_at hl 0 rfl) ?_
          refine va_get (D := D) (ci := 3) (v := .ref (adm 6)) (C := RX3) (T := TX3) (N := 28) hx hb hts hinX3 hown hK.1 hP 0 rfl rfl 7 (by decide) hw5 (fun _ h9 => h9) rfl dX3_of_101 ?_
          refine lv_iconst (v := 0) hx hb dX3_of_104 (by decide) ?_
          refine lv_iconst (v := 2) hx hb dX3_of_105 (by decide) ?_
          refine lv_iload_n hx hb dX3_of_106 rfl (lv_at hl 1 rfl) ?_
          refine lv_imul hx hb dX3_of_107 ?_
          refine lv_iadd hx hb dX3_of_108 ?_
          refine lv_iconst (v := 1) hx hb dX3_of_109 (by decide) ?_
          refine lv_iadd hx hb dX3_of_110 ?_
          replace hf := gdE hf
          obtain ⟨h10, hf⟩ := hf
          refine va_lald hx hb hK.1 hP 6 1 rfl rfl (ib_in h10) dX3_of_111 ?_
          refine lv_l2i hx hb dX3_of_112 rfl ?_
          obtain rfl := Option.some.inj hf
          exact retI hx hb hr hlocks hP hD hS dX3_of_113
        · replace hf := ifF q9 hf
          by_cases q11 : p2 = 2
          · replace hf := ifT q11 hf
            refine lv_tableIn (off := 66) (tgt := 114) hx hb dX3_of_48 (by rw [q11]; decide) (by rw [q11]; decide) (by rw [q11]; rfl) (by decide) ?_
            refine lv_aload_n hx hb dX3_of_114 rfl (lv_at hl 0 rfl) ?_
            refine va_get (D := D) (ci := 3) (v := .ref (adm 6)) (C := RX3) (T := TX3) (N := 28) hx hb hts hinX3 hown hK.1 hP 0 rfl rfl 7 (by decide) hw5 (fun _ h9 => h9) rfl dX3_of_115 ?_
            refine lv_bipush (v := 8) hx hb dX3_of_118 (by decide) ?_
            refine lv_iload_n hx hb dX3_of_120 rfl (lv_at hl 1 rfl) ?_
            refine lv_iadd hx hb dX3_of_121 ?_
            replace hf := gdE hf
            obtain ⟨h12, hf⟩ := hf
            refine va_lald hx hb hK.1 hP 6 1 rfl rfl (ib_in h12) dX3_of_122 ?_
            refine lv_l2i hx hb dX3_of_123 rfl ?_
            obtain rfl := Option.some.inj hf
            exact retI hx hb hr hlocks hP hD hS dX3_of_124
          · replace hf := ifF q11 hf
            by_cases q13 : p2 = 3
            · replace hf := ifT q13 hf
              refine lv_tableIn (off := 77) (tgt := 125) hx hb dX3_of_48 (by rw [q13]; decide) (by rw [q13]; decide) (by rw [q13]; rfl) (by decide) ?_
              refine lv_aload_n hx hb dX3_of_125 rfl (lv_at hl 0 rfl) ?_
              refine va_get (D := D) (ci := 3) (v := .ref (adm 6)) (C := RX3) (T := TX3) (N := 28) hx hb hts hinX3 hown hK.1 hP 0 rfl rfl 7 (by decide) hw5 (fun _ h9 => h9) rfl dX3_of_126 ?_
              refine lv_bipush (v := 22) hx hb dX3_of_129 (by decide) ?_
              refine lv_iload_n hx hb dX3_of_131 rfl (lv_at hl 1 rfl) ?_
              refine lv_iadd hx hb dX3_of_132 ?_
              replace hf := gdE hf
              obtain ⟨h14, hf⟩ := hf
              refine va_lald hx hb hK.1 hP 6 1 rfl rfl (ib_in h14) dX3_of_133 ?_
              refine lv_l2i hx hb dX3_of_134 rfl ?_
              obtain rfl := Option.some.inj hf
              exact retI hx hb hr hlocks hP hD hS dX3_of_135
            · replace hf := ifF q13 hf
              by_cases q15 : p2 = 4
              · replace hf := ifT q15 hf
                refine lv_tableIn (off := 88) (tgt := 136) hx hb dX3_of_48 (by rw [q15]; decide) (by rw [q15]; decide) (by rw [q15]; rfl) (by decide) ?_
                refine lv_aload_n hx hb dX3_of_136 rfl (lv_at hl 0 rfl) ?_
                refine va_get (D := D) (ci := 3) (v := .ref (adm 6)) (C := RX3) (T := TX3) (N := 28) hx hb hts hinX3 hown hK.1 hP 0 rfl rfl 7 (by decide) hw5 (fun _ h9 => h9) rfl dX3_of_137 ?_
                refine lv_bipush (v := 26) hx hb dX3_of_140 (by decide) ?_
                refine lv_iload_n hx hb dX3_of_142 rfl (lv_at hl 1 rfl) ?_
                refine lv_iadd hx hb dX3_of_143 ?_
                replace hf := gdE hf
                obtain ⟨h16, hf⟩ := hf
                refine va_lald hx hb hK.1 hP 6 1 rfl rfl (ib_in h16) dX3_of_144 ?_
                refine lv_l2i hx hb dX3_of_145 rfl ?_
                obtain rfl := Option.some.inj hf
                exact retI hx hb hr hlocks hP hD hS dX3_of_146
              · replace hf := ifF q15 hf
                by_cases q17 : p2 = 5
                · replace hf := ifT q17 hf
                  refine lv_tableIn (off := 99) (tgt := 147) hx hb dX3_of_48 (by rw [q17]; decide) (by rw [q17]; decide) (by rw [q17]; rfl) (by decide) ?_
                  refine lv_aload_n hx hb dX3_of_147 rfl (lv_at hl 0 rfl) ?_
                  refine va_get (D := D) (ci := 3) (v := .long r6.1) (C := RX3) (T := TX3) (N := 28) hx hb hts hinX3 hown hK.1 hP 0 rfl rfl 24 (by decide) hw4 (fun _ h9 => h9) rfl dX3_of_148 ?_
                  refine lv_l2i hx hb dX3_of_151 rfl ?_
                  obtain rfl := Option.some.inj hf
                  exact retI hx hb hr hlocks hP hD hS dX3_of_152
                · replace hf := ifF q17 hf
                  refine lv_tableOut (tgt := 153) hx hb dX3_of_48 (by have nq7 := lv_neT q7 (a := 0) (by decide); have nq9 := lv_neT q9 (a := 1) (by decide); have nq11 := lv_neT q11 (a := 2) (by decide); have nq13 := lv_neT q13 (a := 3) (by decide); have nq15 := lv_neT q15 (a := 4) (by decide); have nq17 := lv_neT q17 (a := 5) (by decide); omega) (by decide) ?_
                  refine lv_aload_n hx hb dX3_of_153 rfl (lv_at hl 0 rfl) ?_
                  refine va_get (D := D) (ci := 3) (v := .long r6.2) (C := RX3) (T := TX3) (N := 28) hx hb hts hinX3 hown hK.1 hP 0 rfl rfl 25 (by decide) hw3 (fun _ h9 => h9) rfl dX3_of_154 ?_
                  refine lv_l2i hx hb dX3_of_157 rfl ?_
                  obtain rfl := Option.some.inj hf
                  exact retI hx hb hr hlocks hP hD hS dX3_of_158
    · replace hf := ifN q4 hf
      refine lv_aload_n hx hb dX3_of_23 rfl (lv_at hl 0 rfl) ?_
      refine lv_iconst (v := 1) hx hb dX3_of_24 (by decide) ?_
      refine va_put (D := D) (ci := 3) (v := .int 1) (ty := .int) (C := RX3) (T := TX3) (N := 28) hx hb hts hinX3 tyX3 tyX3_ok nmX3 hown hK.1 hP hD hS 0 rfl rfl 23 (by decide) hw0 (fun _ h9 => h9) rfl (by decide +kernel) rfl rfl (Nat.le_of_ble_eq_true rfl) dX3_of_25 (fun H locs hP hD hS => ?_)
      replace hP : va_P D vwCl (wMc cI cJ adm m0 m1 m2 m3 m4 m5 m6 m7 m8 m9 m10 m11 m12 m13 m14 m15 m16 m17 m18 m19 m20 m21 m22 1 m24 m25 m26 m27) H := hP
      replace hD : va_D A (wMc cI cJ adm m0 m1 m2 m3 m4 m5 m6 m7 m8 m9 m10 m11 m12 m13 m14 m15 m16 m17 m18 m19 m20 m21 m22 1 m24 m25 m26 m27) := hD
      refine lv_iconst (v := 0) hx hb dX3_of_28 (by decide) ?_
      obtain rfl := Option.some.inj hf
      exact retI hx hb hr hlocks hP hD hS dX3_of_29
