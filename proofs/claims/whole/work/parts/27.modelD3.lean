def f_X3_parts (m0 : Ar) (m1 : Ar) (m4 : Int32) (m18 : Ar) (m19 : Int32) (m24 : Int64) (m25 : Int64) (p1 : Int32) (p2 : Int32) (p3 : Int32) : Option (Int32 × Int32 × Int64 × Int64) :=
(f_X3_isCell m4 p1).bind (fun r1 =>
if (b2i r1) = 0 then
some ((-1), 0, m24, m25)
else
(f_X3_isFraction p2 p3).bind (fun r3 =>
if (b2i r3) = 0 then
some ((-1), 0, m24, m25)
else
(f_X3_ways m0 m1 m18 m19 m24 m25 p1 p2 p3 ((-1))).bind (fun r5 =>
some (r5.1, 0, r5.2.1, r5.2.2))))
abbrev rmX3_parts : Room := { frames := 124, cells := 0, slots := 0, locals := 2859 }
set_option maxHeartbeats 40000000 in
set_option maxRecDepth 100000 in
theorem c_X3_parts (l : Launch) (D : va_G) (cI cJ cZ : ClassId) (adm : Nat → Nat) (m0 : Ar) (m1 : Ar) (m2 : Ar) (m3 : Ar) (m4 : Int32) (m5 : Ar) (m6 : Int32) (m7 : Al) (m8 : Al) (m9 : Al) (m10 : Ar) (m11 : Ar) (m12 : Al) (m13 : Al) (m14 : Int32) (m15 : Al) (m16 : Int32) (m17 : Al) (m18 : Ar) (m19 : Int32) (m20 : Al) (m21 : Al) (m22 : Int32) (m23 : Int32) (m24 : Int64) (m25 : Int64) (m26 : Int32) (m27 : Int32) (p1 : Int32) (p2 : Int32) (p3 : Int32) (o : (Int32 × Int32 × Int64 × Int64)) (hf : f_X3_parts m0 m1 m4 m18 m19 m24 m25 p1 p2 p3 = some o) : CtI l yX3_parts wsX3_parts rmX3_parts D cI cJ cZ [.ref (adm 0), .int p1, .int p2, .int p3] (wMc cI cJ adm m0 m1 m2 m3 m4 m5 m6 m7 m8 m9 m10 m11 m12 m13 m14 m15 m16 m17 m18 m19 m20 m21 m22 m23 m24 m25 m26 m27) (wMc cI cJ adm m0 m1 m2 m3 m4 m5 m6 m7 m8 m9 m10 m11 m12 m13 m14 m15 m16 m17 m18 m19 m20 m21 m22 o.2.1 o.2.2.1 o.2.2.2 m26 m27) o.1 := by
  intro sz
  refine Met.ofW (cc := cX3_parts) (maxL := 4) (ret := (some .int)) (by decide) rfl ?_
  intro p e s m args below meth c s₁ B hml hv
  obtain ⟨rfl, hsz, hP, hK, hD0⟩ := hv
  have hx := B.exec
  have hb := B.bytes
  have hr := B.returns
  have hts := atoms_spec (ws := wsX3_parts) B.pre
  have hown : s.vm.findClass RX3 = some m.cls := findClass_of_methodNamed B.named
  have hlocks := B.notSynchronized
  subst hsz
  have hD := hD0.self (sz := s.heap.size)
  clear hD0
  generalize hAe : va_A (wMc cI cJ adm m0 m1 m2 m3 m4 m5 m6 m7 m8 m9 m10 m11 m12 m13 m14 m15 m16 m17 m18 m19 m20 m21 m22 m23 m24 m25 m26 m27) s.heap.size = A at hD ⊢
  have hA : ∀ q : Nat, s.heap.size ≤ q → A q := fun q h => by rw [← hAe]; exact Or.inr h
  have hS : va_S A s.heap s.heap [] := va_S.rf
  have hinX3 : ∀ w ∈ wsX30, w ∈ wsX3_parts := by decide +kernel
  have hw0 : (Cond.fieldLink RX3 69 "SwingCircuitsModel" "thrown" "I").before _ s = true := hts _ (by decide +kernel)
  have hl := lv_entry ([.ref (adm 0), .int p1, .int p2, .int p3]) (n := 4) (Nat.le_of_ble_eq_true rfl)
  rw [lg_entry_eq]
  generalize (lg_sl ([.ref (adm 0), .int p1, .int p2, .int p3]) ++ List.replicate (4 - (lg_sl ([.ref (adm 0), .int p1, .int p2, .int p3])).length) Slot.unset).toArray = ls at hl ⊢
  replace hl : lv_has ls 4 [(0, .ref (adm 0)), (1, .int p1), (2, .int p2), (3, .int p3)] := hl
  unfold f_X3_parts at hf
  refine lv_aload_n hx hb dX3_parts_0 rfl (lv_at hl 0 rfl) ?_
  refine lv_iconst (v := 0) hx hb dX3_parts_1 (by decide) ?_
  refine va_put (D := D) (ci := 3) (v := .int 0) (ty := .int) (C := RX3) (T := TX3) (N := 28) hx hb hts hinX3 tyX3 tyX3_ok nmX3 hown hK.1 hP hD hS 0 rfl rfl 23 (by decide) hw0 (fun _ h9 => h9) rfl (by decide +kernel) rfl rfl (Nat.le_of_ble_eq_true rfl) dX3_parts_2 (fun H locs hP hD hS => ?_)
  replace hP : va_P D vwCl (wMc cI cJ adm m0 m1 m2 m3 m4 m5 m6 m7 m8 m9 m10 m11 m12 m13 m14 m15 m16 m17 m18 m19 m20 m21 m22 0 m24 m25 m26 m27) H := hP
  replace hD : va_D A (wMc cI cJ adm m0 m1 m2 m3 m4 m5 m6 m7 m8 m9 m10 m11 m12 m13 m14 m15 m16 m17 m18 m19 m20 m21 m22 0 m24 m25 m26 m27) := hD
  refine lv_aload_n hx hb dX3_parts_5 rfl (lv_at hl 0 rfl) ?_
  refine lv_iload_n hx hb dX3_parts_6 rfl (lv_at hl 1 rfl) ?_
  replace hf := bdE hf
  obtain ⟨r1, hgr1, hf⟩ := hf
  refine xIw (va_runV (As := [.int p1]) (rest := []) ⟨hx, hb, hml, hown, hts⟩ (c_X3_isCell l D cI cJ cZ adm m0 m1 m2 m3 m4 m5 m6 m7 m8 m9 m10 m11 m12 m13 m14 m15 m16 m17 m18 m19 m20 m21 m22 0 m24 m25 m26 m27 p1 r1 hgr1 _) (cwV 1 hts gX3_parts_X3_isCell rfl rfl rfl (by decide +kernel) ⟨Nat.le_of_ble_eq_true rfl, Nat.le_of_ble_eq_true rfl⟩) ⟨PreW.blind, xRecv (q0 := 0) hK hP rfl rfl, (xPrew hK hP hD _)⟩ rfl rfl hl.1 rfl (lv_room (Nat.le_of_ble_eq_true rfl)) dX3_parts_7 ⟨Nat.le_of_ble_eq_true rfl, Nat.le_of_ble_eq_true rfl⟩) hD hS hA (fun H locs hP hD hS => ?_)
  replace hP : va_P D vwCl (wMc cI cJ adm m0 m1 m2 m3 m4 m5 m6 m7 m8 m9 m10 m11 m12 m13 m14 m15 m16 m17 m18 m19 m20 m21 m22 0 m24 m25 m26 m27) H := hP
  replace hD : va_D A (wMc cI cJ adm m0 m1 m2 m3 m4 m5 m6 m7 m8 m9 m10 m11 m12 m13 m14 m15 m16 m17 m18 m19 m20 m21 m22 0 m24 m25 m26 m27) := hD
  refine lv_if_eq (tgt := 32) hx hb dX3_parts_10 (by decide) (fun q2 => ?_) (fun q2 => ?_)
  · replace hf := ifT q2 hf
    refine lv_iconst (v := (-1)) hx hb dX3_parts_32 (by decide) ?_
    obtain rfl := Option.some.inj hf
    exact retI hx hb hr hlocks hP hD hS dX3_parts_33
  · replace hf := ifF q2 hf
    refine lv_iload_n hx hb dX3_parts_13 rfl (lv_at hl 2 rfl) ?_
    refine lv_iload_n hx hb dX3_parts_14 rfl (lv_at hl 3 rfl) ?_
    replace hf := bdE hf
    obtain ⟨r3, hgr3, hf⟩ := hf
    refine xI0 (va_runS (As := [.int p2, .int p3]) (rest := []) ⟨hx, hb, hml, hown, hts⟩ (c_X3_isFraction l D cI cJ cZ p2 p3 r3 hgr3 _) (va_cwS 2 hts gX3_parts_X3_isFraction rfl rfl rfl (by decide +kernel) ⟨Nat.le_of_ble_eq_true rfl, Nat.le_of_ble_eq_true rfl⟩) ⟨PreW.blind, (xPre0 hK _)⟩ rfl rfl hl.1 rfl (lv_room (Nat.le_of_ble_eq_true rfl)) dX3_parts_15 ⟨Nat.le_of_ble_eq_true rfl, Nat.le_of_ble_eq_true rfl⟩) hP hS hA (fun H locs hP hS => ?_)
    refine lv_if_eq (tgt := 32) hx hb dX3_parts_18 (by decide) (fun q4 => ?_) (fun q4 => ?_)
    · replace hf := ifT q4 hf
      refine lv_iconst (v := (-1)) hx hb dX3_parts_32 (by decide) ?_
      obtain rfl := Option.some.inj hf
      exact retI hx hb hr hlocks hP hD hS dX3_parts_33
    · replace hf := ifF q4 hf
      refine lv_aload_n hx hb dX3_parts_21 rfl (lv_at hl 0 rfl) ?_
      refine lv_iload_n hx hb dX3_parts_22 rfl (lv_at hl 1 rfl) ?_
      refine lv_iload_n hx hb dX3_parts_23 rfl (lv_at hl 2 rfl) ?_
      refine lv_iload_n hx hb dX3_parts_24 rfl (lv_at hl 3 rfl) ?_
      refine lv_iconst (v := (-1)) hx hb dX3_parts_25 (by decide) ?_
      replace hf := bdE hf
      obtain ⟨r5, hgr5, hf⟩ := hf
      refine xIw (va_runV (As := [.int p1, .int p2, .int p3, .int ((-1))]) (rest := []) ⟨hx, hb, hml, hown, hts⟩ (c_X3_ways l D cI cJ cZ adm m0 m1 m2 m3 m4 m5 m6 m7 m8 m9 m10 m11 m12 m13 m14 m15 m16 m17 m18 m19 m20 m21 m22 0 m24 m25 m26 m27 p1 p2 p3 ((-1)) r5 hgr5 _) (cwV 4 hts gX3_parts_X3_ways rfl rfl rfl (by decide +kernel) ⟨Nat.le_of_ble_eq_true rfl, Nat.le_of_ble_eq_true rfl⟩) ⟨PreW.blind, xRecv (q0 := 0) hK hP rfl rfl, (xPrew hK hP hD _)⟩ rfl rfl hl.1 rfl (lv_room (Nat.le_of_ble_eq_true rfl)) dX3_parts_26 ⟨Nat.le_of_ble_eq_true rfl, Nat.le_of_ble_eq_true rfl⟩) hD hS hA (fun H locs hP hD hS => ?_)
      replace hP : va_P D vwCl (wMc cI cJ adm m0 m1 m2 m3 m4 m5 m6 m7 m8 m9 m10 m11 m12 m13 m14 m15 m16 m17 m18 m19 m20 m21 m22 0 r5.2.1 r5.2.2 m26 m27) H := hP
      replace hD : va_D A (wMc cI cJ adm m0 m1 m2 m3 m4 m5 m6 m7 m8 m9 m10 m11 m12 m13 m14 m15 m16 m17 m18 m19 m20 m21 m22 0 r5.2.1 r5.2.2 m26 m27) := hD
      refine lv_goto (tgt := 33) hx hb dX3_parts_29 (by decide) ?_
      obtain rfl := Option.some.inj hf
      exact retI hx hb hr hlocks hP hD hS dX3_parts_33

def f_X3_part (m0 : Ar) (m1 : Ar) (m4 : Int32) (m18 : Ar) (m19 : Int32) (m24 : Int64) (m25 : Int64) (p1 : Int32) (p2 : Int32) (p3 : Int32) (p4 : Int32) : Option (Int32 × Int32 × Int64 × Int64) :=
(f_X3_isCell m4 p1).bind (fun r1 =>
if (b2i r1) = 0 then
some ((-1), 0, m24, m25)
else
(f_X3_isFraction p2 p3).bind (fun r3 =>
if (b2i r3) = 0 then
some ((-1), 0, m24, m25)
else
if p4 < 0 then
some ((-1), 0, m24, m25)
else
(f_X3_ways m0 m1 m18 m19 m24 m25 p1 p2 p3 p4).bind (fun r6 =>
some (r6.1, 0, r6.2.1, r6.2.2))))
abbrev rmX3_part : Room := { frames := 124, cells := 0, slots := 0, locals := 2859 }
set_option maxHeartbeats 40000000 in
set_option maxRecDepth 100000 in
theorem c_X3_part (l : Launch) (D : va_G) (cI cJ cZ : ClassId) (adm : Nat → Nat) (m0 : Ar) (m1 : Ar) (m2 : Ar) (m3 : Ar) (m4 : Int32) (m5 : Ar) (m6 : Int32) (m7 : Al) (m8 : Al) (m9 : Al) (m10 : Ar) (m11 : Ar) (m12 : Al) (m13 : Al) (m14 : Int32) (m15 : Al) (m16 : Int32) (m17 : Al) (m18 : Ar) (m19 : Int32) (m20 : Al) (m21 : Al) (m22 : Int32) (m23 : Int32) (m24 : Int64) (m25 : Int64) (m26 : Int32) (m27 : Int32) (p1 : Int32) (p2 : Int32) (p3 : Int32) (p4 : Int32) (o : (Int32 × Int32 × Int64 × Int64)) (hf : f_X3_part m0 m1 m4 m18 m19 m24 m25 p1 p2 p3 p4 = some o) : CtI l yX3_part wsX3_part rmX3_part D cI cJ cZ [.ref (adm 0), .int p1, .int p2, .int p3, .int p4] (wMc cI cJ adm m0 m1 m2 m3 m4 m5 m6 m7 m8 m9 m10 m11 m12 m13 m14 m15 m16 m17 m18 m19 m20 m21 m22 m23 m24 m25 m26 m27) (wMc cI cJ adm m0 m1 m2 m3 m4 m5 m6 m7 m8 m9 m10 m11 m12 m13 m14 m15 m16 m17 m18 m19 m20 m21 m22 o.2.1 o.2.2.1 o.2.2.2 m26 m27) o.1 := by
  intro sz
  refine Met.ofW (cc := cX3_part) (maxL := 5) (ret := (some .int)) (by decide) rfl ?_
  intro p e s m args below meth c s₁ B hml hv
  obtain ⟨rfl, hsz, hP, hK, hD0⟩ := hv
  have hx := B.exec
  have hb := B.bytes
  have hr := B.returns
  have hts := atoms_spec (ws := wsX3_part) B.pre
  have hown : s.vm.findClass RX3 = some m.cls := findClass_of_methodNamed B.named
  have hlocks := B.notSynchronized
  subst hsz
  have hD := hD0.self (sz := s.heap.size)
  clear hD0
  generalize hAe : va_A (wMc cI cJ adm m0 m1 m2 m3 m4 m5 m6 m7 m8 m9 m10 m11 m12 m13 m14 m15 m16 m17 m18 m19 m20 m21 m22 m23 m24 m25 m26 m27) s.heap.size = A at hD ⊢
  have hA : ∀ q : Nat, s.heap.size ≤ q → A q := fun q h => by rw [← hAe]; exact Or.inr h
  have hS : va_S A s.heap s.heap [] := va_S.rf
  have hinX3 : ∀ w ∈ wsX30, w ∈ wsX3_part := by decide +kernel
  have hw0 : (Cond.fieldLink RX3 69 "SwingCircuitsModel" "thrown" "I").before _ s = true := hts _ (by decide +kernel)
  have hl := lv_entry ([.ref (adm 0), .int p1, .int p2, .int p3, .int p4]) (n := 5) (Nat.le_of_ble_eq_true rfl)
  rw [lg_entry_eq]
  generalize (lg_sl ([.ref (adm 0), .int p1, .int p2, .int p3, .int p4]) ++ List.replicate (5 - (lg_sl ([.ref (adm 0), .int p1, .int p2, .int p3, .int p4])).length) Slot.unset).toArray = ls at hl ⊢
  replace hl : lv_has ls 5 [(0, .ref (adm 0)), (1, .int p1), (2, .int p2), (3, .int p3), (4, .int p4)] := hl
  unfold f_X3_part at hf
  refine lv_aload_n hx hb dX3_part_0 rfl (lv_at hl 0 rfl) ?_
  refine lv_iconst (v := 0) hx hb dX3_part_1 (by decide) ?_
  refine va_put (D := D) (ci := 3) (v := .int 0) (ty := .int) (C := RX3) (T := TX3) (N := 28) hx hb hts hinX3 tyX3 tyX3_ok nmX3 hown hK.1 hP hD hS 0 rfl rfl 23 (by decide) hw0 (fun _ h9 => h9) rfl (by decide +kernel) rfl rfl (Nat.le_of_ble_eq_true rfl) dX3_part_2 (fun H locs hP hD hS => ?_)
  replace hP : va_P D vwCl (wMc cI cJ adm m0 m1 m2 m3 m4 m5 m6 m7 m8 m9 m10 m11 m12 m13 m14 m15 m16 m17 m18 m19 m20 m21 m22 0 m24 m25 m26 m27) H := hP
  replace hD : va_D A (wMc cI cJ adm m0 m1 m2 m3 m4 m5 m6 m7 m8 m9 m10 m11 m12 m13 m14 m15 m16 m17 m18 m19 m20 m21 m22 0 m24 m25 m26 m27) := hD
  refine lv_aload_n hx hb dX3_part_5 rfl (lv_at hl 0 rfl) ?_
  refine lv_iload_n hx hb dX3_part_6 rfl (lv_at hl 1 rfl) ?_
  replace hf := bdE hf
  obtain ⟨r1, hgr1, hf⟩ := hf
  refine xIw (va_runV (As := [.int p1]) (rest := []) ⟨hx, hb, hml, hown, hts⟩ (c_X3_isCell l D cI cJ cZ adm m0 m1 m2 m3 m4 m5 m6 m7 m8 m9 m10 m11 m12 m13 m14 m15 m16 m17 m18 m19 m20 m21 m22 0 m24 m25 m26 m27 p1 r1 hgr1 _) (cwV 1 hts gX3_part_X3_isCell rfl rfl rfl (by decide +kernel) ⟨Nat.le_of_ble_eq_true rfl, Nat.le_of_ble_eq_true rfl⟩) ⟨PreW.blind, xRecv (q0 := 0) hK hP rfl rfl, (xPrew hK hP hD _)⟩ rfl rfl hl.1 rfl (lv_room (Nat.le_of_ble_eq_true rfl)) dX3_part_7 ⟨Nat.le_of_ble_eq_true rfl, Nat.le_of_ble_eq_true rfl⟩) hD hS hA (fun H locs hP hD hS => ?_)
  replace hP : va_P D vwCl (wMc cI cJ adm m0 m1 m2 m3 m4 m5 m6 m7 m8 m9 m10 m11 m12 m13 m14 m15 m16 m17 m18 m19 m20 m21 m22 0 m24 m25 m26 m27) H := hP
  replace hD : va_D A (wMc cI cJ adm m0 m1 m2 m3 m4 m5 m6 m7 m8 m9 m10 m11 m12 m13 m14 m15 m16 m17 m18 m19 m20 m21 m22 0 m24 m25 m26 m27) := hD
  refine lv_if_eq (tgt := 38) hx hb dX3_part_10 (by decide) (fun q2 => ?_) (fun q2 => ?_)
  · replace hf := ifT q2 hf
    refine lv_iconst (v := (-1)) hx hb dX3_part_38 (by decide) ?_
    obtain rfl := Option.some.inj hf
    exact retI hx hb hr hlocks hP hD hS dX3_part_39
  · replace hf := ifF q2 hf
    refine lv_iload_n hx hb dX3_part_13 rfl (lv_at hl 2 rfl) ?_
    refine lv_iload_n hx hb dX3_part_14 rfl (lv_at hl 3 rfl) ?_
    replace hf := bdE hf
    obtain ⟨r3, hgr3, hf⟩ := hf
    refine xI0 (va_runS (As := [.int p2, .int p3]) (rest := []) ⟨hx, hb, hml, hown, hts⟩ (c_X3_isFraction l D cI cJ cZ p2 p3 r3 hgr3 _) (va_cwS 2 hts gX3_part_X3_isFraction rfl rfl rfl (by decide +kernel) ⟨Nat.le_of_ble_eq_true rfl, Nat.le_of_ble_eq_true rfl⟩) ⟨PreW.blind, (xPre0 hK _)⟩ rfl rfl hl.1 rfl (lv_room (Nat.le_of_ble_eq_true rfl)) dX3_part_15 ⟨Nat.le_of_ble_eq_true rfl, Nat.le_of_ble_eq_true rfl⟩) hP hS hA (fun H locs hP hS => ?_)
    refine lv_if_eq (tgt := 38) hx hb dX3_part_18 (by decide) (fun q4 => ?_) (fun q4 => ?_)
    · replace hf := ifT q4 hf
      refine lv_iconst (v := (-1)) hx hb dX3_part_38 (by decide) ?_
      obtain rfl := Option.some.inj hf
      exact retI hx hb hr hlocks hP hD hS dX3_part_39
    · replace hf := ifF q4 hf
      refine lv_iload hx hb dX3_part_21 (lv_at hl 4 rfl) ?_
      refine lv_if_lt (tgt := 38) hx hb dX3_part_23 (by decide) (fun q5 => ?_) (fun q5 => ?_)
      · replace hf := ifT q5 hf
        refine lv_iconst (v := (-1)) hx hb dX3_part_38 (by decide) ?_
        obtain rfl := Option.some.inj hf
        exact retI hx hb hr hlocks hP hD hS dX3_part_39
      · replace hf := ifF q5 hf
        refine lv_aload_n hx hb dX3_part_26 rfl (lv_at hl 0 rfl) ?_
        refine lv_iload_n hx hb dX3_part_27 rfl (lv_at hl 1 rfl) ?_
        refine lv_iload_n hx hb dX3_part_28 rfl (lv_at hl 2 rfl) ?_
        refine lv_iload_n hx hb dX3_part_29 rfl (lv_at hl 3 rfl) ?_
        refine lv_iload hx hb dX3_part_30 (lv_at hl 4 rfl) ?_
        replace hf := bdE hf
        obtain ⟨r6, hgr6, hf⟩ := hf
        refine xIw (va_runV (As := [.int p1, .int p2, .int p3, .int p4]) (rest := []) ⟨hx, hb, hml, hown, hts⟩ (c_X3_ways l D cI cJ cZ adm m0 m1 m2 m3 m4 m5 m6 m7 m8 m9 m10 m11 m12 m13 m14 m15 m16 m17 m18 m19 m20 m21 m22 0 m24 m25 m26 m27 p1 p2 p3 p4 r6 hgr6 _) (cwV 4 hts gX3_part_X3_ways rfl rfl rfl (by decide +kernel) ⟨Nat.le_of_ble_eq_true rfl, Nat.le_of_ble_eq_true rfl⟩) ⟨PreW.blind, xRecv (q0 := 0) hK hP rfl rfl, (xPrew hK hP hD _)⟩ rfl rfl hl.1 rfl (lv_room (Nat.le_of_ble_eq_true rfl)) dX3_part_32 ⟨Nat.le_of_ble_eq_true rfl, Nat.le_of_ble_eq_true rfl⟩) hD hS hA (fun H locs hP hD hS => ?_)
        replace hP : va_P D vwCl (wMc cI cJ adm m0 m1 m2 m3 m4 m5 m6 m7 m8 m9 m10 m11 m12 m13 m14 m15 m16 m17 m18 m19 m20 m21 m22 0 r6.2.1 r6.2.2 m26 m27) H := hP
        replace hD : va_D A (wMc cI cJ adm m0 m1 m2 m3 m4 m5 m6 m7 m8 m9 m10 m11 m12 m13 m14 m15 m16 m17 m18 m19 m20 m21 m22 0 r6.2.1 r6.2.2 m26 m27) := hD
        refine lv_goto (tgt := 39) hx hb dX3_part_35 (by decide) ?_
        obtain rfl := Option.some.inj hf
        exact retI hx hb hr hlocks hP hD hS dX3_part_39

def f_X3_measure (m20 : Al) (m21 : Al) (m22 : Int32) (m24 : Int64) (m25 : Int64) (p1 : Int32) (p2 : Int32) : Option (Int32 × Al × Al × Int32 × Int32 × Int64 × Int64) :=
(f_X3_isFraction p1 p2).bind (fun r1 =>
if (b2i r1) = 0 then
some ((-1), m20, m21, m22, 0, m24, m25)
else
if ¬ m22 = 8 then
(f_X3_make p1.toInt64 p2.toInt64).bind (fun r4 =>
gd (ib m22 8) (
bnd (m22 + 1) (fun v6 =>
some (v6, vp_updL m20 m22.toNatClampNeg r4.1, vp_updL m21 m22.toNatClampNeg r4.2, v6, 0, r4.1, r4.2))))
else
some ((-1), m20, m21, m22, 0, m24, m25))
abbrev rmX3_measure : Room := { frames := 122, cells := 0, slots := 0, locals := 2809 }
set_option maxHeartbeats 40000000 in
set_option maxRecDepth 100000 in
theorem c_X3_measure (l : Launch) (D : va_G) (cI cJ cZ : ClassId) (adm : Nat → Nat) (m0 : Ar) (m1 : Ar) (m2 : Ar) (m3 : Ar) (m4 : Int32) (m5 : Ar) (m6 : Int32) (m7 : Al) (m8 : Al) (m9 : Al) (m10 : Ar) (m11 : Ar) (m12 : Al) (m13 : Al) (m14 : Int32) (m15 : Al) (m16 : Int32) (m17 : Al) (m18 : Ar) (m19 : Int32) (m20 : Al) (m21 : Al) (m22 : Int32) (m23 : Int32) (m24 : Int64) (m25 : Int64) (m26 : Int32) (m27 : Int32) (p1 : Int32) (p2 : Int32) (o : (Int32 × Al × Al × Int32 × Int32 × Int64 × Int64)) (hf : f_X3_measure m20 m21 m22 m24 m25 p1 p2 = some o) : CtI l yX3_measure wsX3_measure rmX3_measure D cI cJ cZ [.ref (adm 0), .int p1, .int p2] (wMc cI cJ adm m0 m1 m2 m3 m4 m5 m6 m7 m8 m9 m10 m11 m12 m13 m14 m15 m16 m17 m18 m19 m20 m21 m22 m23 m24 m25 m26 m27) (wMc cI cJ adm m0 m1 m2 m3 m4 m5 m6 m7 m8 m9 m10 m11 m12 m13 m14 m15 m16 m17 m18 m19 o.2.1 o.2.2.1 o.2.2.2.1 o.2.2.2.2.1 o.2.2.2.2.2.1 o.2.2.2.2.2.2 m26 m27) o.1 := by
  intro sz
  refine Met.ofW (cc := cX3_measure) (maxL := 3) (ret := (some .int)) (by decide) rfl ?_
  intro p e s m args below meth c s₁ B hml hv
  obtain ⟨rfl, hsz, hP, hK, hD0⟩ := hv
  have hx := B.exec
  have hb := B.bytes
  have hr := B.returns
  have hts := atoms_spec (ws := wsX3_measure) B.pre
  have hown : s.vm.findClass RX3 = some m.cls := findClass_of_methodNamed B.named
  have hlocks := B.notSynchronized
  subst hsz
  have hD := hD0.self (sz := s.heap.size)
  clear hD0
  generalize hAe : va_A (wMc cI cJ adm m0 m1 m2 m3 m4 m5 m6 m7 m8 m9 m10 m11 m12 m13 m14 m15 m16 m17 m18 m19 m20 m21 m22 m23 m24 m25 m26 m27) s.heap.size = A at hD ⊢
  have hA : ∀ q : Nat, s.heap.size ≤ q → A q := fun q h => by rw [← hAe]; exact Or.inr h
  have hS : va_S A s.heap s.heap [] := va_S.rf
  have hinX3 : ∀ w ∈ wsX30, w ∈ wsX3_measure := by decide +kernel
  have hw0 : (Cond.fieldLink RX3 69 "SwingCircuitsModel" "thrown" "I").before _ s = true := hts _ (by decide +kernel)
  have hw1 : (Cond.fieldLink RX3 152 "SwingCircuitsModel" "measured" "I").before _ s = true := hts _ (by decide +kernel)
  have hw2 : (Cond.fieldLink RX3 60 "SwingCircuitsModel" "measuredNum" "[J").before _ s = true := hts _ (by decide +kernel)
  have hw3 : (Cond.fieldLink RX3 90 "SwingCircuitsModel" "num" "J").before _ s = true := hts _ (by decide +kernel)
  have hw4 : (Cond.fieldLink RX3 63 "SwingCircuitsModel" "measuredDen" "[J").before _ s = true := hts _ (by decide +kernel)
  have hw5 : (Cond.fieldLink RX3 94 "SwingCircuitsModel" "den" "J").before _ s = true := hts _ (by decide +kernel)
  have hl := lv_entry ([.ref (adm 0), .int p1, .int p2]) (n := 3) (Nat.le_of_ble_eq_true rfl)
  rw [lg_entry_eq]
  generalize (lg_sl ([.ref (adm 0), .int p1, .int p2]) ++ List.replicate (3 - (lg_sl ([.ref (adm 0), .int p1, .int p2])).length) Slot.unset).toArray = ls at hl ⊢
  replace hl : lv_has ls 3 [(0, .ref (adm 0)), (1, .int p1), (2, .int p2)] := hl
  unfold f_X3_measure at hf
  refine lv_aload_n hx hb dX3_measure_0 rfl (lv_at hl 0 rfl) ?_
  refine lv_iconst (v := 0) hx hb dX3_measure_1 (by decide) ?_
  refine va_put (D := D) (ci := 3) (v := .int 0) (ty := .int) (C := RX3) (T := TX3) (N := 28) hx hb hts hinX3 tyX3 tyX3_ok nmX3 hown hK.1 hP hD hS 0 rfl rfl 23 (by decide) hw0 (fun _ h9 => h9) rfl (by decide +kernel) rfl rfl (Nat.le_of_ble_eq_true rfl) dX3_measure_2 (fun H locs hP hD hS => ?_)
  replace hP : va_P D vwCl (wMc cI cJ adm m0 m1 m2 m3 m4 m5 m6 m7 m8 m9 m10 m11 m12 m13 m14 m15 m16 m17 m18 m19 m20 m21 m22 0 m24 m25 m26 m27) H := hP
  replace hD : va_D A (wMc cI cJ adm m0 m1 m2 m3 m4 m5 m6 m7 m8 m9 m10 m11 m12 m13 m14 m15 m16 m17 m18 m19 m20 m21 m22 0 m24 m25 m26 m27) := hD
  refine lv_iload_n hx hb dX3_measure_5 rfl (lv_at hl 1 rfl) ?_
  refine lv_iload_n hx hb dX3_measure_6 rfl (lv_at hl 2 rfl) ?_
  replace hf := bdE hf
  obtain ⟨r1, hgr1, hf⟩ := hf
  refine xI0 (va_runS (As := [.int p1, .int p2]) (rest := []) ⟨hx, hb, hml, hown, hts⟩ (c_X3_isFraction l D cI cJ cZ p1 p2 r1 hgr1 _) (va_cwS 2 hts gX3_measure_X3_isFraction rfl rfl rfl (by decide +kernel) ⟨Nat.le_of_ble_eq_true rfl, Nat.le_of_ble_eq_true rfl⟩) ⟨PreW.blind, (xPre0 hK _)⟩ rfl rfl hl.1 rfl (lv_room (Nat.le_of_ble_eq_true rfl)) dX3_measure_7 ⟨Nat.le_of_ble_eq_true rfl, Nat.le_of_ble_eq_true rfl⟩) hP hS hA (fun H locs hP hS => ?_)
  refine lv_if_eq (tgt := 22) hx hb dX3_measure_10 (by decide) (fun q2 => ?_) (fun q2 => ?_)
  · replace hf := ifT q2 hf
    refine lv_iconst (v := (-1)) hx hb dX3_measure_22 (by decide) ?_
    obtain rfl := Option.some.inj hf
    exact retI hx hb hr hlocks hP hD hS dX3_measure_23
  · replace hf := ifF q2 hf
    refine lv_aload_n hx hb dX3_measure_13 rfl (lv_at hl 0 rfl) ?_
    refine va_get (D := D) (ci := 3) (v := .int m22) (C := RX3) (T := TX3) (N := 28) hx hb hts hinX3 hown hK.1 hP 0 rfl rfl 22 (by decide) hw1 (fun _ h9 => h9) rfl dX3_measure_14 ?_
    refine lv_bipush (v := 8) hx hb dX3_measure_17 (by decide) ?_
    refine lv_icmp_ne (tgt := 24) hx hb dX3_measure_19 (by decide) (fun q3 => ?_) (fun q3 => ?_)
    · replace hf := ifT q3 hf
      refine lv_aload_n hx hb dX3_measure_24 rfl (lv_at hl 0 rfl) ?_
      refine lv_iload_n hx hb dX3_measure_25 rfl (lv_at hl 1 rfl) ?_
      refine lv_i2l hx hb dX3_measure_26 rfl ?_
      refine lv_iload_n hx hb dX3_measure_27 rfl (lv_at hl 2 rfl) ?_
      refine lv_i2l hx hb dX3_measure_28 rfl ?_
      replace hf := bdE hf
      obtain ⟨r4, hgr4, hf⟩ := hf
      refine xVw (va_runV (As := [.long p1.toInt64, .long p2.toInt64]) (rest := []) ⟨hx, hb, hml, hown, hts⟩ (c_X3_make l D cI cJ cZ adm m0 m1 m2 m3 m4 m5 m6 m7 m8 m9 m10 m11 m12 m13 m14 m15 m16 m17 m18 m19 m20 m21 m22 0 m24 m25 m26 m27 p1.toInt64 p2.toInt64 r4 hgr4 _) (cwV 2 hts gX3_measure_X3_make rfl rfl rfl (by decide +kernel) ⟨Nat.le_of_ble_eq_true rfl, Nat.le_of_ble_eq_true rfl⟩) ⟨PreW.blind, xRecv (q0 := 0) hK hP rfl rfl, (xPrew hK hP hD _)⟩ rfl rfl hl.1 rfl (lv_room (Nat.le_of_ble_eq_true rfl)) dX3_measure_29 ⟨Nat.le_of_ble_eq_true rfl, Nat.le_of_ble_eq_true rfl⟩) hD hS hA (fun H locs hP hD hS => ?_)
      replace hP : va_P D vwCl (wMc cI cJ adm m0 m1 m2 m3 m4 m5 m6 m7 m8 m9 m10 m11 m12 m13 m14 m15 m16 m17 m18 m19 m20 m21 m22 0 r4.1 r4.2 m26 m27) H := hP
      replace hD : va_D A (wMc cI cJ adm m0 m1 m2 m3 m4 m5 m6 m7 m8 m9 m10 m11 m12 m13 m14 m15 m16 m17 m18 m19 m20 m21 m22 0 r4.1 r4.2 m26 m27) := hD
      refine lv_aload_n hx hb dX3_measure_32 rfl (lv_at hl 0 rfl) ?_
      refine va_get (D := D) (ci := 3) (v := .ref (adm 16)) (C := RX3) (T := TX3) (N := 28) hx hb hts hinX3 hown hK.1 hP 0 rfl rfl 20 (by decide) hw2 (fun _ h9 => h9) rfl dX3_measure_33 ?_
      refine lv_aload_n hx hb dX3_measure_36 rfl (lv_at hl 0 rfl) ?_
      refine va_get (D := D) (ci := 3) (v := .int m22) (C := RX3) (T := TX3) (N := 28) hx hb hts hinX3 hown hK.1 hP 0 rfl rfl 22 (by decide) hw1 (fun _ h9 => h9) rfl dX3_measure_37 ?_
      refine lv_aload_n hx hb dX3_measure_40 rfl (lv_at hl 0 rfl) ?_
      refine va_get (D := D) (ci := 3) (v := .long r4.1) (C := RX3) (T := TX3) (N := 28) hx hb hts hinX3 hown hK.1 hP 0 rfl rfl 24 (by decide) hw3 (fun _ h9 => h9) rfl dX3_measure_41 ?_
      replace hf := gdE hf
      obtain ⟨h5, hf⟩ := hf
      refine va_last hx hb hK.1 hP hD hS 16 1 rfl rfl (ib_in h5) dX3_measure_44 (fun H locs hP hD hS => ?_)
      replace hP : va_P D vwCl (wMc cI cJ adm m0 m1 m2 m3 m4 m5 m6 m7 m8 m9 m10 m11 m12 m13 m14 m15 m16 m17 m18 m19 (vp_updL m20 m22.toNatClampNeg r4.1) m21 m22 0 r4.1 r4.2 m26 m27) H := hP
      replace hD : va_D A (wMc cI cJ adm m0 m1 m2 m3 m4 m5 m6 m7 m8 m9 m10 m11 m12 m13 m14 m15 m16 m17 m18 m19 (vp_updL m20 m22.toNatClampNeg r4.1) m21 m22 0 r4.1 r4.2 m26 m27) := hD
      refine lv_aload_n hx hb dX3_measure_45 rfl (lv_at hl 0 rfl) ?_
      refine va_get (D := D) (ci := 3) (v := .ref (adm 17)) (C := RX3) (T := TX3) (N := 28) hx hb hts hinX3 hown hK.1 hP 0 rfl rfl 21 (by decide) hw4 (fun _ h9 => h9) rfl dX3_measure_46 ?_
      refine lv_aload_n hx hb dX3_measure_49 rfl (lv_at hl 0 rfl) ?_
      refine va_get (D := D) (ci := 3) (v := .int m22) (C := RX3) (T := TX3) (N := 28) hx hb hts hinX3 hown hK.1 hP 0 rfl rfl 22 (by decide) hw1 (fun _ h9 => h9) rfl dX3_measure_50 ?_
      refine lv_aload_n hx hb dX3_measure_53 rfl (lv_at hl 0 rfl) ?_
      refine va_get (D := D) (ci := 3) (v := .long r4.2) (C := RX3) (T := TX3) (N := 28) hx hb hts hinX3 hown hK.1 hP 0 rfl rfl 25 (by decide) hw5 (fun _ h9 => h9) rfl dX3_measure_54 ?_
      refine va_last hx hb hK.1 hP hD hS 17 1 rfl rfl (ib_in h5) dX3_measure_57 (fun H locs hP hD hS => ?_)
      replace hP : va_P D vwCl (wMc cI cJ adm m0 m1 m2 m3 m4 m5 m6 m7 m8 m9 m10 m11 m12 m13 m14 m15 m16 m17 m18 m19 (vp_updL m20 m22.toNatClampNeg r4.1) (vp_updL m21 m22.toNatClampNeg r4.2) m22 0 r4.1 r4.2 m26 m27) H := hP
      replace hD : va_D A (wMc cI cJ adm m0 m1 m2 m3 m4 m5 m6 m7 m8 m9 m10 m11 m12 m13 m14 m15 m16 m17 m18 m19 (vp_updL m20 m22.toNatClampNeg r4.1) (vp_updL m21 m22.toNatClampNeg r4.2) m22 0 r4.1 r4.2 m26 m27) := hD
      refine lv_aload_n hx hb dX3_measure_58 rfl (lv_at hl 0 rfl) ?_
      refine lv_dup hx hb dX3_measure_59 rfl ?_
      refine va_get (D := D) (ci := 3) (v := .int m22) (C := RX3) (T := TX3) (N := 28) hx hb hts hinX3 hown hK.1 hP 0 rfl rfl 22 (by decide) hw1 (fun _ h9 => h9) rfl dX3_measure_60 ?_
      refine lv_iconst (v := 1) hx hb dX3_measure_63 (by decide) ?_
      refine lv_iadd hx hb dX3_measure_64 ?_
      refine lv_topi (fun v6 ev6 => ?_)
      replace hf := bndE hf ev6
      refine va_put (D := D) (ci := 3) (v := .int v6) (ty := .int) (C := RX3) (T := TX3) (N := 28) hx hb hts hinX3 tyX3 tyX3_ok nmX3 hown hK.1 hP hD hS 0 rfl rfl 22 (by decide) hw1 (fun _ h9 => h9) rfl (by decide +kernel) rfl rfl (Nat.le_of_ble_eq_true rfl) dX3_measure_65 (fun H locs hP hD hS => ?_)
      replace hP : va_P D vwCl (wMc cI cJ adm m0 m1 m2 m3 m4 m5 m6 m7 m8 m9 m10 m11 m12 m13 m14 m15 m16 m17 m18 m19 (vp_updL m20 m22.toNatClampNeg r4.1) (vp_updL m21 m22.toNatClampNeg r4.2) v6 0 r4.1 r4.2 m26 m27) H := hP
      replace hD : va_D A (wMc cI cJ adm m0 m1 m2 m3 m4 m5 m6 m7 m8 m9 m10 m11 m12 m13 m14 m15 m16 m17 m18 m19 (vp_updL m20 m22.toNatClampNeg r4.1) (vp_updL m21 m22.toNatClampNeg r4.2) v6 0 r4.1 r4.2 m26 m27) := hD
      refine lv_aload_n hx hb dX3_measure_68 rfl (lv_at hl 0 rfl) ?_
      refine va_get (D := D) (ci := 3) (v := .int v6) (C := RX3) (T := TX3) (N := 28) hx hb hts hinX3 hown hK.1 hP 0 rfl rfl 22 (by decide) hw1 (fun _ h9 => h9) rfl dX3_measure_69 ?_
      obtain rfl := Option.some.inj hf
      exact retI hx hb hr hlocks hP hD hS dX3_measure_72
    · replace hf := ifN q3 hf
      refine lv_iconst (v := (-1)) hx hb dX3_measure_22 (by decide) ?_
      obtain rfl := Option.some.inj hf
      exact retI hx hb hr hlocks hP hD hS dX3_measure_23

def f_X3_faults (m0 : Ar) (m1 : Ar) (m2 : Ar) (m3 : Ar) (m4 : Int32) (m5 : Ar) (m6 : Int32) (m7 : Al) (m8 : Al) (m9 : Al) (m10 : Ar) (m11 : Ar) (m12 : Al) (m13 : Al) (m14 : Int32) (m18 : Ar) (m19 : Int32) (m20 : Al) (m21 : Al) (m22 : Int32) (m24 : Int64) (m25 : Int64) (m26 : Int32) (m27 : Int32) (p1 : Int32) : Option (Int32 × Ar × Ar × Al × Al × Al × Ar × Ar × Al × Al × Int32 × Int32 × Int64 × Int64 × Int32 × Int32) :=
(f_X3_isCell m4 p1).bind (fun r1 =>
if (b2i r1) = 0 then
some ((-1), m2, m3, m7, m8, m9, m10, m11, m12, m13, m14, 0, m24, m25, m26, m27)
else
(f_X3_explaining m0 m1 m2 m3 m4 m5 m6 m7 m8 m9 m10 m11 m12 m13 m14 m18 m19 m20 m21 m22 m24 m25 m26 m27 p1 ((-1))).bind (fun r3 =>
some (r3.1, r3.2.1, r3.2.2.1, r3.2.2.2.1, r3.2.2.2.2.1, r3.2.2.2.2.2.1, r3.2.2.2.2.2.2.1, r3.2.2.2.2.2.2.2.1, r3.2.2.2.2.2.2.2.2.1, r3.2.2.2.2.2.2.2.2.2.1, r3.2.2.2.2.2.2.2.2.2.2.1, 0, r3.2.2.2.2.2.2.2.2.2.2.2.1, r3.2.2.2.2.2.2.2.2.2.2.2.2.1, r3.2.2.2.2.2.2.2.2.2.2.2.2.2.1, r3.2.2.2.2.2.2.2.2.2.2.2.2.2.2)))
abbrev rmX3_faults : Room := { frames := 127, cells := 0, slots := 0, locals := 2947 }
set_option maxHeartbeats 40000000 in
set_option maxRecDepth 100000 in
theorem c_X3_faults (l : Launch) (D : va_G) (cI cJ cZ : ClassId) (adm : Nat → Nat) (m0 : Ar) (m1 : Ar) (m2 : Ar) (m3 : Ar) (m4 : Int32) (m5 : Ar) (m6 : Int32) (m7 : Al) (m8 : Al) (m9 : Al) (m10 : Ar) (m11 : Ar) (m12 : Al) (m13 : Al) (m14 : Int32) (m15 : Al) (m16 : Int32) (m17 : Al) (m18 : Ar) (m19 : Int32) (m20 : Al) (m21 : Al) (m22 : Int32) (m23 : Int32) (m24 : Int64) (m25 : Int64) (m26 : Int32) (m27 : Int32) (p1 : Int32) (o : (Int32 × Ar × Ar × Al × Al × Al × Ar × Ar × Al × Al × Int32 × Int32 × Int64 × Int64 × Int32 × Int32)) (hf : f_X3_faults m0 m1 m2 m3 m4 m5 m6 m7 m8 m9 m10 m11 m12 m13 m14 m18 m19 m20 m21 m22 m24 m25 m26 m27 p1 = some o) : CtI l yX3_faults wsX3_faults rmX3_faults D cI cJ cZ [.ref (adm 0), .int p1] (wMc cI cJ adm m0 m1 m2 m3 m4 m5 m6 m7 m8 m9 m10 m11 m12 m13 m14 m15 m16 m17 m18 m19 m20 m21 m22 m23 m24 m25 m26 m27) (wMc cI cJ adm m0 m1 o.2.1 o.2.2.1 m4 m5 m6 o.2.2.2.1 o.2.2.2.2.1 o.2.2.2.2.2.1 o.2.2.2.2.2.2.1 o.2.2.2.2.2.2.2.1 o.2.2.2.2.2.2.2.2.1 o.2.2.2.2.2.2.2.2.2.1 o.2.2.2.2.2.2.2.2.2.2.1 m15 m16 m17 m18 m19 m20 m21 m22 o.2.2.2.2.2.2.2.2.2.2.2.1 o.2.2.2.2.2.2.2.2.2.2.2.2.1 o.2.2.2.2.2.2.2.2.2.2.2.2.2.1 o.2.2.2.2.2.2.2.2.2.2.2.2.2.2.1 o.2.2.2.2.2.2.2.2.2.2.2.2.2.2.2) o.1 := by
  intro sz
  refine Met.ofW (cc := cX3_faults) (maxL := 2) (ret := (some .int)) (by decide) rfl ?_
  intro p e s m args below meth c s₁ B hml hv
  obtain ⟨rfl, hsz, hP, hK, hD0⟩ := hv
  have hx := B.exec
  have hb := B.bytes
  have hr := B.returns
  have hts := atoms_spec (ws := wsX3_faults) B.pre
  have hown : s.vm.findClass RX3 = some m.cls := findClass_of_methodNamed B.named
  have hlocks := B.notSynchronized
  subst hsz
  have hD := hD0.self (sz := s.heap.size)
  clear hD0
  generalize hAe : va_A (wMc cI cJ adm m0 m1 m2 m3 m4 m5 m6 m7 m8 m9 m10 m11 m12 m13 m14 m15 m16 m17 m18 m19 m20 m21 m22 m23 m24 m25 m26 m27) s.heap.size = A at hD ⊢
  have hA : ∀ q : Nat, s.heap.size ≤ q → A q := fun q h => by rw [← hAe]; exact Or.inr h
  have hS : va_S A s.heap s.heap [] := va_S.rf
  have hinX3 : ∀ w ∈ wsX30, w ∈ wsX3_faults := by decide +kernel
  have hw0 : (Cond.fieldLink RX3 69 "SwingCircuitsModel" "thrown" "I").before _ s = true := hts _ (by decide +kernel)
  have hl := lv_entry ([.ref (adm 0), .int p1]) (n := 2) (Nat.le_of_ble_eq_true rfl)
  rw [lg_entry_eq]
  generalize (lg_sl ([.ref (adm 0), .int p1]) ++ List.replicate (2 - (lg_sl ([.ref (adm 0), .int p1])).length) Slot.unset).toArray = ls at hl ⊢
  replace hl : lv_has ls 2 [(0, .ref (adm 0)), (1, .int p1)] := hl
  unfold f_X3_faults at hf
  refine lv_aload_n hx hb dX3_faults_0 rfl (lv_at hl 0 rfl) ?_
  refine lv_iconst (v := 0) hx hb dX3_faults_1 (by decide) ?_
  refine va_put (D := D) (ci := 3) (v := .int 0) (ty := .int) (C := RX3) (T := TX3) (N := 28) hx hb hts hinX3 tyX3 tyX3_ok nmX3 hown hK.1 hP hD hS 0 rfl rfl 23 (by decide) hw0 (fun _ h9 => h9) rfl (by decide +kernel) rfl rfl (Nat.le_of_ble_eq_true rfl) dX3_faults_2 (fun H locs hP hD hS => ?_)
  replace hP : va_P D vwCl (wMc cI cJ adm m0 m1 m2 m3 m4 m5 m6 m7 m8 m9 m10 m11 m12 m13 m14 m15 m16 m17 m18 m19 m20 m21 m22 0 m24 m25 m26 m27) H := hP
  replace hD : va_D A (wMc cI cJ adm m0 m1 m2 m3 m4 m5 m6 m7 m8 m9 m10 m11 m12 m13 m14 m15 m16 m17 m18 m19 m20 m21 m22 0 m24 m25 m26 m27) := hD
  refine lv_aload_n hx hb dX3_faults_5 rfl (lv_at hl 0 rfl) ?_
  refine lv_iload_n hx hb dX3_faults_6 rfl (lv_at hl 1 rfl) ?_
  replace hf := bdE hf
  obtain ⟨r1, hgr1, hf⟩ := hf
  refine xIw (va_runV (As := [.int p1]) (rest := []) ⟨hx, hb, hml, hown, hts⟩ (c_X3_isCell l D cI cJ cZ adm m0 m1 m2 m3 m4 m5 m6 m7 m8 m9 m10 m11 m12 m13 m14 m15 m16 m17 m18 m19 m20 m21 m22 0 m24 m25 m26 m27 p1 r1 hgr1 _) (cwV 1 hts gX3_faults_X3_isCell rfl rfl rfl (by decide +kernel) ⟨Nat.le_of_ble_eq_true rfl, Nat.le_of_ble_eq_true rfl⟩) ⟨PreW.blind, xRecv (q0 := 0) hK hP rfl rfl, (xPrew hK hP hD _)⟩ rfl rfl hl.1 rfl (lv_room (Nat.le_of_ble_eq_true rfl)) dX3_faults_7 ⟨Nat.le_of_ble_eq_true rfl, Nat.le_of_ble_eq_true rfl⟩) hD hS hA (fun H locs hP hD hS => ?_)
  replace hP : va_P D vwCl (wMc cI cJ adm m0 m1 m2 m3 m4 m5 m6 m7 m8 m9 m10 m11 m12 m13 m14 m15 m16 m17 m18 m19 m20 m21 m22 0 m24 m25 m26 m27) H := hP
  replace hD : va_D A (wMc cI cJ adm m0 m1 m2 m3 m4 m5 m6 m7 m8 m9 m10 m11 m12 m13 m14 m15 m16 m17 m18 m19 m20 m21 m22 0 m24 m25 m26 m27) := hD
  refine lv_if_eq (tgt := 22) hx hb dX3_faults_10 (by decide) (fun q2 => ?_) (fun q2 => ?_)
  · replace hf := ifT q2 hf
    refine lv_iconst (v := (-1)) hx hb dX3_faults_22 (by decide) ?_
    obtain rfl := Option.some.inj hf
    exact retI hx hb hr hlocks hP hD hS dX3_faults_23
  · replace hf := ifF q2 hf
    refine lv_aload_n hx hb dX3_faults_13 rfl (lv_at hl 0 rfl) ?_
    refine lv_iload_n hx hb dX3_faults_14 rfl (lv_at hl 1 rfl) ?_
    refine lv_iconst (v := (-1)) hx hb dX3_faults_15 (by decide) ?_
    replace hf := bdE hf
    obtain ⟨r3, hgr3, hf⟩ := hf
    refine xIw (va_runV (As := [.int p1, .int ((-1))]) (rest := []) ⟨hx, hb, hml, hown, hts⟩ (c_X3_explaining l D cI cJ cZ adm m0 m1 m2 m3 m4 m5 m6 m7 m8 m9 m10 m11 m12 m13 m14 m15 m16 m17 m18 m19 m20 m21 m22 0 m24 m25 m26 m27 p1 ((-1)) r3 hgr3 _) (cwV 2 hts gX3_faults_X3_explaining rfl rfl rfl (by decide +kernel) ⟨Nat.le_of_ble_eq_true rfl, Nat.le_of_ble_eq_true rfl⟩) ⟨PreW.blind, xRecv (q0 := 0) hK hP rfl rfl, (xPrew hK hP hD _)⟩ rfl rfl hl.1 rfl (lv_room (Nat.le_of_ble_eq_true rfl)) dX3_faults_16 ⟨Nat.le_of_ble_eq_true rfl, Nat.le_of_ble_eq_true rfl⟩) hD hS hA (fun H locs hP hD hS => ?_)
    replace hP : va_P D vwCl (wMc cI cJ adm m0 m1 r3.2.1 r3.2.2.1 m4 m5 m6 r3.2.2.2.1 r3.2.2.2.2.1 r3.2.2.2.2.2.1 r3.2.2.2.2.2.2.1 r3.2.2.2.2.2.2.2.1 r3.2.2.2.2.2.2.2.2.1 r3.2.2.2.2.2.2.2.2.2.1 r3.2.2.2.2.2.2.2.2.2.2.1 m15 m16 m17 m18 m19 m20 m21 m22 0 r3.2.2.2.2.2.2.2.2.2.2.2.1 r3.2.2.2.2.2.2.2.2.2.2.2.2.1 r3.2.2.2.2.2.2.2.2.2.2.2.2.2.1 r3.2.2.2.2.2.2.2.2.2.2.2.2.2.2) H := hP
    replace hD : va_D A (wMc cI cJ adm m0 m1 r3.2.1 r3.2.2.1 m4 m5 m6 r3.2.2.2.1 r3.2.2.2.2.1 r3.2.2.2.2.2.1 r3.2.2.2.2.2.2.1 r3.2.2.2.2.2.2.2.1 r3.2.2.2.2.2.2.2.2.1 r3.2.2.2.2.2.2.2.2.2.1 r3.2.2.2.2.2.2.2.2.2.2.1 m15 m16 m17 m18 m19 m20 m21 m22 0 r3.2.2.2.2.2.2.2.2.2.2.2.1 r3.2.2.2.2.2.2.2.2.2.2.2.2.1 r3.2.2.2.2.2.2.2.2.2.2.2.2.2.1 r3.2.2.2.2.2.2.2.2.2.2.2.2.2.2) := hD
    refine lv_goto (tgt := 23) hx hb dX3_faults_19 (by decide) ?_
    obtain rfl := Option.some.inj hf
    exact retI hx hb hr hlocks hP hD hS dX3_faults_23

def f_X3_fault (m0 : Ar) (m1 : Ar) (m2 : Ar) (m3 : Ar) (m4 : Int32) (m5 : Ar) (m6 : Int32) (m7 : Al) (m8 : Al) (m9 : Al) (m10 : Ar) (m11 : Ar) (m12 : Al) (m13 : Al) (m14 : Int32) (m18 : Ar) (m19 : Int32) (m20 : Al) (m21 : Al) (m22 : Int32) (m24 : Int64) (m25 : Int64) (m26 : Int32) (m27 : Int32) (p1 : Int32) (p2 : Int32) : Option (Int32 × Ar × Ar × Al × Al × Al × Ar × Ar × Al × Al × Int32 × Int32 × Int64 × Int64 × Int32 × Int32) :=
(f_X3_isCell m4 p1).bind (fun r1 =>
if (b2i r1) = 0 then
some ((-1), m2, m3, m7, m8, m9, m10, m11, m12, m13, m14, 0, m24, m25, m26, m27)
else
if p2 < 0 then
some ((-1), m2, m3, m7, m8, m9, m10, m11, m12, m13, m14, 0, m24, m25, m26, m27)
else
(f_X3_explaining m0 m1 m2 m3 m4 m5 m6 m7 m8 m9 m10 m11 m12 m13 m14 m18 m19 m20 m21 m22 m24 m25 m26 m27 p1 p2).bind (fun r4 =>
some (r4.1, r4.2.1, r4.2.2.1, r4.2.2.2.1, r4.2.2.2.2.1, r4.2.2.2.2.2.1, r4.2.2.2.2.2.2.1, r4.2.2.2.2.2.2.2.1, r4.2.2.2.2.2.2.2.2.1, r4.2.2.2.2.2.2.2.2.2.1, r4.2.2.2.2.2.2.2.2.2.2.1, 0, r4.2.2.2.2.2.2.2.2.2.2.2.1, r4.2.2.2.2.2.2.2.2.2.2.2.2.1, r4.2.2.2.2.2.2.2.2.2.2.2.2.2.1, r4.2.2.2.2.2.2.2.2.2.2.2.2.2.2)))
abbrev rmX3_fault : Room := { frames := 127, cells := 0, slots := 0, locals := 2947 }
set_option maxHeartbeats 40000000 in
set_option maxRecDepth 100000 in
theorem c_X3_fault (l : Launch) (D : va_G) (cI cJ cZ : ClassId) (adm : Nat → Nat) (m0 : Ar) (m1 : Ar) (m2 : Ar) (m3 : Ar) (m4 : Int32) (m5 : Ar) (m6 : Int32) (m7 : Al) (m8 : Al) (m9 : Al) (m10 : Ar) (m11 : Ar) (m12 : Al) (m13 : Al) (m14 : Int32) (m15 : Al) (m16 : Int32) (m17 : Al) (m18 : Ar) (m19 : Int32) (m20 : Al) (m21 : Al) (m22 : Int32) (m23 : Int32) (m24 : Int64) (m25 : Int64) (m26 : Int32) (m27 : Int32) (p1 : Int32) (p2 : Int32) (o : (Int32 × Ar × Ar × Al × Al × Al × Ar × Ar × Al × Al × Int32 × Int32 × Int64 × Int64 × Int32 × Int32)) (hf : f_X3_fault m0 m1 m2 m3 m4 m5 m6 m7 m8 m9 m10 m11 m12 m13 m14 m18 m19 m20 m21 m22 m24 m25 m26 m27 p1 p2 = some o) : CtI l yX3_fault wsX3_fault rmX3_fault D cI cJ cZ [.ref (adm 0), .int p1, .int p2] (wMc cI cJ adm m0 m1 m2 m3 m4 m5 m6 m7 m8 m9 m10 m11 m12 m13 m14 m15 m16 m17 m18 m19 m20 m21 m22 m23 m24 m25 m26 m27) (wMc cI cJ adm m0 m1 o.2.1 o.2.2.1 m4 m5 m6 o.2.2.2.1 o.2.2.2.2.1 o.2.2.2.2.2.1 o.2.2.2.2.2.2.1 o.2.2.2.2.2.2.2.1 o.2.2.2.2.2.2.2.2.1 o.2.2.2.2.2.2.2.2.2.1 o.2.2.2.2.2.2.2.2.2.2.1 m15 m16 m17 m18 m19 m20 m21 m22 o.2.2.2.2.2.2.2.2.2.2.2.1 o.2.2.2.2.2.2.2.2.2.2.2.2.1 o.2.2.2.2.2.2.2.2.2.2.2.2.2.1 o.2.2.2.2.2.2.2.2.2.2.2.2.2.2.1 o.2.2.2.2.2.2.2.2.2.2.2.2.2.2.2) o.1 := by
  intro sz
  refine Met.ofW (cc := cX3_fault) (maxL := 3) (ret := (some .int)) (by decide) rfl ?_
  intro p e s m args below meth c s₁ B hml hv
  obtain ⟨rfl, hsz, hP, hK, hD0⟩ := hv
  have hx := B.exec
  have hb := B.bytes
  have hr := B.returns
  have hts := atoms_spec (ws := wsX3_fault) B.pre
  have hown : s.vm.findClass RX3 = some m.cls := findClass_of_methodNamed B.named
  have hlocks := B.notSynchronized
  subst hsz
  have hD := hD0.self (sz := s.heap.size)
  clear hD0
  generalize hAe : va_A (wMc cI cJ adm m0 m1 m2 m3 m4 m5 m6 m7 m8 m9 m10 m11 m12 m13 m14 m15 m16 m17 m18 m19 m20 m21 m22 m23 m24 m25 m26 m27) s.heap.size = A at hD ⊢
  have hA : ∀ q : Nat, s.heap.size ≤ q → A q := fun q h => by rw [← hAe]; exact Or.inr h
  have hS : va_S A s.heap s.heap [] := va_S.rf
  have hinX3 : ∀ w ∈ wsX30, w ∈ wsX3_fault := by decide +kernel
  have hw0 : (Cond.fieldLink RX3 69 "SwingCircuitsModel" "thrown" "I").before _ s = true := hts _ (by decide +kernel)
  have hl := lv_entry ([.ref (adm 0), .int p1, .int p2]) (n := 3) (Nat.le_of_ble_eq_true rfl)
  rw [lg_entry_eq]
  generalize (lg_sl ([.ref (adm 0), .int p1, .int p2]) ++ List.replicate (3 - (lg_sl ([.ref (adm 0), .int p1, .int p2])).length) Slot.unset).toArray = ls at hl ⊢
  replace hl : lv_has ls 3 [(0, .ref (adm 0)), (1, .int p1), (2, .int p2)] := hl
  unfold f_X3_fault at hf
  refine lv_aload_n hx hb dX3_fault_0 rfl (lv_at hl 0 rfl) ?_
  refine lv_iconst (v := 0) hx hb dX3_fault_1 (by decide) ?_
  refine va_put (D := D) (ci := 3) (v := .int 0) (ty := .int) (C := RX3) (T := TX3) (N := 28) hx hb hts hinX3 tyX3 tyX3_ok nmX3 hown hK.1 hP hD hS 0 rfl rfl 23 (by decide) hw0 (fun _ h9 => h9) rfl (by decide +kernel) rfl rfl (Nat.le_of_ble_eq_true rfl) dX3_fault_2 (fun H locs hP hD hS => ?_)
  replace hP : va_P D vwCl (wMc cI cJ adm m0 m1 m2 m3 m4 m5 m6 m7 m8 m9 m10 m11 m12 m13 m14 m15 m16 m17 m18 m19 m20 m21 m22 0 m24 m25 m26 m27) H := hP
  replace hD : va_D A (wMc cI cJ adm m0 m1 m2 m3 m4 m5 m6 m7 m8 m9 m10 m11 m12 m13 m14 m15 m16 m17 m18 m19 m20 m21 m22 0 m24 m25 m26 m27) := hD
  refine lv_aload_n hx hb dX3_fault_5 rfl (lv_at hl 0 rfl) ?_
  refine lv_iload_n hx hb dX3_fault_6 rfl (lv_at hl 1 rfl) ?_
  replace hf := bdE hf
  obtain ⟨r1, hgr1, hf⟩ := hf
  refine xIw (va_runV (As := [.int p1]) (rest := []) ⟨hx, hb, hml, hown, hts⟩ (c_X3_isCell l D cI cJ cZ adm m0 m1 m2 m3 m4 m5 m6 m7 m8 m9 m10 m11 m12 m13 m14 m15 m16 m17 m18 m19 m20 m21 m22 0 m24 m25 m26 m27 p1 r1 hgr1 _) (cwV 1 hts gX3_fault_X3_isCell rfl rfl rfl (by decide +kernel) ⟨Nat.le_of_ble_eq_true rfl, Nat.le_of_ble_eq_true rfl⟩) ⟨PreW.blind, xRecv (q0 := 0) hK hP rfl rfl, (xPrew hK hP hD _)⟩ rfl rfl hl.1 rfl (lv_room (Nat.le_of_ble_eq_true rfl)) dX3_fault_7 ⟨Nat.le_of_ble_eq_true rfl, Nat.le_of_ble_eq_true rfl⟩) hD hS hA (fun H locs hP hD hS => ?_)
  replace hP : va_P D vwCl (wMc cI cJ adm m0 m1 m2 m3 m4 m5 m6 m7 m8 m9 m10 m11 m12 m13 m14 m15 m16 m17 m18 m19 m20 m21 m22 0 m24 m25 m26 m27) H := hP
  replace hD : va_D A (wMc cI cJ adm m0 m1 m2 m3 m4 m5 m6 m7 m8 m9 m10 m11 m12 m13 m14 m15 m16 m17 m18 m19 m20 m21 m22 0 m24 m25 m26 m27) := hD
  refine lv_if_eq (tgt := 26) hx hb dX3_fault_10 (by decide) (fun q2 => ?_) (fun q2 => ?_)
  · replace hf := ifT q2 hf
    refine lv_iconst (v := (-1)) hx hb dX3_fault_26 (by decide) ?_
    obtain rfl := Option.some.inj hf
    exact retI hx hb hr hlocks hP hD hS dX3_fault_27
  · replace hf := ifF q2 hf
    refine lv_iload_n hx hb dX3_fault_13 rfl (lv_at hl 2 rfl) ?_
    refine lv_if_lt (tgt := 26) hx hb dX3_fault_14 (by decide) (fun q3 => ?_) (fun q3 => ?_)
    · replace hf := ifT q3 hf
      refine lv_iconst (v := (-1)) hx hb dX3_fault_26 (by decide) ?_
      obtain rfl := Option.some.inj hf
      exact retI hx hb hr hlocks hP hD hS dX3_fault_27
    · replace hf := ifF q3 hf
      refine lv_aload_n hx hb dX3_fault_17 rfl (lv_at hl 0 rfl) ?_
      refine lv_iload_n hx hb dX3_fault_18 rfl (lv_at hl 1 rfl) ?_
      refine lv_iload_n hx hb dX3_fault_19 rfl (lv_at hl 2 rfl) ?_
      replace hf := bdE hf
      obtain ⟨r4, hgr4, hf⟩ := hf
      refine xIw (va_runV (As := [.int p1, .int p2]) (rest := []) ⟨hx, hb, hml, hown, hts⟩ (c_X3_explaining l D cI cJ cZ adm m0 m1 m2 m3 m4 m5 m6 m7 m8 m9 m10 m11 m12 m13 m14 m15 m16 m17 m18 m19 m20 m21 m22 0 m24 m25 m26 m27 p1 p2 r4 hgr4 _) (cwV 2 hts gX3_fault_X3_explaining rfl rfl rfl (by decide +kernel) ⟨Nat.le_of_ble_eq_true rfl, Nat.le_of_ble_eq_true rfl⟩) ⟨PreW.blind, xRecv (q0 := 0) hK hP rfl rfl, (xPrew hK hP hD _)⟩ rfl rfl hl.1 rfl (lv_room (Nat.le_of_ble_eq_true rfl)) dX3_fault_20 ⟨Nat.le_of_ble_eq_true rfl, Nat.le_of_ble_eq_true rfl⟩) hD hS hA (fun H locs hP hD hS => ?_)
      replace hP : va_P D vwCl (wMc cI cJ adm m0 m1 r4.2.1 r4.2.2.1 m4 m5 m6 r4.2.2.2.1 r4.2.2.2.2.1 r4.2.2.2.2.2.1 r4.2.2.2.2.2.2.1 r4.2.2.2.2.2.2.2.1 r4.2.2.2.2.2.2.2.2.1 r4.2.2.2.2.2.2.2.2.2.1 r4.2.2.2.2.2.2.2.2.2.2.1 m15 m16 m17 m18 m19 m20 m21 m22 0 r4.2.2.2.2.2.2.2.2.2.2.2.1 r4.2.2.2.2.2.2.2.2.2.2.2.2.1 r4.2.2.2.2.2.2.2.2.2.2.2.2.2.1 r4.2.2.2.2.2.2.2.2.2.2.2.2.2.2) H := hP
      replace hD : va_D A (wMc cI cJ adm m0 m1 r4.2.1 r4.2.2.1 m4 m5 m6 r4.2.2.2.1 r4.2.2.2.2.1 r4.2.2.2.2.2.1 r4.2.2.2.2.2.2.1 r4.2.2.2.2.2.2.2.1 r4.2.2.2.2.2.2.2.2.1 r4.2.2.2.2.2.2.2.2.2.1 r4.2.2.2.2.2.2.2.2.2.2.1 m15 m16 m17 m18 m19 m20 m21 m22 0 r4.2.2.2.2.2.2.2.2.2.2.2.1 r4.2.2.2.2.2.2.2.2.2.2.2.2.1 r4.2.2.2.2.2.2.2.2.2.2.2.2.2.1 r4.2.2.2.2.2.2.2.2.2.2.2.2.2.2) := hD
      refine lv_goto (tgt := 27) hx hb dX3_fault_23 (by decide) ?_
      obtain rfl := Option.some.inj hf
      exact retI hx hb hr hlocks hP hD hS dX3_fault_27

def f_X3_fits (m0 : Ar) (m1 : Ar) (m2 : Ar) (m3 : Ar) (m4 : Int32) (m5 : Ar) (m6 : Int32) (m7 : Al) (m8 : Al) (m9 : Al) (m10 : Ar) (m11 : Ar) (m12 : Al) (m13 : Al) (m14 : Int32) (m20 : Al) (m21 : Al) (m22 : Int32) (m24 : Int64) (m25 : Int64) (m26 : Int32) (m27 : Int32) (p1 : Int32) : Option (Int32 × Al × Al × Al × Ar × Ar × Al × Al × Int32 × Int32 × Int64 × Int64 × Int32 × Int32) :=
(f_X3_isCell m4 p1).bind (fun r1 =>
if (b2i r1) = 0 then
some ((-1), m7, m8, m9, m10, m11, m12, m13, m14, 0, m24, m25, m26, m27)
else
(f_X3_isSo m0 m1 m2 m3 m4 m5 m6 m7 m8 m9 m10 m11 m12 m13 m14 m20 m21 m22 m24 m25 m26 m27 p1).bind (fun r3 =>
if (b2i r3.1) = 0 then
some (0, r3.2.1, r3.2.2.1, r3.2.2.2.1, r3.2.2.2.2.1, r3.2.2.2.2.2.1, r3.2.2.2.2.2.2.1, r3.2.2.2.2.2.2.2.1, r3.2.2.2.2.2.2.2.2.1, 0, r3.2.2.2.2.2.2.2.2.2.1, r3.2.2.2.2.2.2.2.2.2.2.1, r3.2.2.2.2.2.2.2.2.2.2.2.1, r3.2.2.2.2.2.2.2.2.2.2.2.2)
else
some (1, r3.2.1, r3.2.2.1, r3.2.2.2.1, r3.2.2.2.2.1, r3.2.2.2.2.2.1, r3.2.2.2.2.2.2.1, r3.2.2.2.2.2.2.2.1, r3.2.2.2.2.2.2.2.2.1, 0, r3.2.2.2.2.2.2.2.2.2.1, r3.2.2.2.2.2.2.2.2.2.2.1, r3.2.2.2.2.2.2.2.2.2.2.2.1, r3.2.2.2.2.2.2.2.2.2.2.2.2)))
abbrev rmX3_fits : Room := { frames := 125, cells := 0, slots := 0, locals := 2895 }
set_option maxHeartbeats 40000000 in
set_option maxRecDepth 100000 in
theorem c_X3_fits (l : Launch) (D : va_G) (cI cJ cZ : ClassId) (adm : Nat → Nat) (m0 : Ar) (m1 : Ar) (m2 : Ar) (m3 : Ar) (m4 : Int32) (m5 : Ar) (m6 : Int32) (m7 : Al) (m8 : Al) (m9 : Al) (m10 : Ar) (m11 : Ar) (m12 : Al) (m13 : Al) (m14 : Int32) (m15 : Al) (m16 : Int32) (m17 : Al) (m18 : Ar) (m19 : Int32) (m20 : Al) (m21 : Al) (m22 : Int32) (m23 : Int32) (m24 : Int64) (m25 : Int64) (m26 : Int32) (m27 : Int32) (p1 : Int32) (o : (Int32 × Al × Al × Al × Ar × Ar × Al × Al × Int32 × Int32 × Int64 × Int64 × Int32 × Int32)) (hf : f_X3_fits m0 m1 m2 m3 m4 m5 m6 m7 m8 m9 m10 m11 m12 m13 m14 m20 m21 m22 m24 m25 m26 m27 p1 = some o) : CtI l yX3_fits wsX3_fits rmX3_fits D cI cJ cZ [.ref (adm 0), .int p1] (wMc cI cJ adm m0 m1 m2 m3 m4 m5 m6 m7 m8 m9 m10 m11 m12 m13 m14 m15 m16 m17 m18 m19 m20 m21 m22 m23 m24 m25 m26 m27) (wMc cI cJ adm m0 m1 m2 m3 m4 m5 m6 o.2.1 o.2.2.1 o.2.2.2.1 o.2.2.2.2.1 o.2.2.2.2.2.1 o.2.2.2.2.2.2.1 o.2.2.2.2.2.2.2.1 o.2.2.2.2.2.2.2.2.1 m15 m16 m17 m18 m19 m20 m21 m22 o.2.2.2.2.2.2.2.2.2.1 o.2.2.2.2.2.2.2.2.2.2.1 o.2.2.2.2.2.2.2.2.2.2.2.1 o.2.2.2.2.2.2.2.2.2.2.2.2.1 o.2.2.2.2.2.2.2.2.2.2.2.2.2) o.1 := by
  intro sz
  refine Met.ofW (cc := cX3_fits) (maxL := 2) (ret := (some .int)) (by decide) rfl ?_
  intro p e s m args below meth c s₁ B hml hv
  obtain ⟨rfl, hsz, hP, hK, hD0⟩ := hv
  have hx := B.exec
  have hb := B.bytes
  have hr := B.returns
  have hts := atoms_spec (ws := wsX3_fits) B.pre
  have hown : s.vm.findClass RX3 = some m.cls := findClass_of_methodNamed B.named
  have hlocks := B.notSynchronized
  subst hsz
  have hD := hD0.self (sz := s.heap.size)
  clear hD0
  generalize hAe : va_A (wMc cI cJ adm m0 m1 m2 m3 m4 m5 m6 m7 m8 m9 m10 m11 m12 m13 m14 m15 m16 m17 m18 m19 m20 m21 m22 m23 m24 m25 m26 m27) s.heap.size = A at hD ⊢
  have hA : ∀ q : Nat, s.heap.size ≤ q → A q := fun q h => by rw [← hAe]; exact Or.inr h
  have hS : va_S A s.heap s.heap [] := va_S.rf
  have hinX3 : ∀ w ∈ wsX30, w ∈ wsX3_fits := by decide +kernel
  have hw0 : (Cond.fieldLink RX3 69 "SwingCircuitsModel" "thrown" "I").before _ s = true := hts _ (by decide +kernel)
  have hl := lv_entry ([.ref (adm 0), .int p1]) (n := 2) (Nat.le_of_ble_eq_true rfl)
  rw [lg_entry_eq]
  generalize (lg_sl ([.ref (adm 0), .int p1]) ++ List.replicate (2 - (lg_sl ([.ref (adm 0), .int p1])).length) Slot.unset).toArray = ls at hl ⊢
  replace hl : lv_has ls 2 [(0, .ref (adm 0)), (1, .int p1)] := hl
  unfold f_X3_fits at hf
  refine lv_aload_n hx hb dX3_fits_0 rfl (lv_at hl 0 rfl) ?_
  refine lv_iconst (v := 0) hx hb dX3_fits_1 (by decide) ?_
  refine va_put (D := D) (ci := 3) (v := .int 0) (ty := .int) (C := RX3) (T := TX3) (N := 28) hx hb hts hinX3 tyX3 tyX3_ok nmX3 hown hK.1 hP hD hS 0 rfl rfl 23 (by decide) hw0 (fun _ h9 => h9) rfl (by decide +kernel) rfl rfl (Nat.le_of_ble_eq_true rfl) dX3_fits_2 (fun H locs hP hD hS => ?_)
  replace hP : va_P D vwCl (wMc cI cJ adm m0 m1 m2 m3 m4 m5 m6 m7 m8 m9 m10 m11 m12 m13 m14 m15 m16 m17 m18 m19 m20 m21 m22 0 m24 m25 m26 m27) H := hP
  replace hD : va_D A (wMc cI cJ adm m0 m1 m2 m3 m4 m5 m6 m7 m8 m9 m10 m11 m12 m13 m14 m15 m16 m17 m18 m19 m20 m21 m22 0 m24 m25 m26 m27) := hD
  refine lv_aload_n hx hb dX3_fits_5 rfl (lv_at hl 0 rfl) ?_
  refine lv_iload_n hx hb dX3_fits_6 rfl (lv_at hl 1 rfl) ?_
  replace hf := bdE hf
  obtain ⟨r1, hgr1, hf⟩ := hf
  refine xIw (va_runV (As := [.int p1]) (rest := []) ⟨hx, hb, hml, hown, hts⟩ (c_X3_isCell l D cI cJ cZ adm m0 m1 m2 m3 m4 m5 m6 m7 m8 m9 m10 m11 m12 m13 m14 m15 m16 m17 m18 m19 m20 m21 m22 0 m24 m25 m26 m27 p1 r1 hgr1 _) (cwV 1 hts gX3_fits_X3_isCell rfl rfl rfl (by decide +kernel) ⟨Nat.le_of_ble_eq_true rfl, Nat.le_of_ble_eq_true rfl⟩) ⟨PreW.blind, xRecv (q0 := 0) hK hP rfl rfl, (xPrew hK hP hD _)⟩ rfl rfl hl.1 rfl (lv_room (Nat.le_of_ble_eq_true rfl)) dX3_fits_7 ⟨Nat.le_of_ble_eq_true rfl, Nat.le_of_ble_eq_true rfl⟩) hD hS hA (fun H locs hP hD hS => ?_)
  replace hP : va_P D vwCl (wMc cI cJ adm m0 m1 m2 m3 m4 m5 m6 m7 m8 m9 m10 m11 m12 m13 m14 m15 m16 m17 m18 m19 m20 m21 m22 0 m24 m25 m26 m27) H := hP
  replace hD : va_D A (wMc cI cJ adm m0 m1 m2 m3 m4 m5 m6 m7 m8 m9 m10 m11 m12 m13 m14 m15 m16 m17 m18 m19 m20 m21 m22 0 m24 m25 m26 m27) := hD
  refine lv_if_eq (tgt := 29) hx hb dX3_fits_10 (by decide) (fun q2 => ?_) (fun q2 => ?_)
  · replace hf := ifT q2 hf
    refine lv_iconst (v := (-1)) hx hb dX3_fits_29 (by decide) ?_
    obtain rfl := Option.some.inj hf
    exact retI hx hb hr hlocks hP hD hS dX3_fits_30
  · replace hf := ifF q2 hf
    refine lv_aload_n hx hb dX3_fits_13 rfl (lv_at hl 0 rfl) ?_
    refine lv_iload_n hx hb dX3_fits_14 rfl (lv_at hl 1 rfl) ?_
    replace hf := bdE hf
    obtain ⟨r3, hgr3, hf⟩ := hf
    refine xIw (va_runV (As := [.int p1]) (rest := []) ⟨hx, hb, hml, hown, hts⟩ (c_X3_isSo l D cI cJ cZ adm m0 m1 m2 m3 m4 m5 m6 m7 m8 m9 m10 m11 m12 m13 m14 m15 m16 m17 m18 m19 m20 m21 m22 0 m24 m25 m26 m27 p1 r3 hgr3 _) (cwV 1 hts gX3_fits_X3_isSo rfl rfl rfl (by decide +kernel) ⟨Nat.le_of_ble_eq_true rfl, Nat.le_of_ble_eq_true rfl⟩) ⟨PreW.blind, xRecv (q0 := 0) hK hP rfl rfl, (xPrew hK hP hD _)⟩ rfl rfl hl.1 rfl (lv_room (Nat.le_of_ble_eq_true rfl)) dX3_fits_15 ⟨Nat.le_of_ble_eq_true rfl, Nat.le_of_ble_eq_true rfl⟩) hD hS hA (fun H locs hP hD hS => ?_)
    replace hP : va_P D vwCl (wMc cI cJ adm m0 m1 m2 m3 m4 m5 m6 r3.2.1 r3.2.2.1 r3.2.2.2.1 r3.2.2.2.2.1 r3.2.2.2.2.2.1 r3.2.2.2.2.2.2.1 r3.2.2.2.2.2.2.2.1 r3.2.2.2.2.2.2.2.2.1 m15 m16 m17 m18 m19 m20 m21 m22 0 r3.2.2.2.2.2.2.2.2.2.1 r3.2.2.2.2.2.2.2.2.2.2.1 r3.2.2.2.2.2.2.2.2.2.2.2.1 r3.2.2.2.2.2.2.2.2.2.2.2.2) H := hP
    replace hD : va_D A (wMc cI cJ adm m0 m1 m2 m3 m4 m5 m6 r3.2.1 r3.2.2.1 r3.2.2.2.1 r3.2.2.2.2.1 r3.2.2.2.2.2.1 r3.2.2.2.2.2.2.1 r3.2.2.2.2.2.2.2.1 r3.2.2.2.2.2.2.2.2.1 m15 m16 m17 m18 m19 m20 m21 m22 0 r3.2.2.2.2.2.2.2.2.2.1 r3.2.2.2.2.2.2.2.2.2.2.1 r3.2.2.2.2.2.2.2.2.2.2.2.1 r3.2.2.2.2.2.2.2.2.2.2.2.2) := hD
    refine lv_if_eq (tgt := 25) hx hb dX3_fits_18 (by decide) (fun q4 => ?_) (fun q4 => ?_)
    · replace hf := ifT q4 hf
      refine lv_iconst (v := 0) hx hb dX3_fits_25 (by decide) ?_
      refine lv_goto (tgt := 30) hx hb dX3_fits_26 (by decide) ?_
      obtain rfl := Option.some.inj hf
      exact retI hx hb hr hlocks hP hD hS dX3_fits_30
    · replace hf := ifF q4 hf
      refine lv_iconst (v := 1) hx hb dX3_fits_21 (by decide) ?_
      refine lv_goto (tgt := 30) hx hb dX3_fits_22 (by decide) ?_
      obtain rfl := Option.some.inj hf
      exact retI hx hb hr hlocks hP hD hS dX3_fits_30
