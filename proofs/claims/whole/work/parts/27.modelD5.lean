def f_X3_link_B133 (m0 : Ar) (m6 : Int32) (m7 : Al) (p1 : Int32) (p2 : Int32) (p3 : Int32) (p4 : Int32) (p5 : Int32) (p6 : Int32) (rec133 : Int32 → Ar → Option (Int32 × Ar × Int32 × Al × Int32)) (l8_133 : Int32) (m5_133 : Ar) : Option (Int32 × Ar × Int32 × Al × Int32) :=
if (6 : Int32) ≤ l8_133 then
bnd (m6 + 1) (fun v19 =>
(f_X3_resetAll m0 m7).bind (fun r20 =>
some (v19 - 1, m5_133, v19, r20, 0)))
else
gd (ib l8_133 6) (
bnd ((upd (upd (upd (upd (upd (upd (fun _ => 0) (0 : Int32).toNatClampNeg p1) (1 : Int32).toNatClampNeg p2) (2 : Int32).toNatClampNeg p3) (3 : Int32).toNatClampNeg p4) (4 : Int32).toNatClampNeg p5) (5 : Int32).toNatClampNeg p6) l8_133.toNatClampNeg) (fun v22 =>
gd (ib ((6 * m6) + l8_133) 48) (
rec133 (l8_133 + 1) (upd m5_133 ((6 * m6) + l8_133).toNatClampNeg v22))))
def f_X3_link_L133 (m0 : Ar) (m6 : Int32) (m7 : Al) (p1 : Int32) (p2 : Int32) (p3 : Int32) (p4 : Int32) (p5 : Int32) (p6 : Int32) : Nat → Int32 → Ar → Option (Int32 × Ar × Int32 × Al × Int32)
  | 0 => fun _ _ => none
  | n + 1 => f_X3_link_B133 m0 m6 m7 p1 p2 p3 p4 p5 p6 (f_X3_link_L133 m0 m6 m7 p1 p2 p3 p4 p5 p6 n)
def f_X3_link_J97 (m0 : Ar) (m5 : Ar) (m6 : Int32) (m7 : Al) (p1 : Int32) (p2 : Int32) (p3 : Int32) (p4 : Int32) (p5 : Int32) (p6 : Int32)  : Option (Int32 × Ar × Int32 × Al × Int32) :=
gd (ib 0 6) (
gd (ib 1 6) (
gd (ib 2 6) (
gd (ib 3 6) (
gd (ib 4 6) (
gd (ib 5 6) (
f_X3_link_L133 m0 m6 m7 p1 p2 p3 p4 p5 p6 fuel 0 m5))))))
def f_X3_link_J79 (m0 : Ar) (m5 : Ar) (m6 : Int32) (m7 : Al) (p1 : Int32) (p2 : Int32) (p3 : Int32) (p4 : Int32) (p5 : Int32) (p6 : Int32)  : Option (Int32 × Ar × Int32 × Al × Int32) :=
if ¬ p5 = 2 then
f_X3_link_J97 m0 m5 m6 m7 p1 p2 p3 p4 p5 p6
else
(f_X3_in p6 0 1).bind (fun r25 =>
if ¬ (b2i r25) = 0 then
f_X3_link_J97 m0 m5 m6 m7 p1 p2 p3 p4 p5 p6
else
some ((-1), m5, m6, m7, 0))
def f_X3_link (m0 : Ar) (m4 : Int32) (m5 : Ar) (m6 : Int32) (m7 : Al) (p1 : Int32) (p2 : Int32) (p3 : Int32) (p4 : Int32) (p5 : Int32) (p6 : Int32) : Option (Int32 × Ar × Int32 × Al × Int32) :=
(f_X3_isCell m4 p1).bind (fun r1 =>
if (b2i r1) = 0 then
some ((-1), m5, m6, m7, 0)
else
(f_X3_in p2 0 1).bind (fun r3 =>
if (b2i r3) = 0 then
some ((-1), m5, m6, m7, 0)
else
(f_X3_in p3 1 9).bind (fun r5 =>
if (b2i r5) = 0 then
some ((-1), m5, m6, m7, 0)
else
(f_X3_isCell m4 p4).bind (fun r7 =>
if (b2i r7) = 0 then
some ((-1), m5, m6, m7, 0)
else
(f_X3_in p5 0 2).bind (fun r9 =>
if (b2i r9) = 0 then
some ((-1), m5, m6, m7, 0)
else
if ¬ m6 = 8 then
if ¬ p5 = 0 then
f_X3_link_J79 m0 m5 m6 m7 p1 p2 p3 p4 p5 p6
else
(f_X3_in p6 ((-20)) 20).bind (fun r28 =>
if (b2i r28) = 0 then
some ((-1), m5, m6, m7, 0)
else
f_X3_link_J79 m0 m5 m6 m7 p1 p2 p3 p4 p5 p6)
else
some ((-1), m5, m6, m7, 0))))))
abbrev rmX3_link : Room := { frames := 2, cells := 1, slots := 6, locals := 43 }
set_option maxHeartbeats 40000000 in
set_option maxRecDepth 100000 in
theorem c_X3_link (l : Launch) (D : va_G) (cI cJ cZ : ClassId) (adm : Nat → Nat) (m0 : Ar) (m1 : Ar) (m2 : Ar) (m3 : Ar) (m4 : Int32) (m5 : Ar) (m6 : Int32) (m7 : Al) (m8 : Al) (m9 : Al) (m10 : Ar) (m11 : Ar) (m12 : Al) (m13 : Al) (m14 : Int32) (m15 : Al) (m16 : Int32) (m17 : Al) (m18 : Ar) (m19 : Int32) (m20 : Al) (m21 : Al) (m22 : Int32) (m23 : Int32) (m24 : Int64) (m25 : Int64) (m26 : Int32) (m27 : Int32) (p1 : Int32) (p2 : Int32) (p3 : Int32) (p4 : Int32) (p5 : Int32) (p6 : Int32) (o : (Int32 × Ar × Int32 × Al × Int32)) (hf : f_X3_link m0 m4 m5 m6 m7 p1 p2 p3 p4 p5 p6 = some o) : CtI l yX3_link wsX3_link rmX3_link D cI cJ cZ [.ref (adm 0), .int p1, .int p2, .int p3, .int p4, .int p5, .int p6] (wMc cI cJ adm m0 m1 m2 m3 m4 m5 m6 m7 m8 m9 m10 m11 m12 m13 m14 m15 m16 m17 m18 m19 m20 m21 m22 m23 m24 m25 m26 m27) (wMc cI cJ adm m0 m1 m2 m3 m4 o.2.1 o.2.2.1 o.2.2.2.1 m8 m9 m10 m11 m12 m13 m14 m15 m16 m17 m18 m19 m20 m21 m22 o.2.2.2.2 m24 m25 m26 m27) o.1 := by
  intro sz
  refine Met.ofW (cc := cX3_link) (maxL := 9) (ret := (some .int)) (by decide) rfl ?_
  intro p e s m args below meth c s₁ B hml hv
  obtain ⟨rfl, hsz, hP, hK, hD0⟩ := hv
  have hx := B.exec
  have hb := B.bytes
  have hr := B.returns
  have hts := atoms_spec (ws := wsX3_link) B.pre
  have hown : s.vm.findClass RX3 = some m.cls := findClass_of_methodNamed B.named
  have hlocks := B.notSynchronized
  subst hsz
  have hD := hD0.self (sz := s.heap.size)
  clear hD0
  generalize hAe : va_A (wMc cI cJ adm m0 m1 m2 m3 m4 m5 m6 m7 m8 m9 m10 m11 m12 m13 m14 m15 m16 m17 m18 m19 m20 m21 m22 m23 m24 m25 m26 m27) s.heap.size = A at hD ⊢
  have hA : ∀ q : Nat, s.heap.size ≤ q → A q := fun q h => by rw [← hAe]; exact Or.inr h
  have hS : va_S A s.heap s.heap [] := va_S.rf
  have hinX3 : ∀ w ∈ wsX30, w ∈ wsX3_link := by decide +kernel
  have hw0 : (Cond.fieldLink RX3 69 "SwingCircuitsModel" "thrown" "I").before _ s = true := hts _ (by decide +kernel)
  have hw1 : (Cond.fieldLink RX3 101 "SwingCircuitsModel" "linkMany" "I").before _ s = true := hts _ (by decide +kernel)
  have hw2 : (Cond.arrayClass .int).before _ s = true := hts _ (by decide +kernel)
  have hw3 : (Cond.fieldLink RX3 22 "SwingCircuitsModel" "links" "[I").before _ s = true := hts _ (by decide +kernel)
  have hl := lv_entry ([.ref (adm 0), .int p1, .int p2, .int p3, .int p4, .int p5, .int p6]) (n := 9) (Nat.le_of_ble_eq_true rfl)
  rw [lg_entry_eq]
  generalize (lg_sl ([.ref (adm 0), .int p1, .int p2, .int p3, .int p4, .int p5, .int p6]) ++ List.replicate (9 - (lg_sl ([.ref (adm 0), .int p1, .int p2, .int p3, .int p4, .int p5, .int p6])).length) Slot.unset).toArray = ls at hl ⊢
  replace hl : lv_has ls 9 [(0, .ref (adm 0)), (1, .int p1), (2, .int p2), (3, .int p3), (4, .int p4), (5, .int p5), (6, .int p6)] := hl
  unfold f_X3_link at hf
  refine lv_aload_n hx hb dX3_link_0 rfl (lv_at hl 0 rfl) ?_
  refine lv_iconst (v := 0) hx hb dX3_link_1 (by decide) ?_
  refine va_put (D := D) (ci := 3) (v := .int 0) (ty := .int) (C := RX3) (T := TX3) (N := 28) hx hb hts hinX3 tyX3 tyX3_ok nmX3 hown hK.1 hP hD hS 0 rfl rfl 23 (by decide) hw0 (fun _ h9 => h9) rfl (by decide +kernel) rfl rfl (Nat.le_of_ble_eq_true rfl) dX3_link_2 (fun H locs hP hD hS => ?_)
  replace hP : va_P D vwCl (wMc cI cJ adm m0 m1 m2 m3 m4 m5 m6 m7 m8 m9 m10 m11 m12 m13 m14 m15 m16 m17 m18 m19 m20 m21 m22 0 m24 m25 m26 m27) H := hP
  replace hD : va_D A (wMc cI cJ adm m0 m1 m2 m3 m4 m5 m6 m7 m8 m9 m10 m11 m12 m13 m14 m15 m16 m17 m18 m19 m20 m21 m22 0 m24 m25 m26 m27) := hD
  refine lv_aload_n hx hb dX3_link_5 rfl (lv_at hl 0 rfl) ?_
  refine lv_iload_n hx hb dX3_link_6 rfl (lv_at hl 1 rfl) ?_
  replace hf := bdE hf
  obtain ⟨r1, hgr1, hf⟩ := hf
  refine xIw (va_runV (As := [.int p1]) (rest := []) ⟨hx, hb, hml, hown, hts⟩ (c_X3_isCell l D cI cJ cZ adm m0 m1 m2 m3 m4 m5 m6 m7 m8 m9 m10 m11 m12 m13 m14 m15 m16 m17 m18 m19 m20 m21 m22 0 m24 m25 m26 m27 p1 r1 hgr1 _) (cwV 1 hts gX3_link_X3_isCell rfl rfl rfl (by decide +kernel) ⟨Nat.le_of_ble_eq_true rfl, Nat.le_of_ble_eq_true rfl⟩) ⟨PreW.blind, xRecv (q0 := 0) hK hP rfl rfl, (xPrew hK hP hD _)⟩ rfl rfl hl.1 rfl (lv_room (Nat.le_of_ble_eq_true rfl)) dX3_link_7 ⟨Nat.le_of_ble_eq_true rfl, Nat.le_of_ble_eq_true rfl⟩) hD hS hA (fun H locs hP hD hS => ?_)
  replace hP : va_P D vwCl (wMc cI cJ adm m0 m1 m2 m3 m4 m5 m6 m7 m8 m9 m10 m11 m12 m13 m14 m15 m16 m17 m18 m19 m20 m21 m22 0 m24 m25 m26 m27) H := hP
  replace hD : va_D A (wMc cI cJ adm m0 m1 m2 m3 m4 m5 m6 m7 m8 m9 m10 m11 m12 m13 m14 m15 m16 m17 m18 m19 m20 m21 m22 0 m24 m25 m26 m27) := hD
  refine lv_if_eq (tgt := 60) hx hb dX3_link_10 (by decide) (fun q2 => ?_) (fun q2 => ?_)
  · replace hf := ifT q2 hf
    refine lv_iconst (v := (-1)) hx hb dX3_link_60 (by decide) ?_
    obtain rfl := Option.some.inj hf
    refine W.widen (k := 1) (n := 6) (Nat.zero_le _) (Nat.zero_le _) ?_
    exact retI hx hb hr hlocks hP hD hS dX3_link_61
  · replace hf := ifF q2 hf
    refine lv_iload_n hx hb dX3_link_13 rfl (lv_at hl 2 rfl) ?_
    refine lv_iconst (v := 0) hx hb dX3_link_14 (by decide) ?_
    refine lv_iconst (v := 1) hx hb dX3_link_15 (by decide) ?_
    replace hf := bdE hf
    obtain ⟨r3, hgr3, hf⟩ := hf
    refine xI0 (va_runS (As := [.int p2, .int 0, .int 1]) (rest := []) ⟨hx, hb, hml, hown, hts⟩ (c_X3_in l D cI cJ cZ p2 0 1 r3 hgr3 _) (va_cwS 3 hts gX3_link_X3_in rfl rfl rfl (by decide +kernel) ⟨Nat.le_of_ble_eq_true rfl, Nat.le_of_ble_eq_true rfl⟩) ⟨PreW.blind, (xPre0 hK _)⟩ rfl rfl hl.1 rfl (lv_room (Nat.le_of_ble_eq_true rfl)) dX3_link_16 ⟨Nat.le_of_ble_eq_true rfl, Nat.le_of_ble_eq_true rfl⟩) hP hS hA (fun H locs hP hS => ?_)
    refine lv_if_eq (tgt := 60) hx hb dX3_link_19 (by decide) (fun q4 => ?_) (fun q4 => ?_)
    · replace hf := ifT q4 hf
      refine lv_iconst (v := (-1)) hx hb dX3_link_60 (by decide) ?_
      obtain rfl := Option.some.inj hf
      refine W.widen (k := 1) (n := 6) (Nat.zero_le _) (Nat.zero_le _) ?_
      exact retI hx hb hr hlocks hP hD hS dX3_link_61
    · replace hf := ifF q4 hf
      refine lv_iload_n hx hb dX3_link_22 rfl (lv_at hl 3 rfl) ?_
      refine lv_iconst (v := 1) hx hb dX3_link_23 (by decide) ?_
      refine lv_bipush (v := 9) hx hb dX3_link_24 (by decide) ?_
      replace hf := bdE hf
      obtain ⟨r5, hgr5, hf⟩ := hf
      refine xI0 (va_runS (As := [.int p3, .int 1, .int 9]) (rest := []) ⟨hx, hb, hml, hown, hts⟩ (c_X3_in l D cI cJ cZ p3 1 9 r5 hgr5 _) (va_cwS 3 hts gX3_link_X3_in rfl rfl rfl (by decide +kernel) ⟨Nat.le_of_ble_eq_true rfl, Nat.le_of_ble_eq_true rfl⟩) ⟨PreW.blind, (xPre0 hK _)⟩ rfl rfl hl.1 rfl (lv_room (Nat.le_of_ble_eq_true rfl)) dX3_link_26 ⟨Nat.le_of_ble_eq_true rfl, Nat.le_of_ble_eq_true rfl⟩) hP hS hA (fun H locs hP hS => ?_)
      refine lv_if_eq (tgt := 60) hx hb dX3_link_29 (by decide) (fun q6 => ?_) (fun q6 => ?_)
      · replace hf := ifT q6 hf
        refine lv_iconst (v := (-1)) hx hb dX3_link_60 (by decide) ?_
        obtain rfl := Option.some.inj hf
        refine W.widen (k := 1) (n := 6) (Nat.zero_le _) (Nat.zero_le _) ?_
        exact retI hx hb hr hlocks hP hD hS dX3_link_61
      · replace hf := ifF q6 hf
        refine lv_aload_n hx hb dX3_link_32 rfl (lv_at hl 0 rfl) ?_
        refine lv_iload hx hb dX3_link_33 (lv_at hl 4 rfl) ?_
        replace hf := bdE hf
        obtain ⟨r7, hgr7, hf⟩ := hf
        refine xIw (va_runV (As := [.int p4]) (rest := []) ⟨hx, hb, hml, hown, hts⟩ (c_X3_isCell l D cI cJ cZ adm m0 m1 m2 m3 m4 m5 m6 m7 m8 m9 m10 m11 m12 m13 m14 m15 m16 m17 m18 m19 m20 m21 m22 0 m24 m25 m26 m27 p4 r7 hgr7 _) (cwV 1 hts gX3_link_X3_isCell rfl rfl rfl (by decide +kernel) ⟨Nat.le_of_ble_eq_true rfl, Nat.le_of_ble_eq_true rfl⟩) ⟨PreW.blind, xRecv (q0 := 0) hK hP rfl rfl, (xPrew hK hP hD _)⟩ rfl rfl hl.1 rfl (lv_room (Nat.le_of_ble_eq_true rfl)) dX3_link_35 ⟨Nat.le_of_ble_eq_true rfl, Nat.le_of_ble_eq_true rfl⟩) hD hS hA (fun H locs hP hD hS => ?_)
        replace hP : va_P D vwCl (wMc cI cJ adm m0 m1 m2 m3 m4 m5 m6 m7 m8 m9 m10 m11 m12 m13 m14 m15 m16 m17 m18 m19 m20 m21 m22 0 m24 m25 m26 m27) H := hP
        replace hD : va_D A (wMc cI cJ adm m0 m1 m2 m3 m4 m5 m6 m7 m8 m9 m10 m11 m12 m13 m14 m15 m16 m17 m18 m19 m20 m21 m22 0 m24 m25 m26 m27) := hD
        refine lv_if_eq (tgt := 60) hx hb dX3_link_38 (by decide) (fun q8 => ?_) (fun q8 => ?_)
        · replace hf := ifT q8 hf
          refine lv_iconst (v := (-1)) hx hb dX3_link_60 (by decide) ?_
          obtain rfl := Option.some.inj hf
          refine W.widen (k := 1) (n := 6) (Nat.zero_le _) (Nat.zero_le _) ?_
          exact retI hx hb hr hlocks hP hD hS dX3_link_61
        · replace hf := ifF q8 hf
          refine lv_iload hx hb dX3_link_41 (lv_at hl 5 rfl) ?_
          refine lv_iconst (v := 0) hx hb dX3_link_43 (by decide) ?_
          refine lv_iconst (v := 2) hx hb dX3_link_44 (by decide) ?_
          replace hf := bdE hf
          obtain ⟨r9, hgr9, hf⟩ := hf
          refine xI0 (va_runS (As := [.int p5, .int 0, .int 2]) (rest := []) ⟨hx, hb, hml, hown, hts⟩ (c_X3_in l D cI cJ cZ p5 0 2 r9 hgr9 _) (va_cwS 3 hts gX3_link_X3_in rfl rfl rfl (by decide +kernel) ⟨Nat.le_of_ble_eq_true rfl, Nat.le_of_ble_eq_true rfl⟩) ⟨PreW.blind, (xPre0 hK _)⟩ rfl rfl hl.1 rfl (lv_room (Nat.le_of_ble_eq_true rfl)) dX3_link_45 ⟨Nat.le_of_ble_eq_true rfl, Nat.le_of_ble_eq_true rfl⟩) hP hS hA (fun H locs hP hS => ?_)
          refine lv_if_eq (tgt := 60) hx hb dX3_link_48 (by decide) (fun q10 => ?_) (fun q10 => ?_)
          · replace hf := ifT q10 hf
            refine lv_iconst (v := (-1)) hx hb dX3_link_60 (by decide) ?_
            obtain rfl := Option.some.inj hf
            refine W.widen (k := 1) (n := 6) (Nat.zero_le _) (Nat.zero_le _) ?_
            exact retI hx hb hr hlocks hP hD hS dX3_link_61
          · replace hf := ifF q10 hf
            refine lv_aload_n hx hb dX3_link_51 rfl (lv_at hl 0 rfl) ?_
            refine va_get (D := D) (ci := 3) (v := .int m6) (C := RX3) (T := TX3) (N := 28) hx hb hts hinX3 hown hK.1 hP 0 rfl rfl 6 (by decide) hw1 (fun _ h9 => h9) rfl dX3_link_52 ?_
            refine lv_bipush (v := 8) hx hb dX3_link_55 (by decide) ?_
            refine lv_icmp_ne (tgt := 62) hx hb dX3_link_57 (by decide) (fun q11 => ?_) (fun q11 => ?_)
            · replace hf := ifT q11 hf
              refine lv_iload hx hb dX3_link_62 (lv_at hl 5 rfl) ?_
              have J79 : ∀  (H : Heap) (locs : List Loc) (ls : Array Slot), f_X3_link_J79 m0 m5 m6 m7 p1 p2 p3 p4 p5 p6  = some o → va_P D vwCl (wMc cI cJ adm m0 m1 m2 m3 m4 m5 m6 m7 m8 m9 m10 m11 m12 m13 m14 m15 m16 m17 m18 m19 m20 m21 m22 0 m24 m25 m26 m27) H → va_D A (wMc cI cJ adm m0 m1 m2 m3 m4 m5 m6 m7 m8 m9 m10 m11 m12 m13 m14 m15 m16 m17 m18 m19 m20 m21 m22 0 m24 m25 m26 m27) → va_S A s.heap H locs → lv_has ls 9 [(0, .ref (adm 0)), (1, .int p1), (2, .int p2), (3, .int p3), (4, .int p4), (5, .int p5), (6, .int p6)] → W p l e (headSpec wsX3_link rmX3_link).room s m ([.ref (adm 0), .int p1, .int p2, .int p3, .int p4, .int p5, .int p6] : List Value).toArray below meth c H locs 0 0 (MQ below (QI D A o.1 (wMc cI cJ adm m0 m1 m2 m3 m4 o.2.1 o.2.2.1 o.2.2.2.1 m8 m9 m10 m11 m12 m13 m14 m15 m16 m17 m18 m19 m20 m21 m22 o.2.2.2.2 m24 m25 m26 m27)) ([.ref (adm 0), .int p1, .int p2, .int p3, .int p4, .int p5, .int p6] : List Value).toArray s 1 6 A) (F0 m 79 ls []) := by
                intro  H locs ls hf hP hD hS hl
                unfold f_X3_link_J79 at hf
                refine lv_iload hx hb dX3_link_79 (lv_at hl 5 rfl) ?_
                refine lv_iconst (v := 2) hx hb dX3_link_81 (by decide) ?_
                have J97 : ∀  (H : Heap) (locs : List Loc) (ls : Array Slot), f_X3_link_J97 m0 m5 m6 m7 p1 p2 p3 p4 p5 p6  = some o → va_P D vwCl (wMc cI cJ adm m0 m1 m2 m3 m4 m5 m6 m7 m8 m9 m10 m11 m12 m13 m14 m15 m16 m17 m18 m19 m20 m21 m22 0 m24 m25 m26 m27) H → va_D A (wMc cI cJ adm m0 m1 m2 m3 m4 m5 m6 m7 m8 m9 m10 m11 m12 m13 m14 m15 m16 m17 m18 m19 m20 m21 m22 0 m24 m25 m26 m27) → va_S A s.heap H locs → lv_has ls 9 [(0, .ref (adm 0)), (1, .int p1), (2, .int p2), (3, .int p3), (4, .int p4), (5, .int p5), (6, .int p6)] → W p l e (headSpec wsX3_link rmX3_link).room s m ([.ref (adm 0), .int p1, .int p2, .int p3, .int p4, .int p5, .int p6] : List Value).toArray below meth c H locs 0 0 (MQ below (QI D A o.1 (wMc cI cJ adm m0 m1 m2 m3 m4 o.2.1 o.2.2.1 o.2.2.2.1 m8 m9 m10 m11 m12 m13 m14 m15 m16 m17 m18 m19 m20 m21 m22 o.2.2.2.2 m24 m25 m26 m27)) ([.ref (adm 0), .int p1, .int p2, .int p3, .int p4, .int p5, .int p6] : List Value).toArray s 1 6 A) (F0 m 97 ls []) := by
                  intro  H locs ls hf hP hD hS hl
                  unfold f_X3_link_J97 at hf
                  refine lv_bipush (v := 6) hx hb dX3_link_97 (by decide) ?_
                  refine va_newa (atype := .int) (ty := .int) (a0 := (6, .inl (fun _ => 0))) hx hb hw2 rfl hK.1 hP hD hS hA (fun _ => rfl) (by decide) (by decide) (by decide) (Nat.le_of_ble_eq_true rfl) (Nat.le_of_ble_eq_true rfl) dX3_link_99 (fun q9 cA H hK9 hP hD hS => ?_)
                  obtain rfl : cI = cA := (arr_one hK.1 hK9 0 3 rfl rfl).symm
                  replace hP : va_P D vwCl (wMc cI cJ adm m0 m1 m2 m3 m4 m5 m6 m7 m8 m9 m10 m11 m12 m13 m14 m15 m16 m17 m18 m19 m20 m21 m22 0 m24 m25 m26 m27 ++ [(q9, .inl (cI, 6, .inl (fun _ => 0)))]) H := hP
                  replace hD : va_D A (wMc cI cJ adm m0 m1 m2 m3 m4 m5 m6 m7 m8 m9 m10 m11 m12 m13 m14 m15 m16 m17 m18 m19 m20 m21 m22 0 m24 m25 m26 m27 ++ [(q9, .inl (cI, 6, .inl (fun _ => 0)))]) := hD
                  refine lv_dup hx hb dX3_link_101 rfl ?_
                  refine lv_iconst (v := 0) hx hb dX3_link_102 (by decide) ?_
                  refine lv_iload_n hx hb dX3_link_103 rfl (lv_at hl 1 rfl) ?_
                  replace hf := gdE hf
                  obtain ⟨h12, hf⟩ := hf
                  refine va_iast hx hb hK.1 hP hD hS 18 0 rfl rfl (ib_in h12) dX3_link_104 (fun H locs hP hD hS => ?_)
                  replace hP : va_P D vwCl (wMc cI cJ adm m0 m1 m2 m3 m4 m5 m6 m7 m8 m9 m10 m11 m12 m13 m14 m15 m16 m17 m18 m19 m20 m21 m22 0 m24 m25 m26 m27 ++ [(q9, .inl (cI, 6, .inl (upd (fun _ => 0) (0 : Int32).toNatClampNeg p1)))]) H := hP
                  replace hD : va_D A (wMc cI cJ adm m0 m1 m2 m3 m4 m5 m6 m7 m8 m9 m10 m11 m12 m13 m14 m15 m16 m17 m18 m19 m20 m21 m22 0 m24 m25 m26 m27 ++ [(q9, .inl (cI, 6, .inl (upd (fun _ => 0) (0 : Int32).toNatClampNeg p1)))]) := hD
                  refine lv_dup hx hb dX3_link_105 rfl ?_
                  refine lv_iconst (v := 1) hx hb dX3_link_106 (by decide) ?_
                  refine lv_iload_n hx hb dX3_link_107 rfl (lv_at hl 2 rfl) ?_
                  replace hf := gdE hf
                  obtain ⟨h13, hf⟩ := hf
                  refine va_iast hx hb hK.1 hP hD hS 18 0 rfl rfl (ib_in h13) dX3_link_108 (fun H locs hP hD hS => ?_)
                  replace hP : va_P D vwCl (wMc cI cJ adm m0 m1 m2 m3 m4 m5 m6 m7 m8 m9 m10 m11 m12 m13 m14 m15 m16 m17 m18 m19 m20 m21 m22 0 m24 m25 m26 m27 ++ [(q9, .inl (cI, 6, .inl (upd (upd (fun _ => 0) (0 : Int32).toNatClampNeg p1) (1 : Int32).toNatClampNeg p2)))]) H := hP
                  replace hD : va_D A (wMc cI cJ adm m0 m1 m2 m3 m4 m5 m6 m7 m8 m9 m10 m11 m12 m13 m14 m15 m16 m17 m18 m19 m20 m21 m22 0 m24 m25 m26 m27 ++ [(q9, .inl (cI, 6, .inl (upd (upd (fun _ => 0) (0 : Int32).toNatClampNeg p1) (1 : Int32).toNatClampNeg p2)))]) := hD
                  refine lv_dup hx hb dX3_link_109 rfl ?_
                  refine lv_iconst (v := 2) hx hb dX3_link_110 (by decide) ?_
                  refine lv_iload_n hx hb dX3_link_111 rfl (lv_at hl 3 rfl) ?_
                  replace hf := gdE hf
                  obtain ⟨h14, hf⟩ := hf
                  refine va_iast hx hb hK.1 hP hD hS 18 0 rfl rfl (ib_in h14) dX3_link_112 (fun H locs hP hD hS => ?_)
                  replace hP : va_P D vwCl (wMc cI cJ adm m0 m1 m2 m3 m4 m5 m6 m7 m8 m9 m10 m11 m12 m13 m14 m15 m16 m17 m18 m19 m20 m21 m22 0 m24 m25 m26 m27 ++ [(q9, .inl (cI, 6, .inl (upd (upd (upd (fun _ => 0) (0 : Int32).toNatClampNeg p1) (1 : Int32).toNatClampNeg p2) (2 : Int32).toNatClampNeg p3)))]) H := hP
                  replace hD : va_D A (wMc cI cJ adm m0 m1 m2 m3 m4 m5 m6 m7 m8 m9 m10 m11 m12 m13 m14 m15 m16 m17 m18 m19 m20 m21 m22 0 m24 m25 m26 m27 ++ [(q9, .inl (cI, 6, .inl (upd (upd (upd (fun _ => 0) (0 : Int32).toNatClampNeg p1) (1 : Int32).toNatClampNeg p2) (2 : Int32).toNatClampNeg p3)))]) := hD
                  refine lv_dup hx hb dX3_link_113 rfl ?_
                  refine lv_iconst (v := 3) hx hb dX3_link_114 (by decide) ?_
                  refine lv_iload hx hb dX3_link_115 (lv_at hl 4 rfl) ?_
                  replace hf := gdE hf
                  obtain ⟨h15, hf⟩ := hf
                  refine va_iast hx hb hK.1 hP hD hS 18 0 rfl rfl (ib_in h15) dX3_link_117 (fun H locs hP hD hS => ?_)
                  replace hP : va_P D vwCl (wMc cI cJ adm m0 m1 m2 m3 m4 m5 m6 m7 m8 m9 m10 m11 m12 m13 m14 m15 m16 m17 m18 m19 m20 m21 m22 0 m24 m25 m26 m27 ++ [(q9, .inl (cI, 6, .inl (upd (upd (upd (upd (fun _ => 0) (0 : Int32).toNatClampNeg p1) (1 : Int32).toNatClampNeg p2) (2 : Int32).toNatClampNeg p3) (3 : Int32).toNatClampNeg p4)))]) H := hP
                  replace hD : va_D A (wMc cI cJ adm m0 m1 m2 m3 m4 m5 m6 m7 m8 m9 m10 m11 m12 m13 m14 m15 m16 m17 m18 m19 m20 m21 m22 0 m24 m25 m26 m27 ++ [(q9, .inl (cI, 6, .inl (upd (upd (upd (upd (fun _ => 0) (0 : Int32).toNatClampNeg p1) (1 : Int32).toNatClampNeg p2) (2 : Int32).toNatClampNeg p3) (3 : Int32).toNatClampNeg p4)))]) := hD
                  refine lv_dup hx hb dX3_link_118 rfl ?_
                  refine lv_iconst (v := 4) hx hb dX3_link_119 (by decide) ?_
                  refine lv_iload hx hb dX3_link_120 (lv_at hl 5 rfl) ?_
                  replace hf := gdE hf
                  obtain ⟨h16, hf⟩ := hf
                  refine va_iast hx hb hK.1 hP hD hS 18 0 rfl rfl (ib_in h16) dX3_link_122 (fun H locs hP hD hS => ?_)
                  replace hP : va_P D vwCl (wMc cI cJ adm m0 m1 m2 m3 m4 m5 m6 m7 m8 m9 m10 m11 m12 m13 m14 m15 m16 m17 m18 m19 m20 m21 m22 0 m24 m25 m26 m27 ++ [(q9, .inl (cI, 6, .inl (upd (upd (upd (upd (upd (fun _ => 0) (0 : Int32).toNatClampNeg p1) (1 : Int32).toNatClampNeg p2) (2 : Int32).toNatClampNeg p3) (3 : Int32).toNatClampNeg p4) (4 : Int32).toNatClampNeg p5)))]) H := hP
                  replace hD : va_D A (wMc cI cJ adm m0 m1 m2 m3 m4 m5 m6 m7 m8 m9 m10 m11 m12 m13 m14 m15 m16 m17 m18 m19 m20 m21 m22 0 m24 m25 m26 m27 ++ [(q9, .inl (cI, 6, .inl (upd (upd (upd (upd (upd (fun _ => 0) (0 : Int32).toNatClampNeg p1) (1 : Int32).toNatClampNeg p2) (2 : Int32).toNatClampNeg p3) (3 : Int32).toNatClampNeg p4) (4 : Int32).toNatClampNeg p5)))]) := hD
                  refine lv_dup hx hb dX3_link_123 rfl ?_
                  refine lv_iconst (v := 5) hx hb dX3_link_124 (by decide) ?_
                  refine lv_iload hx hb dX3_link_125 (lv_at hl 6 rfl) ?_
                  replace hf := gdE hf
                  obtain ⟨h17, hf⟩ := hf
                  refine va_iast hx hb hK.1 hP hD hS 18 0 rfl rfl (ib_in h17) dX3_link_127 (fun H locs hP hD hS => ?_)
                  replace hP : va_P D vwCl (wMc cI cJ adm m0 m1 m2 m3 m4 m5 m6 m7 m8 m9 m10 m11 m12 m13 m14 m15 m16 m17 m18 m19 m20 m21 m22 0 m24 m25 m26 m27 ++ [(q9, .inl (cI, 6, .inl (upd (upd (upd (upd (upd (upd (fun _ => 0) (0 : Int32).toNatClampNeg p1) (1 : Int32).toNatClampNeg p2) (2 : Int32).toNatClampNeg p3) (3 : Int32).toNatClampNeg p4) (4 : Int32).toNatClampNeg p5) (5 : Int32).toNatClampNeg p6)))]) H := hP
                  replace hD : va_D A (wMc cI cJ adm m0 m1 m2 m3 m4 m5 m6 m7 m8 m9 m10 m11 m12 m13 m14 m15 m16 m17 m18 m19 m20 m21 m22 0 m24 m25 m26 m27 ++ [(q9, .inl (cI, 6, .inl (upd (upd (upd (upd (upd (upd (fun _ => 0) (0 : Int32).toNatClampNeg p1) (1 : Int32).toNatClampNeg p2) (2 : Int32).toNatClampNeg p3) (3 : Int32).toNatClampNeg p4) (4 : Int32).toNatClampNeg p5) (5 : Int32).toNatClampNeg p6)))]) := hD
                  refine lv_astore (lv' := [(7, .ref q9), (0, .ref (adm 0)), (1, .int p1), (2, .int p2), (3, .int p3), (4, .int p4), (5, .int p5), (6, .int p6)]) hx hb dX3_link_128 hl (by decide) rfl (fun ls hl => ?_)
                  refine lv_iconst (v := 0) hx hb dX3_link_130 (by decide) ?_
                  refine lv_istore (lv' := [(8, .int 0), (7, .ref q9), (0, .ref (adm 0)), (1, .int p1), (2, .int p2), (3, .int p3), (4, .int p4), (5, .int p5), (6, .int p6)]) hx hb dX3_link_131 hl (by decide) rfl (fun ls hl => ?_)
                  have L133 : ∀ (n : Nat) (l8_133 : Int32) (m5_133 : Ar) (H : Heap) (locs : List Loc) (ls : Array Slot), f_X3_link_L133 m0 m6 m7 p1 p2 p3 p4 p5 p6 n l8_133 m5_133 = some o → va_P D vwCl (wMc cI cJ adm m0 m1 m2 m3 m4 m5_133 m6 m7 m8 m9 m10 m11 m12 m13 m14 m15 m16 m17 m18 m19 m20 m21 m22 0 m24 m25 m26 m27 ++ [(q9, .inl (cI, 6, .inl (upd (upd (upd (upd (upd (upd (fun _ => 0) (0 : Int32).toNatClampNeg p1) (1 : Int32).toNatClampNeg p2) (2 : Int32).toNatClampNeg p3) (3 : Int32).toNatClampNeg p4) (4 : Int32).toNatClampNeg p5) (5 : Int32).toNatClampNeg p6)))]) H → va_D A (wMc cI cJ adm m0 m1 m2 m3 m4 m5_133 m6 m7 m8 m9 m10 m11 m12 m13 m14 m15 m16 m17 m18 m19 m20 m21 m22 0 m24 m25 m26 m27 ++ [(q9, .inl (cI, 6, .inl (upd (upd (upd (upd (upd (upd (fun _ => 0) (0 : Int32).toNatClampNeg p1) (1 : Int32).toNatClampNeg p2) (2 : Int32).toNatClampNeg p3) (3 : Int32).toNatClampNeg p4) (4 : Int32).toNatClampNeg p5) (5 : Int32).toNatClampNeg p6)))]) → va_S A s.heap H locs → lv_has ls 9 [(0, .ref (adm 0)), (7, .ref q9), (8, .int l8_133)] → W p l e (headSpec wsX3_link rmX3_link).room s m ([.ref (adm 0), .int p1, .int p2, .int p3, .int p4, .int p5, .int p6] : List Value).toArray below meth c H locs (0 + 1) (0 + 6) (MQ below (QI D A o.1 (wMc cI cJ adm m0 m1 m2 m3 m4 o.2.1 o.2.2.1 o.2.2.2.1 m8 m9 m10 m11 m12 m13 m14 m15 m16 m17 m18 m19 m20 m21 m22 o.2.2.2.2 m24 m25 m26 m27)) ([.ref (adm 0), .int p1, .int p2, .int p3, .int p4, .int p5, .int p6] : List Value).toArray s 1 6 A) (F0 m 133 ls []) := by
                    intro n
                    induction n with
                    | zero => intro l8_133 m5_133 H locs ls hf; cases hf
                    | succ n ih133 =>
                      intro l8_133 m5_133 H locs ls hf hP hD hS hl
                      replace hf : f_X3_link_B133 m0 m6 m7 p1 p2 p3 p4 p5 p6 (f_X3_link_L133 m0 m6 m7 p1 p2 p3 p4 p5 p6 n) l8_133 m5_133 = some o := hf
                      generalize f_X3_link_L133 m0 m6 m7 p1 p2 p3 p4 p5 p6 n = rec133 at ih133 hf
                      unfold f_X3_link_B133 at hf
                      refine lv_iload hx hb dX3_link_133 (lv_at hl 2 rfl) ?_
                      refine lv_bipush (v := 6) hx hb dX3_link_135 (by decide) ?_
                      refine lv_icmp_ge (tgt := 166) hx hb dX3_link_137 (by decide) (fun q18 => ?_) (fun q18 => ?_)
                      · replace hf := ifT q18 hf
                        refine lv_aload_n hx hb dX3_link_166 rfl (lv_at hl 0 rfl) ?_
                        refine lv_dup hx hb dX3_link_167 rfl ?_
                        refine va_get (D := D) (ci := 3) (v := .int m6) (C := RX3) (T := TX3) (N := 28) hx hb hts hinX3 hown hK.1 hP 0 rfl rfl 6 (by decide) hw1 (fun _ h9 => h9) rfl dX3_link_168 ?_
                        refine lv_iconst (v := 1) hx hb dX3_link_171 (by decide) ?_
                        refine lv_iadd hx hb dX3_link_172 ?_
                        refine lv_topi (fun v19 ev19 => ?_)
                        replace hf := bndE hf ev19
                        refine va_put (D := D) (ci := 3) (v := .int v19) (ty := .int) (C := RX3) (T := TX3) (N := 28) hx hb hts hinX3 tyX3 tyX3_ok nmX3 hown hK.1 hP hD hS 0 rfl rfl 6 (by decide) hw1 (fun _ h9 => h9) rfl (by decide +kernel) rfl rfl (Nat.le_of_ble_eq_true rfl) dX3_link_173 (fun H locs hP hD hS => ?_)
                        replace hP : va_P D vwCl (wMc cI cJ adm m0 m1 m2 m3 m4 m5_133 v19 m7 m8 m9 m10 m11 m12 m13 m14 m15 m16 m17 m18 m19 m20 m21 m22 0 m24 m25 m26 m27 ++ [(q9, .inl (cI, 6, .inl (upd (upd (upd (upd (upd (upd (fun _ => 0) (0 : Int32).toNatClampNeg p1) (1 : Int32).toNatClampNeg p2) (2 : Int32).toNatClampNeg p3) (3 : Int32).toNatClampNeg p4) (4 : Int32).toNatClampNeg p5) (5 : Int32).toNatClampNeg p6)))]) H := hP
                        replace hD : va_D A (wMc cI cJ adm m0 m1 m2 m3 m4 m5_133 v19 m7 m8 m9 m10 m11 m12 m13 m14 m15 m16 m17 m18 m19 m20 m21 m22 0 m24 m25 m26 m27 ++ [(q9, .inl (cI, 6, .inl (upd (upd (upd (upd (upd (upd (fun _ => 0) (0 : Int32).toNatClampNeg p1) (1 : Int32).toNatClampNeg p2) (2 : Int32).toNatClampNeg p3) (3 : Int32).toNatClampNeg p4) (4 : Int32).toNatClampNeg p5) (5 : Int32).toNatClampNeg p6)))]) := hD
                        refine lv_aload_n hx hb dX3_link_176 rfl (lv_at hl 0 rfl) ?_
                        replace hf := bdE hf
                        obtain ⟨r20, hgr20, hf⟩ := hf
                        refine xV (w2 := (wMc cI cJ adm m0 m1 m2 m3 m4 m5_133 v19 r20 m8 m9 m10 m11 m12 m13 m14 m15 m16 m17 m18 m19 m20 m21 m22 0 m24 m25 m26 m27 ++ [(q9, .inl (cI, 6, .inl (upd (upd (upd (upd (upd (upd (fun _ => 0) (0 : Int32).toNatClampNeg p1) (1 : Int32).toNatClampNeg p2) (2 : Int32).toNatClampNeg p3) (3 : Int32).toNatClampNeg p4) (4 : Int32).toNatClampNeg p5) (5 : Int32).toNatClampNeg p6)))])) (wr := ([(q9, .inl (cI, 6, .inl (upd (upd (upd (upd (upd (upd (fun _ => 0) (0 : Int32).toNatClampNeg p1) (1 : Int32).toNatClampNeg p2) (2 : Int32).toNatClampNeg p3) (3 : Int32).toNatClampNeg p4) (4 : Int32).toNatClampNeg p5) (5 : Int32).toNatClampNeg p6)))])) (va_runV (As := []) (rest := []) ⟨hx, hb, hml, hown, hts⟩ (c_X3_resetAll l D cI cJ cZ adm m0 m1 m2 m3 m4 m5_133 v19 m7 m8 m9 m10 m11 m12 m13 m14 m15 m16 m17 m18 m19 m20 m21 m22 0 m24 m25 m26 m27 r20 hgr20 _) (cwV 0 hts gX3_link_X3_resetAll rfl rfl rfl (by decide +kernel) ⟨Nat.le_of_ble_eq_true rfl, Nat.le_of_ble_eq_true rfl⟩) ⟨PreW.blind, xRecv (q0 := 0) hK hP rfl rfl, (xPre hK hP hD [0, 1, 2, 3, 4, 5, 6, 7, 8, 9, 10, 11, 12, 13, 14, 15, 16, 17] rfl (by decide) _)⟩ rfl rfl hl.1 rfl (lv_room (Nat.le_of_ble_eq_true rfl)) dX3_link_177 ⟨Nat.le_of_ble_eq_true rfl, Nat.le_of_ble_eq_true rfl⟩) hP hD hS hA [0, 1, 2, 3, 4, 5, 6, 7, 8, 9, 10, 11, 12, 13, 14, 15, 16, 17] [18] [1, 2, 3, 4, 5, 6, 7, 8, 9, 10, 11, 12, 13, 14, 15, 16, 17, 18, 0] rfl rfl (by decide) (by decide) rfl (by decide) (fun H locs hP hD hS => ?_)
                        refine lv_aload_n hx hb dX3_link_180 rfl (lv_at hl 0 rfl) ?_
                        refine va_get (D := D) (ci := 3) (v := .int v19) (C := RX3) (T := TX3) (N := 28) hx hb hts hinX3 hown hK.1 hP 0 rfl rfl 6 (by decide) hw1 (fun _ h9 => h9) rfl dX3_link_181 ?_
                        refine lv_iconst (v := 1) hx hb dX3_link_184 (by decide) ?_
                        refine lv_isub hx hb dX3_link_185 ?_
                        obtain rfl := Option.some.inj hf
                        replace hP : va_P D vwCl (wMc cI cJ adm m0 m1 m2 m3 m4 m5_133 v19 r20 m8 m9 m10 m11 m12 m13 m14 m15 m16 m17 m18 m19 m20 m21 m22 0 m24 m25 m26 m27) H := P_subm hP [0, 1, 2, 3, 4, 5, 6, 7, 8, 9, 10, 11, 12, 13, 14, 15, 16, 17] rfl
                        replace hD : va_D A (wMc cI cJ adm m0 m1 m2 m3 m4 m5_133 v19 r20 m8 m9 m10 m11 m12 m13 m14 m15 m16 m17 m18 m19 m20 m21 m22 0 m24 m25 m26 m27) := hD.sub [0, 1, 2, 3, 4, 5, 6, 7, 8, 9, 10, 11, 12, 13, 14, 15, 16, 17] (by decide) rfl
                        exact retI hx hb hr hlocks hP hD hS dX3_link_186
                      · replace hf := ifF q18 hf
                        refine lv_aload_n hx hb dX3_link_140 rfl (lv_at hl 0 rfl) ?_
                        refine va_get (D := D) (ci := 3) (v := .ref (adm 5)) (C := RX3) (T := TX3) (N := 28) hx hb hts hinX3 hown hK.1 hP 0 rfl rfl 5 (by decide) hw3 (fun _ h9 => h9) rfl dX3_link_141 ?_
                        refine lv_bipush (v := 6) hx hb dX3_link_144 (by decide) ?_
                        refine lv_aload_n hx hb dX3_link_146 rfl (lv_at hl 0 rfl) ?_
                        refine va_get (D := D) (ci := 3) (v := .int m6) (C := RX3) (T := TX3) (N := 28) hx hb hts hinX3 hown hK.1 hP 0 rfl rfl 6 (by decide) hw1 (fun _ h9 => h9) rfl dX3_link_147 ?_
                        refine lv_imul hx hb dX3_link_150 ?_
                        refine lv_iload hx hb dX3_link_151 (lv_at hl 2 rfl) ?_
                        refine lv_iadd hx hb dX3_link_153 ?_
                        refine lv_aload hx hb dX3_link_154 (lv_at hl 1 rfl) ?_
                        refine lv_iload hx hb dX3_link_156 (lv_at hl 2 rfl) ?_
                        replace hf := gdE hf
                        obtain ⟨h21, hf⟩ := hf
                        refine va_iald hx hb hK.1 hP 18 0 rfl rfl (ib_in h21) dX3_link_158 ?_
                        refine lv_topi (fun v22 ev22 => ?_)
                        replace hf := bndE hf ev22
                        replace hf := gdE hf
                        obtain ⟨h23, hf⟩ := hf
                        refine va_iast hx hb hK.1 hP hD hS 5 0 rfl rfl (ib_in h23) dX3_link_159 (fun H locs hP hD hS => ?_)
                        replace hP : va_P D vwCl (wMc cI cJ adm m0 m1 m2 m3 m4 (upd m5_133 ((6 * m6) + l8_133).toNatClampNeg v22) m6 m7 m8 m9 m10 m11 m12 m13 m14 m15 m16 m17 m18 m19 m20 m21 m22 0 m24 m25 m26 m27 ++ [(q9, .inl (cI, 6, .inl (upd (upd (upd (upd (upd (upd (fun _ => 0) (0 : Int32).toNatClampNeg p1) (1 : Int32).toNatClampNeg p2) (2 : Int32).toNatClampNeg p3) (3 : Int32).toNatClampNeg p4) (4 : Int32).toNatClampNeg p5) (5 : Int32).toNatClampNeg p6)))]) H := hP
                        replace hD : va_D A (wMc cI cJ adm m0 m1 m2 m3 m4 (upd m5_133 ((6 * m6) + l8_133).toNatClampNeg v22) m6 m7 m8 m9 m10 m11 m12 m13 m14 m15 m16 m17 m18 m19 m20 m21 m22 0 m24 m25 m26 m27 ++ [(q9, .inl (cI, 6, .inl (upd (upd (upd (upd (upd (upd (fun _ => 0) (0 : Int32).toNatClampNeg p1) (1 : Int32).toNatClampNeg p2) (2 : Int32).toNatClampNeg p3) (3 : Int32).toNatClampNeg p4) (4 : Int32).toNatClampNeg p5) (5 : Int32).toNatClampNeg p6)))]) := hD
                        refine lv_iinc (v := l8_133 + 1) (lv' := [(8, .int (l8_133 + 1)), (0, .ref (adm 0)), (7, .ref q9)]) hx hb dX3_link_160 hl (k := 2) rfl (by rfl) (by decide) rfl (fun ls hl => ?_)
                        refine lv_goto (tgt := 133) hx hb dX3_link_163 (by decide) ?_
                        exact ih133 (l8_133 + 1) (upd m5_133 ((6 * m6) + l8_133).toNatClampNeg v22) _ _ _ hf hP hD hS (lv_sub hl [1, 2, 0] rfl)
                  exact L133 fuel 0 m5 _ _ _ hf hP hD hS (lv_sub hl [2, 1, 0] rfl)
                refine lv_icmp_ne (tgt := 97) hx hb dX3_link_82 (by decide) (fun q24 => ?_) (fun q24 => ?_)
                · replace hf := ifT q24 hf
                  exact J97  _ _ _ hf hP hD hS (lv_sub hl [0, 1, 2, 3, 4, 5, 6] rfl)
                · replace hf := ifN q24 hf
                  refine lv_iload hx hb dX3_link_85 (lv_at hl 6 rfl) ?_
                  refine lv_iconst (v := 0) hx hb dX3_link_87 (by decide) ?_
                  refine lv_iconst (v := 1) hx hb dX3_link_88 (by decide) ?_
                  replace hf := bdE hf
                  obtain ⟨r25, hgr25, hf⟩ := hf
                  refine xI0 (va_runS (As := [.int p6, .int 0, .int 1]) (rest := []) ⟨hx, hb, hml, hown, hts⟩ (c_X3_in l D cI cJ cZ p6 0 1 r25 hgr25 _) (va_cwS 3 hts gX3_link_X3_in rfl rfl rfl (by decide +kernel) ⟨Nat.le_of_ble_eq_true rfl, Nat.le_of_ble_eq_true rfl⟩) ⟨PreW.blind, (xPre0 hK _)⟩ rfl rfl hl.1 rfl (lv_room (Nat.le_of_ble_eq_true rfl)) dX3_link_89 ⟨Nat.le_of_ble_eq_true rfl, Nat.le_of_ble_eq_true rfl⟩) hP hS hA (fun H locs hP hS => ?_)
                  refine lv_if_ne (tgt := 97) hx hb dX3_link_92 (by decide) (fun q26 => ?_) (fun q26 => ?_)
                  · replace hf := ifT q26 hf
                    exact J97  _ _ _ hf hP hD hS (lv_sub hl [0, 1, 2, 3, 4, 5, 6] rfl)
                  · replace hf := ifN q26 hf
                    refine lv_iconst (v := (-1)) hx hb dX3_link_95 (by decide) ?_
                    obtain rfl := Option.some.inj hf
                    refine W.widen (k := 1) (n := 6) (Nat.zero_le _) (Nat.zero_le _) ?_
                    exact retI hx hb hr hlocks hP hD hS dX3_link_96
              refine lv_if_ne (tgt := 79) hx hb dX3_link_64 (by decide) (fun q27 => ?_) (fun q27 => ?_)
              · replace hf := ifT q27 hf
                exact J79  _ _ _ hf hP hD hS (lv_sub hl [0, 1, 2, 3, 4, 5, 6] rfl)
              · replace hf := ifN q27 hf
                refine lv_iload hx hb dX3_link_67 (lv_at hl 6 rfl) ?_
                refine lv_bipush (v := (-20)) hx hb dX3_link_69 (by decide) ?_
                refine lv_bipush (v := 20) hx hb dX3_link_71 (by decide) ?_
                replace hf := bdE hf
                obtain ⟨r28, hgr28, hf⟩ := hf
                refine xI0 (va_runS (As := [.int p6, .int ((-20)), .int 20]) (rest := []) ⟨hx, hb, hml, hown, hts⟩ (c_X3_in l D cI cJ cZ p6 ((-20)) 20 r28 hgr28 _) (va_cwS 3 hts gX3_link_X3_in rfl rfl rfl (by decide +kernel) ⟨Nat.le_of_ble_eq_true rfl, Nat.le_of_ble_eq_true rfl⟩) ⟨PreW.blind, (xPre0 hK _)⟩ rfl rfl hl.1 rfl (lv_room (Nat.le_of_ble_eq_true rfl)) dX3_link_73 ⟨Nat.le_of_ble_eq_true rfl, Nat.le_of_ble_eq_true rfl⟩) hP hS hA (fun H locs hP hS => ?_)
                refine lv_if_eq (tgt := 95) hx hb dX3_link_76 (by decide) (fun q29 => ?_) (fun q29 => ?_)
                · replace hf := ifT q29 hf
                  refine lv_iconst (v := (-1)) hx hb dX3_link_95 (by decide) ?_
                  obtain rfl := Option.some.inj hf
                  refine W.widen (k := 1) (n := 6) (Nat.zero_le _) (Nat.zero_le _) ?_
                  exact retI hx hb hr hlocks hP hD hS dX3_link_96
                · replace hf := ifF q29 hf
                  exact J79  _ _ _ hf hP hD hS (lv_sub hl [0, 1, 2, 3, 4, 5, 6] rfl)
            · replace hf := ifN q11 hf
              refine lv_iconst (v := (-1)) hx hb dX3_link_60 (by decide) ?_
              obtain rfl := Option.some.inj hf
              refine W.widen (k := 1) (n := 6) (Nat.zero_le _) (Nat.zero_le _) ?_
              exact retI hx hb hr hlocks hP hD hS dX3_link_61
