def f_X3_counted (m6 : Int32) (m7 : Al) (p1 : Int32) : Option (Int32 × Int32) :=
(f_X3_in p1 0 (m6 - 1)).bind (fun r1 =>
if (b2i r1) = 0 then
some ((-1), 0)
else
gd (ib (12 + p1) 31) (
some ((m7 (12 + p1).toNatClampNeg).toInt32, 0)))
abbrev rmX3_counted : Room := { frames := 1, cells := 0, slots := 0, locals := 22 }
set_option maxHeartbeats 40000000 in
set_option maxRecDepth 100000 in
theorem c_X3_counted (l : Launch) (D : va_G) (cI cJ cZ : ClassId) (adm : Nat → Nat) (m0 : Ar) (m1 : Ar) (m2 : Ar) (m3 : Ar) (m4 : Int32) (m5 : Ar) (m6 : Int32) (m7 : Al) (m8 : Al) (m9 : Al) (m10 : Ar) (m11 : Ar) (m12 : Al) (m13 : Al) (m14 : Int32) (m15 : Al) (m16 : Int32) (m17 : Al) (m18 : Ar) (m19 : Int32) (m20 : Al) (m21 : Al) (m22 : Int32) (m23 : Int32) (m24 : Int64) (m25 : Int64) (m26 : Int32) (m27 : Int32) (p1 : Int32) (o : (Int32 × Int32)) (hf : f_X3_counted m6 m7 p1 = some o) : CtI l yX3_counted wsX3_counted rmX3_counted D cI cJ cZ [.ref (adm 0), .int p1] (wMc cI cJ adm m0 m1 m2 m3 m4 m5 m6 m7 m8 m9 m10 m11 m12 m13 m14 m15 m16 m17 m18 m19 m20 m21 m22 m23 m24 m25 m26 m27) (wMc cI cJ adm m0 m1 m2 m3 m4 m5 m6 m7 m8 m9 m10 m11 m12 m13 m14 m15 m16 m17 m18 m19 m20 m21 m22 o.2 m24 m25 m26 m27) o.1 := by
  intro sz
  refine Met.ofW (cc := cX3_counted) (maxL := 2) (ret := (some .int)) (by decide) rfl ?_
  intro p e s m args below meth c s₁ B hml hv
  obtain ⟨rfl, hsz, hP, hK, hD0⟩ := hv
  have hx := B.exec
  have hb := B.bytes
  have hr := B.returns
  have hts := atoms_spec (ws := wsX3_counted) B.pre
  have hown : s.vm.findClass RX3 = some m.cls := findClass_of_methodNamed B.named
  have hlocks := B.notSynchronized
  subst hsz
  have hD := hD0.self (sz := s.heap.size)
  clear hD0
  generalize hAe : va_A (wMc cI cJ adm m0 m1 m2 m3 m4 m5 m6 m7 m8 m9 m10 m11 m12 m13 m14 m15 m16 m17 m18 m19 m20 m21 m22 m23 m24 m25 m26 m27) s.heap.size = A at hD ⊢
  have hA : ∀ q : Nat, s.heap.size ≤ q → A q := fun q h => by rw [← hAe]; exact Or.inr h
  have hS : va_S A s.heap s.heap [] := va_S.rf
  have hinX3 : ∀ w ∈ wsX30, w ∈ wsX3_counted := by decide +kernel
  have hw0 : (Cond.fieldLink RX3 69 "SwingCircuitsModel" "thrown" "I").before _ s = true := hts _ (by decide +kernel)
  have hw1 : (Cond.fieldLink RX3 101 "SwingCircuitsModel" "linkMany" "I").before _ s = true := hts _ (by decide +kernel)
  have hw2 : (Cond.fieldLink RX3 25 "SwingCircuitsModel" "now" "[J").before _ s = true := hts _ (by decide +kernel)
  have hl := lv_entry ([.ref (adm 0), .int p1]) (n := 2) (Nat.le_of_ble_eq_true rfl)
  rw [lg_entry_eq]
  generalize (lg_sl ([.ref (adm 0), .int p1]) ++ List.replicate (2 - (lg_sl ([.ref (adm 0), .int p1])).length) Slot.unset).toArray = ls at hl ⊢
  replace hl : lv_has ls 2 [(0, .ref (adm 0)), (1, .int p1)] := hl
  unfold f_X3_counted at hf
  refine lv_aload_n hx hb dX3_counted_0 rfl (lv_at hl 0 rfl) ?_
  refine lv_iconst (v := 0) hx hb dX3_counted_1 (by decide) ?_
  refine va_put (D := D) (ci := 3) (v := .int 0) (ty := .int) (C := RX3) (T := TX3) (N := 28) hx hb hts hinX3 tyX3 tyX3_ok nmX3 hown hK.1 hP hD hS 0 rfl rfl 23 (by decide) hw0 (fun _ h9 => h9) rfl (by decide +kernel) rfl rfl (Nat.le_of_ble_eq_true rfl) dX3_counted_2 (fun H locs hP hD hS => ?_)
  replace hP : va_P D vwCl (wMc cI cJ adm m0 m1 m2 m3 m4 m5 m6 m7 m8 m9 m10 m11 m12 m13 m14 m15 m16 m17 m18 m19 m20 m21 m22 0 m24 m25 m26 m27) H := hP
  replace hD : va_D A (wMc cI cJ adm m0 m1 m2 m3 m4 m5 m6 m7 m8 m9 m10 m11 m12 m13 m14 m15 m16 m17 m18 m19 m20 m21 m22 0 m24 m25 m26 m27) := hD
  refine lv_iload_n hx hb dX3_counted_5 rfl (lv_at hl 1 rfl) ?_
  refine lv_iconst (v := 0) hx hb dX3_counted_6 (by decide) ?_
  refine lv_aload_n hx hb dX3_counted_7 rfl (lv_at hl 0 rfl) ?_
  refine va_get (D := D) (ci := 3) (v := .int m6) (C := RX3) (T := TX3) (N := 28) hx hb hts hinX3 hown hK.1 hP 0 rfl rfl 6 (by decide) hw1 (fun _ h9 => h9) rfl dX3_counted_8 ?_
  refine lv_iconst (v := 1) hx hb dX3_counted_11 (by decide) ?_
  refine lv_isub hx hb dX3_counted_12 ?_
  replace hf := bdE hf
  obtain ⟨r1, hgr1, hf⟩ := hf
  refine xI0 (va_runS (As := [.int p1, .int 0, .int (m6 - 1)]) (rest := []) ⟨hx, hb, hml, hown, hts⟩ (c_X3_in l D cI cJ cZ p1 0 (m6 - 1) r1 hgr1 _) (va_cwS 3 hts gX3_counted_X3_in rfl rfl rfl (by decide +kernel) ⟨Nat.le_of_ble_eq_true rfl, Nat.le_of_ble_eq_true rfl⟩) ⟨PreW.blind, (xPre0 hK _)⟩ rfl rfl hl.1 rfl (lv_room (Nat.le_of_ble_eq_true rfl)) dX3_counted_13 ⟨Nat.le_of_ble_eq_true rfl, Nat.le_of_ble_eq_true rfl⟩) hP hS hA (fun H locs hP hS => ?_)
  refine lv_if_eq (tgt := 32) hx hb dX3_counted_16 (by decide) (fun q2 => ?_) (fun q2 => ?_)
  · replace hf := ifT q2 hf
    refine lv_iconst (v := (-1)) hx hb dX3_counted_32 (by decide) ?_
    obtain rfl := Option.some.inj hf
    exact retI hx hb hr hlocks hP hD hS dX3_counted_33
  · replace hf := ifF q2 hf
    refine lv_aload_n hx hb dX3_counted_19 rfl (lv_at hl 0 rfl) ?_
    refine va_get (D := D) (ci := 3) (v := .ref (adm 6)) (C := RX3) (T := TX3) (N := 28) hx hb hts hinX3 hown hK.1 hP 0 rfl rfl 7 (by decide) hw2 (fun _ h9 => h9) rfl dX3_counted_20 ?_
    refine lv_bipush (v := 12) hx hb dX3_counted_23 (by decide) ?_
    refine lv_iload_n hx hb dX3_counted_25 rfl (lv_at hl 1 rfl) ?_
    refine lv_iadd hx hb dX3_counted_26 ?_
    replace hf := gdE hf
    obtain ⟨h3, hf⟩ := hf
    refine va_lald hx hb hK.1 hP 6 1 rfl rfl (ib_in h3) dX3_counted_27 ?_
    refine lv_l2i hx hb dX3_counted_28 rfl ?_
    refine lv_goto (tgt := 33) hx hb dX3_counted_29 (by decide) ?_
    obtain rfl := Option.some.inj hf
    exact retI hx hb hr hlocks hP hD hS dX3_counted_33

def f_X3_event (m7 : Al) (m10 : Ar) (m11 : Ar) (m12 : Al) (m13 : Al) (p1 : Int32) (p2 : Int32) : Option (Int32 × Int32) :=
if p1 < 0 then
some ((-1), 0)
else
gd (ib 30 31) (
if (0 : Int32) ≤ (lg_cmp p1.toInt64 (m7 (30 : Int32).toNatClampNeg)) then
some ((-1), 0)
else
if p1 < 500 then
if p2 = 0 then
gd (ib p1 500) (
some (m10 p1.toNatClampNeg, 0))
else
if p2 = 1 then
gd (ib p1 500) (
some (m11 p1.toNatClampNeg, 0))
else
if p2 = 2 then
gd (ib p1 500) (
some ((m12 p1.toNatClampNeg).toInt32, 0))
else
if p2 = 3 then
gd (ib p1 500) (
some ((m13 p1.toNatClampNeg).toInt32, 0))
else
some ((-1), 0)
else
some ((-1), 0))
abbrev rmX3_event : Room := { frames := 0, cells := 0, slots := 0, locals := 0 }
set_option maxHeartbeats 40000000 in
set_option maxRecDepth 100000 in
theorem c_X3_event (l : Launch) (D : va_G) (cI cJ cZ : ClassId) (adm : Nat → Nat) (m0 : Ar) (m1 : Ar) (m2 : Ar) (m3 : Ar) (m4 : Int32) (m5 : Ar) (m6 : Int32) (m7 : Al) (m8 : Al) (m9 : Al) (m10 : Ar) (m11 : Ar) (m12 : Al) (m13 : Al) (m14 : Int32) (m15 : Al) (m16 : Int32) (m17 : Al) (m18 : Ar) (m19 : Int32) (m20 : Al) (m21 : Al) (m22 : Int32) (m23 : Int32) (m24 : Int64) (m25 : Int64) (m26 : Int32) (m27 : Int32) (p1 : Int32) (p2 : Int32) (o : (Int32 × Int32)) (hf : f_X3_event m7 m10 m11 m12 m13 p1 p2 = some o) : CtI l yX3_event wsX3_event rmX3_event D cI cJ cZ [.ref (adm 0), .int p1, .int p2] (wMc cI cJ adm m0 m1 m2 m3 m4 m5 m6 m7 m8 m9 m10 m11 m12 m13 m14 m15 m16 m17 m18 m19 m20 m21 m22 m23 m24 m25 m26 m27) (wMc cI cJ adm m0 m1 m2 m3 m4 m5 m6 m7 m8 m9 m10 m11 m12 m13 m14 m15 m16 m17 m18 m19 m20 m21 m22 o.2 m24 m25 m26 m27) o.1 := by
  intro sz
  refine Met.ofW (cc := cX3_event) (maxL := 3) (ret := (some .int)) (by decide) rfl ?_
  intro p e s m args below meth c s₁ B hml hv
  obtain ⟨rfl, hsz, hP, hK, hD0⟩ := hv
  have hx := B.exec
  have hb := B.bytes
  have hr := B.returns
  have hts := atoms_spec (ws := wsX3_event) B.pre
  have hown : s.vm.findClass RX3 = some m.cls := findClass_of_methodNamed B.named
  have hlocks := B.notSynchronized
  subst hsz
  have hD := hD0.self (sz := s.heap.size)
  clear hD0
  generalize hAe : va_A (wMc cI cJ adm m0 m1 m2 m3 m4 m5 m6 m7 m8 m9 m10 m11 m12 m13 m14 m15 m16 m17 m18 m19 m20 m21 m22 m23 m24 m25 m26 m27) s.heap.size = A at hD ⊢
  have hA : ∀ q : Nat, s.heap.size ≤ q → A q := fun q h => by rw [← hAe]; exact Or.inr h
  have hS : va_S A s.heap s.heap [] := va_S.rf
  have hinX3 : ∀ w ∈ wsX30, w ∈ wsX3_event := by decide +kernel
  have hw0 : (Cond.fieldLink RX3 69 "SwingCircuitsModel" "thrown" "I").before _ s = true := hts _ (by decide +kernel)
  have hw1 : (Cond.fieldLink RX3 25 "SwingCircuitsModel" "now" "[J").before _ s = true := hts _ (by decide +kernel)
  have hw2 : (Cond.fieldLink RX3 44 "SwingCircuitsModel" "logDen" "[J").before _ s = true := hts _ (by decide +kernel)
  have hw3 : (Cond.fieldLink RX3 41 "SwingCircuitsModel" "logNum" "[J").before _ s = true := hts _ (by decide +kernel)
  have hw4 : (Cond.fieldLink RX3 38 "SwingCircuitsModel" "logAt" "[I").before _ s = true := hts _ (by decide +kernel)
  have hw5 : (Cond.fieldLink RX3 35 "SwingCircuitsModel" "logCell" "[I").before _ s = true := hts _ (by decide +kernel)
  have hl := lv_entry ([.ref (adm 0), .int p1, .int p2]) (n := 3) (Nat.le_of_ble_eq_true rfl)
  rw [lg_entry_eq]
  generalize (lg_sl ([.ref (adm 0), .int p1, .int p2]) ++ List.replicate (3 - (lg_sl ([.ref (adm 0), .int p1, .int p2])).length) Slot.unset).toArray = ls at hl ⊢
  replace hl : lv_has ls 3 [(0, .ref (adm 0)), (1, .int p1), (2, .int p2)] := hl
  unfold f_X3_event at hf
  refine lv_aload_n hx hb dX3_event_0 rfl (lv_at hl 0 rfl) ?_
  refine lv_iconst (v := 0) hx hb dX3_event_1 (by decide) ?_
  refine va_put (D := D) (ci := 3) (v := .int 0) (ty := .int) (C := RX3) (T := TX3) (N := 28) hx hb hts hinX3 tyX3 tyX3_ok nmX3 hown hK.1 hP hD hS 0 rfl rfl 23 (by decide) hw0 (fun _ h9 => h9) rfl (by decide +kernel) rfl rfl (Nat.le_of_ble_eq_true rfl) dX3_event_2 (fun H locs hP hD hS => ?_)
  replace hP : va_P D vwCl (wMc cI cJ adm m0 m1 m2 m3 m4 m5 m6 m7 m8 m9 m10 m11 m12 m13 m14 m15 m16 m17 m18 m19 m20 m21 m22 0 m24 m25 m26 m27) H := hP
  replace hD : va_D A (wMc cI cJ adm m0 m1 m2 m3 m4 m5 m6 m7 m8 m9 m10 m11 m12 m13 m14 m15 m16 m17 m18 m19 m20 m21 m22 0 m24 m25 m26 m27) := hD
  refine lv_iload_n hx hb dX3_event_5 rfl (lv_at hl 1 rfl) ?_
  refine lv_if_lt (tgt := 29) hx hb dX3_event_6 (by decide) (fun q1 => ?_) (fun q1 => ?_)
  · replace hf := ifT q1 hf
    refine lv_iconst (v := (-1)) hx hb dX3_event_29 (by decide) ?_
    obtain rfl := Option.some.inj hf
    exact retI hx hb hr hlocks hP hD hS dX3_event_30
  · replace hf := ifF q1 hf
    refine lv_iload_n hx hb dX3_event_9 rfl (lv_at hl 1 rfl) ?_
    refine lv_i2l hx hb dX3_event_10 rfl ?_
    refine lv_aload_n hx hb dX3_event_11 rfl (lv_at hl 0 rfl) ?_
    refine va_get (D := D) (ci := 3) (v := .ref (adm 6)) (C := RX3) (T := TX3) (N := 28) hx hb hts hinX3 hown hK.1 hP 0 rfl rfl 7 (by decide) hw1 (fun _ h9 => h9) rfl dX3_event_12 ?_
    refine lv_bipush (v := 30) hx hb dX3_event_15 (by decide) ?_
    replace hf := gdE hf
    obtain ⟨h2, hf⟩ := hf
    refine va_lald hx hb hK.1 hP 6 1 rfl rfl (ib_in h2) dX3_event_17 ?_
    refine W.lcmp hx hb dX3_event_18 ?_
    refine lv_if_ge (tgt := 29) hx hb dX3_event_19 (by decide) (fun q3 => ?_) (fun q3 => ?_)
    · replace hf := ifT q3 hf
      refine lv_iconst (v := (-1)) hx hb dX3_event_29 (by decide) ?_
      obtain rfl := Option.some.inj hf
      exact retI hx hb hr hlocks hP hD hS dX3_event_30
    · replace hf := ifF q3 hf
      refine lv_iload_n hx hb dX3_event_22 rfl (lv_at hl 1 rfl) ?_
      refine lv_sipush (v := 500) hx hb dX3_event_23 (by decide) ?_
      refine lv_icmp_lt (tgt := 31) hx hb dX3_event_26 (by decide) (fun q4 => ?_) (fun q4 => ?_)
      · replace hf := ifT q4 hf
        refine lv_iload_n hx hb dX3_event_31 rfl (lv_at hl 2 rfl) ?_
        by_cases q5 : p2 = 0
        · replace hf := ifT q5 hf
          refine lv_tableIn (off := 32) (tgt := 64) hx hb dX3_event_32 (by rw [q5]; decide) (by rw [q5]; decide) (by rw [q5]; rfl) (by decide) ?_
          refine lv_aload_n hx hb dX3_event_64 rfl (lv_at hl 0 rfl) ?_
          refine va_get (D := D) (ci := 3) (v := .ref (adm 9)) (C := RX3) (T := TX3) (N := 28) hx hb hts hinX3 hown hK.1 hP 0 rfl rfl 10 (by decide) hw5 (fun _ h9 => h9) rfl dX3_event_65 ?_
          refine lv_iload_n hx hb dX3_event_68 rfl (lv_at hl 1 rfl) ?_
          replace hf := gdE hf
          obtain ⟨h6, hf⟩ := hf
          refine va_iald hx hb hK.1 hP 9 0 rfl rfl (ib_in h6) dX3_event_69 ?_
          obtain rfl := Option.some.inj hf
          exact retI hx hb hr hlocks hP hD hS dX3_event_70
        · replace hf := ifF q5 hf
          by_cases q7 : p2 = 1
          · replace hf := ifT q7 hf
            refine lv_tableIn (off := 39) (tgt := 71) hx hb dX3_event_32 (by rw [q7]; decide) (by rw [q7]; decide) (by rw [q7]; rfl) (by decide) ?_
            refine lv_aload_n hx hb dX3_event_71 rfl (lv_at hl 0 rfl) ?_
            refine va_get (D := D) (ci := 3) (v := .ref (adm 10)) (C := RX3) (T := TX3) (N := 28) hx hb hts hinX3 hown hK.1 hP 0 rfl rfl 11 (by decide) hw4 (fun _ h9 => h9) rfl dX3_event_72 ?_
            refine lv_iload_n hx hb dX3_event_75 rfl (lv_at hl 1 rfl) ?_
            replace hf := gdE hf
            obtain ⟨h8, hf⟩ := hf
            refine va_iald hx hb hK.1 hP 10 0 rfl rfl (ib_in h8) dX3_event_76 ?_
            obtain rfl := Option.some.inj hf
            exact retI hx hb hr hlocks hP hD hS dX3_event_77
          · replace hf := ifF q7 hf
            by_cases q9 : p2 = 2
            · replace hf := ifT q9 hf
              refine lv_tableIn (off := 46) (tgt := 78) hx hb dX3_event_32 (by rw [q9]; decide) (by rw [q9]; decide) (by rw [q9]; rfl) (by decide) ?_
              refine lv_aload_n hx hb dX3_event_78 rfl (lv_at hl 0 rfl) ?_
              refine va_get (D := D) (ci := 3) (v := .ref (adm 11)) (C := RX3) (T := TX3) (N := 28) hx hb hts hinX3 hown hK.1 hP 0 rfl rfl 12 (by decide) hw3 (fun _ h9 => h9) rfl dX3_event_79 ?_
              refine lv_iload_n hx hb dX3_event_82 rfl (lv_at hl 1 rfl) ?_
              replace hf := gdE hf
              obtain ⟨h10, hf⟩ := hf
              refine va_lald hx hb hK.1 hP 11 1 rfl rfl (ib_in h10) dX3_event_83 ?_
              refine lv_l2i hx hb dX3_event_84 rfl ?_
              obtain rfl := Option.some.inj hf
              exact retI hx hb hr hlocks hP hD hS dX3_event_85
            · replace hf := ifF q9 hf
              by_cases q11 : p2 = 3
              · replace hf := ifT q11 hf
                refine lv_tableIn (off := 54) (tgt := 86) hx hb dX3_event_32 (by rw [q11]; decide) (by rw [q11]; decide) (by rw [q11]; rfl) (by decide) ?_
                refine lv_aload_n hx hb dX3_event_86 rfl (lv_at hl 0 rfl) ?_
                refine va_get (D := D) (ci := 3) (v := .ref (adm 12)) (C := RX3) (T := TX3) (N := 28) hx hb hts hinX3 hown hK.1 hP 0 rfl rfl 13 (by decide) hw2 (fun _ h9 => h9) rfl dX3_event_87 ?_
                refine lv_iload_n hx hb dX3_event_90 rfl (lv_at hl 1 rfl) ?_
                replace hf := gdE hf
                obtain ⟨h12, hf⟩ := hf
                refine va_lald hx hb hK.1 hP 12 1 rfl rfl (ib_in h12) dX3_event_91 ?_
                refine lv_l2i hx hb dX3_event_92 rfl ?_
                obtain rfl := Option.some.inj hf
                exact retI hx hb hr hlocks hP hD hS dX3_event_93
              · replace hf := ifF q11 hf
                refine lv_tableOut (tgt := 94) hx hb dX3_event_32 (by have nq5 := lv_neT q5 (a := 0) (by decide); have nq7 := lv_neT q7 (a := 1) (by decide); have nq9 := lv_neT q9 (a := 2) (by decide); have nq11 := lv_neT q11 (a := 3) (by decide); omega) (by decide) ?_
                refine lv_iconst (v := (-1)) hx hb dX3_event_94 (by decide) ?_
                obtain rfl := Option.some.inj hf
                exact retI hx hb hr hlocks hP hD hS dX3_event_95
      · replace hf := ifF q4 hf
        refine lv_iconst (v := (-1)) hx hb dX3_event_29 (by decide) ?_
        obtain rfl := Option.some.inj hf
        exact retI hx hb hr hlocks hP hD hS dX3_event_30

def f_X3_ringed (m16 : Int32) (m17 : Al) (p1 : Int32) : Option (Int64 × Int32) :=
if m16 = 0 then
some ((-1), 0)
else
(f_X3_in p1 0 7).bind (fun r2 =>
if (b2i r2) = 0 then
some ((-1), 0)
else
gd (ib p1 8) (
some (m17 p1.toNatClampNeg, 0)))
abbrev rmX3_ringed : Room := { frames := 1, cells := 0, slots := 0, locals := 22 }
set_option maxHeartbeats 40000000 in
set_option maxRecDepth 100000 in
theorem c_X3_ringed (l : Launch) (D : va_G) (cI cJ cZ : ClassId) (adm : Nat → Nat) (m0 : Ar) (m1 : Ar) (m2 : Ar) (m3 : Ar) (m4 : Int32) (m5 : Ar) (m6 : Int32) (m7 : Al) (m8 : Al) (m9 : Al) (m10 : Ar) (m11 : Ar) (m12 : Al) (m13 : Al) (m14 : Int32) (m15 : Al) (m16 : Int32) (m17 : Al) (m18 : Ar) (m19 : Int32) (m20 : Al) (m21 : Al) (m22 : Int32) (m23 : Int32) (m24 : Int64) (m25 : Int64) (m26 : Int32) (m27 : Int32) (p1 : Int32) (o : (Int64 × Int32)) (hf : f_X3_ringed m16 m17 p1 = some o) : CtL l yX3_ringed wsX3_ringed rmX3_ringed D cI cJ cZ [.ref (adm 0), .int p1] (wMc cI cJ adm m0 m1 m2 m3 m4 m5 m6 m7 m8 m9 m10 m11 m12 m13 m14 m15 m16 m17 m18 m19 m20 m21 m22 m23 m24 m25 m26 m27) (wMc cI cJ adm m0 m1 m2 m3 m4 m5 m6 m7 m8 m9 m10 m11 m12 m13 m14 m15 m16 m17 m18 m19 m20 m21 m22 o.2 m24 m25 m26 m27) o.1 := by
  intro sz
  refine Met.ofW (cc := cX3_ringed) (maxL := 2) (ret := (some .long)) (by decide) rfl ?_
  intro p e s m args below meth c s₁ B hml hv
  obtain ⟨rfl, hsz, hP, hK, hD0⟩ := hv
  have hx := B.exec
  have hb := B.bytes
  have hr := B.returns
  have hts := atoms_spec (ws := wsX3_ringed) B.pre
  have hown : s.vm.findClass RX3 = some m.cls := findClass_of_methodNamed B.named
  have hlocks := B.notSynchronized
  subst hsz
  have hD := hD0.self (sz := s.heap.size)
  clear hD0
  generalize hAe : va_A (wMc cI cJ adm m0 m1 m2 m3 m4 m5 m6 m7 m8 m9 m10 m11 m12 m13 m14 m15 m16 m17 m18 m19 m20 m21 m22 m23 m24 m25 m26 m27) s.heap.size = A at hD ⊢
  have hA : ∀ q : Nat, s.heap.size ≤ q → A q := fun q h => by rw [← hAe]; exact Or.inr h
  have hS : va_S A s.heap s.heap [] := va_S.rf
  have hinX3 : ∀ w ∈ wsX30, w ∈ wsX3_ringed := by decide +kernel
  have hw0 : (Cond.fieldLink RX3 69 "SwingCircuitsModel" "thrown" "I").before _ s = true := hts _ (by decide +kernel)
  have hw1 : (Cond.fieldLink RX3 170 "SwingCircuitsModel" "wasRing" "Z").before _ s = true := hts _ (by decide +kernel)
  have hw2 : (Cond.fieldLink RX3 54 "SwingCircuitsModel" "ringed" "[J").before _ s = true := hts _ (by decide +kernel)
  have hw3 : (Cond.constantLong RX3 177 (-1)).before _ s = true := hts _ (by decide +kernel)
  have hl := lv_entry ([.ref (adm 0), .int p1]) (n := 2) (Nat.le_of_ble_eq_true rfl)
  rw [lg_entry_eq]
  generalize (lg_sl ([.ref (adm 0), .int p1]) ++ List.replicate (2 - (lg_sl ([.ref (adm 0), .int p1])).length) Slot.unset).toArray = ls at hl ⊢
  replace hl : lv_has ls 2 [(0, .ref (adm 0)), (1, .int p1)] := hl
  unfold f_X3_ringed at hf
  refine lv_aload_n hx hb dX3_ringed_0 rfl (lv_at hl 0 rfl) ?_
  refine lv_iconst (v := 0) hx hb dX3_ringed_1 (by decide) ?_
  refine va_put (D := D) (ci := 3) (v := .int 0) (ty := .int) (C := RX3) (T := TX3) (N := 28) hx hb hts hinX3 tyX3 tyX3_ok nmX3 hown hK.1 hP hD hS 0 rfl rfl 23 (by decide) hw0 (fun _ h9 => h9) rfl (by decide +kernel) rfl rfl (Nat.le_of_ble_eq_true rfl) dX3_ringed_2 (fun H locs hP hD hS => ?_)
  replace hP : va_P D vwCl (wMc cI cJ adm m0 m1 m2 m3 m4 m5 m6 m7 m8 m9 m10 m11 m12 m13 m14 m15 m16 m17 m18 m19 m20 m21 m22 0 m24 m25 m26 m27) H := hP
  replace hD : va_D A (wMc cI cJ adm m0 m1 m2 m3 m4 m5 m6 m7 m8 m9 m10 m11 m12 m13 m14 m15 m16 m17 m18 m19 m20 m21 m22 0 m24 m25 m26 m27) := hD
  refine lv_aload_n hx hb dX3_ringed_5 rfl (lv_at hl 0 rfl) ?_
  refine va_get (D := D) (ci := 3) (v := .int m16) (C := RX3) (T := TX3) (N := 28) hx hb hts hinX3 hown hK.1 hP 0 rfl rfl 16 (by decide) hw1 (fun _ h9 => h9) rfl dX3_ringed_6 ?_
  refine lv_if_eq (tgt := 31) hx hb dX3_ringed_9 (by decide) (fun q1 => ?_) (fun q1 => ?_)
  · replace hf := ifT q1 hf
    refine lv_ldc2 hx hb hown hw3 dX3_ringed_31 ?_
    obtain rfl := Option.some.inj hf
    exact retL hx hb hr hlocks hP hD hS dX3_ringed_34
  · replace hf := ifF q1 hf
    refine lv_iload_n hx hb dX3_ringed_12 rfl (lv_at hl 1 rfl) ?_
    refine lv_iconst (v := 0) hx hb dX3_ringed_13 (by decide) ?_
    refine lv_bipush (v := 7) hx hb dX3_ringed_14 (by decide) ?_
    replace hf := bdE hf
    obtain ⟨r2, hgr2, hf⟩ := hf
    refine xI0 (va_runS (As := [.int p1, .int 0, .int 7]) (rest := []) ⟨hx, hb, hml, hown, hts⟩ (c_X3_in l D cI cJ cZ p1 0 7 r2 hgr2 _) (va_cwS 3 hts gX3_ringed_X3_in rfl rfl rfl (by decide +kernel) ⟨Nat.le_of_ble_eq_true rfl, Nat.le_of_ble_eq_true rfl⟩) ⟨PreW.blind, (xPre0 hK _)⟩ rfl rfl hl.1 rfl (lv_room (Nat.le_of_ble_eq_true rfl)) dX3_ringed_16 ⟨Nat.le_of_ble_eq_true rfl, Nat.le_of_ble_eq_true rfl⟩) hP hS hA (fun H locs hP hS => ?_)
    refine lv_if_eq (tgt := 31) hx hb dX3_ringed_19 (by decide) (fun q3 => ?_) (fun q3 => ?_)
    · replace hf := ifT q3 hf
      refine lv_ldc2 hx hb hown hw3 dX3_ringed_31 ?_
      obtain rfl := Option.some.inj hf
      exact retL hx hb hr hlocks hP hD hS dX3_ringed_34
    · replace hf := ifF q3 hf
      refine lv_aload_n hx hb dX3_ringed_22 rfl (lv_at hl 0 rfl) ?_
      refine va_get (D := D) (ci := 3) (v := .ref (adm 14)) (C := RX3) (T := TX3) (N := 28) hx hb hts hinX3 hown hK.1 hP 0 rfl rfl 17 (by decide) hw2 (fun _ h9 => h9) rfl dX3_ringed_23 ?_
      refine lv_iload_n hx hb dX3_ringed_26 rfl (lv_at hl 1 rfl) ?_
      replace hf := gdE hf
      obtain ⟨h4, hf⟩ := hf
      refine va_lald hx hb hK.1 hP 14 1 rfl rfl (ib_in h4) dX3_ringed_27 ?_
      refine lv_goto (tgt := 34) hx hb dX3_ringed_28 (by decide) ?_
      obtain rfl := Option.some.inj hf
      exact retL hx hb hr hlocks hP hD hS dX3_ringed_34

def f_X3_drawer_B28 (m18 : Ar) (m19 : Int32) (p1 : Int32) (rec28 : Int32 → Option (Int32 × Ar × Int32 × Int32)) (l2_28 : Int32) : Option (Int32 × Ar × Int32 × Int32) :=
if m19 ≤ l2_28 then
gd (ib m19 10) (
bnd (m19 + 1) (fun v6 =>
some (v6, upd m18 m19.toNatClampNeg p1, v6, 0)))
else
gd (ib l2_28 10) (
if ¬ (m18 l2_28.toNatClampNeg) = p1 then
rec28 (l2_28 + 1)
else
some ((-1), m18, m19, 0))
def f_X3_drawer_L28 (m18 : Ar) (m19 : Int32) (p1 : Int32) : Nat → Int32 → Option (Int32 × Ar × Int32 × Int32)
  | 0 => fun _ => none
  | n + 1 => f_X3_drawer_B28 m18 m19 p1 (f_X3_drawer_L28 m18 m19 p1 n)
def f_X3_drawer (m18 : Ar) (m19 : Int32) (p1 : Int32) : Option (Int32 × Ar × Int32 × Int32) :=
(f_X3_in p1 1 60).bind (fun r1 =>
if (b2i r1) = 0 then
some ((-1), m18, m19, 0)
else
if ¬ m19 = 10 then
f_X3_drawer_L28 m18 m19 p1 fuel 0
else
some ((-1), m18, m19, 0))
abbrev rmX3_drawer : Room := { frames := 1, cells := 0, slots := 0, locals := 22 }
set_option maxHeartbeats 40000000 in
set_option maxRecDepth 100000 in
theorem c_X3_drawer (l : Launch) (D : va_G) (cI cJ cZ : ClassId) (adm : Nat → Nat) (m0 : Ar) (m1 : Ar) (m2 : Ar) (m3 : Ar) (m4 : Int32) (m5 : Ar) (m6 : Int32) (m7 : Al) (m8 : Al) (m9 : Al) (m10 : Ar) (m11 : Ar) (m12 : Al) (m13 : Al) (m14 : Int32) (m15 : Al) (m16 : Int32) (m17 : Al) (m18 : Ar) (m19 : Int32) (m20 : Al) (m21 : Al) (m22 : Int32) (m23 : Int32) (m24 : Int64) (m25 : Int64) (m26 : Int32) (m27 : Int32) (p1 : Int32) (o : (Int32 × Ar × Int32 × Int32)) (hf : f_X3_drawer m18 m19 p1 = some o) : CtI l yX3_drawer wsX3_drawer rmX3_drawer D cI cJ cZ [.ref (adm 0), .int p1] (wMc cI cJ adm m0 m1 m2 m3 m4 m5 m6 m7 m8 m9 m10 m11 m12 m13 m14 m15 m16 m17 m18 m19 m20 m21 m22 m23 m24 m25 m26 m27) (wMc cI cJ adm m0 m1 m2 m3 m4 m5 m6 m7 m8 m9 m10 m11 m12 m13 m14 m15 m16 m17 o.2.1 o.2.2.1 m20 m21 m22 o.2.2.2 m24 m25 m26 m27) o.1 := by
  intro sz
  refine Met.ofW (cc := cX3_drawer) (maxL := 3) (ret := (some .int)) (by decide) rfl ?_
  intro p e s m args below meth c s₁ B hml hv
  obtain ⟨rfl, hsz, hP, hK, hD0⟩ := hv
  have hx := B.exec
  have hb := B.bytes
  have hr := B.returns
  have hts := atoms_spec (ws := wsX3_drawer) B.pre
  have hown : s.vm.findClass RX3 = some m.cls := findClass_of_methodNamed B.named
  have hlocks := B.notSynchronized
  subst hsz
  have hD := hD0.self (sz := s.heap.size)
  clear hD0
  generalize hAe : va_A (wMc cI cJ adm m0 m1 m2 m3 m4 m5 m6 m7 m8 m9 m10 m11 m12 m13 m14 m15 m16 m17 m18 m19 m20 m21 m22 m23 m24 m25 m26 m27) s.heap.size = A at hD ⊢
  have hA : ∀ q : Nat, s.heap.size ≤ q → A q := fun q h => by rw [← hAe]; exact Or.inr h
  have hS : va_S A s.heap s.heap [] := va_S.rf
  have hinX3 : ∀ w ∈ wsX30, w ∈ wsX3_drawer := by decide +kernel
  have hw0 : (Cond.fieldLink RX3 69 "SwingCircuitsModel" "thrown" "I").before _ s = true := hts _ (by decide +kernel)
  have hw1 : (Cond.fieldLink RX3 149 "SwingCircuitsModel" "drawn" "I").before _ s = true := hts _ (by decide +kernel)
  have hw2 : (Cond.fieldLink RX3 57 "SwingCircuitsModel" "drawer" "[I").before _ s = true := hts _ (by decide +kernel)
  have hl := lv_entry ([.ref (adm 0), .int p1]) (n := 3) (Nat.le_of_ble_eq_true rfl)
  rw [lg_entry_eq]
  generalize (lg_sl ([.ref (adm 0), .int p1]) ++ List.replicate (3 - (lg_sl ([.ref (adm 0), .int p1])).length) Slot.unset).toArray = ls at hl ⊢
  replace hl : lv_has ls 3 [(0, .ref (adm 0)), (1, .int p1)] := hl
  unfold f_X3_drawer at hf
  refine lv_aload_n hx hb dX3_drawer_0 rfl (lv_at hl 0 rfl) ?_
  refine lv_iconst (v := 0) hx hb dX3_drawer_1 (by decide) ?_
  refine va_put (D := D) (ci := 3) (v := .int 0) (ty := .int) (C := RX3) (T := TX3) (N := 28) hx hb hts hinX3 tyX3 tyX3_ok nmX3 hown hK.1 hP hD hS 0 rfl rfl 23 (by decide) hw0 (fun _ h9 => h9) rfl (by decide +kernel) rfl rfl (Nat.le_of_ble_eq_true rfl) dX3_drawer_2 (fun H locs hP hD hS => ?_)
  replace hP : va_P D vwCl (wMc cI cJ adm m0 m1 m2 m3 m4 m5 m6 m7 m8 m9 m10 m11 m12 m13 m14 m15 m16 m17 m18 m19 m20 m21 m22 0 m24 m25 m26 m27) H := hP
  replace hD : va_D A (wMc cI cJ adm m0 m1 m2 m3 m4 m5 m6 m7 m8 m9 m10 m11 m12 m13 m14 m15 m16 m17 m18 m19 m20 m21 m22 0 m24 m25 m26 m27) := hD
  refine lv_iload_n hx hb dX3_drawer_5 rfl (lv_at hl 1 rfl) ?_
  refine lv_iconst (v := 1) hx hb dX3_drawer_6 (by decide) ?_
  refine lv_bipush (v := 60) hx hb dX3_drawer_7 (by decide) ?_
  replace hf := bdE hf
  obtain ⟨r1, hgr1, hf⟩ := hf
  refine xI0 (va_runS (As := [.int p1, .int 1, .int 60]) (rest := []) ⟨hx, hb, hml, hown, hts⟩ (c_X3_in l D cI cJ cZ p1 1 60 r1 hgr1 _) (va_cwS 3 hts gX3_drawer_X3_in rfl rfl rfl (by decide +kernel) ⟨Nat.le_of_ble_eq_true rfl, Nat.le_of_ble_eq_true rfl⟩) ⟨PreW.blind, (xPre0 hK _)⟩ rfl rfl hl.1 rfl (lv_room (Nat.le_of_ble_eq_true rfl)) dX3_drawer_9 ⟨Nat.le_of_ble_eq_true rfl, Nat.le_of_ble_eq_true rfl⟩) hP hS hA (fun H locs hP hS => ?_)
  refine lv_if_eq (tgt := 24) hx hb dX3_drawer_12 (by decide) (fun q2 => ?_) (fun q2 => ?_)
  · replace hf := ifT q2 hf
    refine lv_iconst (v := (-1)) hx hb dX3_drawer_24 (by decide) ?_
    obtain rfl := Option.some.inj hf
    exact retI hx hb hr hlocks hP hD hS dX3_drawer_25
  · replace hf := ifF q2 hf
    refine lv_aload_n hx hb dX3_drawer_15 rfl (lv_at hl 0 rfl) ?_
    refine va_get (D := D) (ci := 3) (v := .int m19) (C := RX3) (T := TX3) (N := 28) hx hb hts hinX3 hown hK.1 hP 0 rfl rfl 19 (by decide) hw1 (fun _ h9 => h9) rfl dX3_drawer_16 ?_
    refine lv_bipush (v := 10) hx hb dX3_drawer_19 (by decide) ?_
    refine lv_icmp_ne (tgt := 26) hx hb dX3_drawer_21 (by decide) (fun q3 => ?_) (fun q3 => ?_)
    · replace hf := ifT q3 hf
      refine lv_iconst (v := 0) hx hb dX3_drawer_26 (by decide) ?_
      refine lv_istore_n (lv' := [(2, .int 0), (0, .ref (adm 0)), (1, .int p1)]) hx hb dX3_drawer_27 rfl hl (by decide) rfl (fun ls hl => ?_)
      have L28 : ∀ (n : Nat) (l2_28 : Int32) (H : Heap) (locs : List Loc) (ls : Array Slot), f_X3_drawer_L28 m18 m19 p1 n l2_28 = some o → va_P D vwCl (wMc cI cJ adm m0 m1 m2 m3 m4 m5 m6 m7 m8 m9 m10 m11 m12 m13 m14 m15 m16 m17 m18 m19 m20 m21 m22 0 m24 m25 m26 m27) H → va_D A (wMc cI cJ adm m0 m1 m2 m3 m4 m5 m6 m7 m8 m9 m10 m11 m12 m13 m14 m15 m16 m17 m18 m19 m20 m21 m22 0 m24 m25 m26 m27) → va_S A s.heap H locs → lv_has ls 3 [(0, .ref (adm 0)), (1, .int p1), (2, .int l2_28)] → W p l e (headSpec wsX3_drawer rmX3_drawer).room s m ([.ref (adm 0), .int p1] : List Value).toArray below meth c H locs 0 0 (MQ below (QI D A o.1 (wMc cI cJ adm m0 m1 m2 m3 m4 m5 m6 m7 m8 m9 m10 m11 m12 m13 m14 m15 m16 m17 o.2.1 o.2.2.1 m20 m21 m22 o.2.2.2 m24 m25 m26 m27)) ([.ref (adm 0), .int p1] : List Value).toArray s 0 0 A) (F0 m 28 ls []) := by
        intro n
        induction n with
        | zero => intro l2_28 H locs ls hf; cases hf
        | succ n ih28 =>
          intro l2_28 H locs ls hf hP hD hS hl
          replace hf : f_X3_drawer_B28 m18 m19 p1 (f_X3_drawer_L28 m18 m19 p1 n) l2_28 = some o := hf
          generalize f_X3_drawer_L28 m18 m19 p1 n = rec28 at ih28 hf
          unfold f_X3_drawer_B28 at hf
          refine lv_iload_n hx hb dX3_drawer_28 rfl (lv_at hl 2 rfl) ?_
          refine lv_aload_n hx hb dX3_drawer_29 rfl (lv_at hl 0 rfl) ?_
          refine va_get (D := D) (ci := 3) (v := .int m19) (C := RX3) (T := TX3) (N := 28) hx hb hts hinX3 hown hK.1 hP 0 rfl rfl 19 (by decide) hw1 (fun _ h9 => h9) rfl dX3_drawer_30 ?_
          refine lv_icmp_ge (tgt := 54) hx hb dX3_drawer_33 (by decide) (fun q4 => ?_) (fun q4 => ?_)
          · replace hf := ifT q4 hf
            refine lv_aload_n hx hb dX3_drawer_54 rfl (lv_at hl 0 rfl) ?_
            refine va_get (D := D) (ci := 3) (v := .ref (adm 15)) (C := RX3) (T := TX3) (N := 28) hx hb hts hinX3 hown hK.1 hP 0 rfl rfl 18 (by decide) hw2 (fun _ h9 => h9) rfl dX3_drawer_55 ?_
            refine lv_aload_n hx hb dX3_drawer_58 rfl (lv_at hl 0 rfl) ?_
            refine va_get (D := D) (ci := 3) (v := .int m19) (C := RX3) (T := TX3) (N := 28) hx hb hts hinX3 hown hK.1 hP 0 rfl rfl 19 (by decide) hw1 (fun _ h9 => h9) rfl dX3_drawer_59 ?_
            refine lv_iload_n hx hb dX3_drawer_62 rfl (lv_at hl 1 rfl) ?_
            replace hf := gdE hf
            obtain ⟨h5, hf⟩ := hf
            refine va_iast hx hb hK.1 hP hD hS 15 0 rfl rfl (ib_in h5) dX3_drawer_63 (fun H locs hP hD hS => ?_)
            replace hP : va_P D vwCl (wMc cI cJ adm m0 m1 m2 m3 m4 m5 m6 m7 m8 m9 m10 m11 m12 m13 m14 m15 m16 m17 (upd m18 m19.toNatClampNeg p1) m19 m20 m21 m22 0 m24 m25 m26 m27) H := hP
            replace hD : va_D A (wMc cI cJ adm m0 m1 m2 m3 m4 m5 m6 m7 m8 m9 m10 m11 m12 m13 m14 m15 m16 m17 (upd m18 m19.toNatClampNeg p1) m19 m20 m21 m22 0 m24 m25 m26 m27) := hD
            refine lv_aload_n hx hb dX3_drawer_64 rfl (lv_at hl 0 rfl) ?_
            refine lv_dup hx hb dX3_drawer_65 rfl ?_
            refine va_get (D := D) (ci := 3) (v := .int m19) (C := RX3) (T := TX3) (N := 28) hx hb hts hinX3 hown hK.1 hP 0 rfl rfl 19 (by decide) hw1 (fun _ h9 => h9) rfl dX3_drawer_66 ?_
            refine lv_iconst (v := 1) hx hb dX3_drawer_69 (by decide) ?_
            refine lv_iadd hx hb dX3_drawer_70 ?_
            refine lv_topi (fun v6 ev6 => ?_)
            replace hf := bndE hf ev6
            refine va_put (D := D) (ci := 3) (v := .int v6) (ty := .int) (C := RX3) (T := TX3) (N := 28) hx hb hts hinX3 tyX3 tyX3_ok nmX3 hown hK.1 hP hD hS 0 rfl rfl 19 (by decide) hw1 (fun _ h9 => h9) rfl (by decide +kernel) rfl rfl (Nat.le_of_ble_eq_true rfl) dX3_drawer_71 (fun H locs hP hD hS => ?_)
            replace hP : va_P D vwCl (wMc cI cJ adm m0 m1 m2 m3 m4 m5 m6 m7 m8 m9 m10 m11 m12 m13 m14 m15 m16 m17 (upd m18 m19.toNatClampNeg p1) v6 m20 m21 m22 0 m24 m25 m26 m27) H := hP
            replace hD : va_D A (wMc cI cJ adm m0 m1 m2 m3 m4 m5 m6 m7 m8 m9 m10 m11 m12 m13 m14 m15 m16 m17 (upd m18 m19.toNatClampNeg p1) v6 m20 m21 m22 0 m24 m25 m26 m27) := hD
            refine lv_aload_n hx hb dX3_drawer_74 rfl (lv_at hl 0 rfl) ?_
            refine va_get (D := D) (ci := 3) (v := .int v6) (C := RX3) (T := TX3) (N := 28) hx hb hts hinX3 hown hK.1 hP 0 rfl rfl 19 (by decide) hw1 (fun _ h9 => h9) rfl dX3_drawer_75 ?_
            obtain rfl := Option.some.inj hf
            exact retI hx hb hr hlocks hP hD hS dX3_drawer_78
          · replace hf := ifF q4 hf
            refine lv_aload_n hx hb dX3_drawer_36 rfl (lv_at hl 0 rfl) ?_
            refine va_get (D := D) (ci := 3) (v := .ref (adm 15)) (C := RX3) (T := TX3) (N := 28) hx hb hts hinX3 hown hK.1 hP 0 rfl rfl 18 (by decide) hw2 (fun _ h9 => h9) rfl dX3_drawer_37 ?_
            refine lv_iload_n hx hb dX3_drawer_40 rfl (lv_at hl 2 rfl) ?_
            replace hf := gdE hf
            obtain ⟨h7, hf⟩ := hf
            refine va_iald hx hb hK.1 hP 15 0 rfl rfl (ib_in h7) dX3_drawer_41 ?_
            refine lv_iload_n hx hb dX3_drawer_42 rfl (lv_at hl 1 rfl) ?_
            refine lv_icmp_ne (tgt := 48) hx hb dX3_drawer_43 (by decide) (fun q8 => ?_) (fun q8 => ?_)
            · replace hf := ifT q8 hf
              refine lv_iinc (v := l2_28 + 1) (lv' := [(2, .int (l2_28 + 1)), (0, .ref (adm 0)), (1, .int p1)]) hx hb dX3_drawer_48 hl (k := 2) rfl (by rfl) (by decide) rfl (fun ls hl => ?_)
              refine lv_goto (tgt := 28) hx hb dX3_drawer_51 (by decide) ?_
              exact ih28 (l2_28 + 1) _ _ _ hf hP hD hS (lv_sub hl [1, 2, 0] rfl)
            · replace hf := ifN q8 hf
              refine lv_iconst (v := (-1)) hx hb dX3_drawer_46 (by decide) ?_
              obtain rfl := Option.some.inj hf
              exact retI hx hb hr hlocks hP hD hS dX3_drawer_47
      exact L28 fuel 0 _ _ _ hf hP hD hS (lv_sub hl [1, 2, 0] rfl)
    · replace hf := ifN q3 hf
      refine lv_iconst (v := (-1)) hx hb dX3_drawer_24 (by decide) ?_
      obtain rfl := Option.some.inj hf
      exact retI hx hb hr hlocks hP hD hS dX3_drawer_25

def f_X3_forget (m22 : Int32) : Option (Int32 × Int32 × Int32) :=
some (m22, 0, 0)
abbrev rmX3_forget : Room := { frames := 0, cells := 0, slots := 0, locals := 0 }
set_option maxHeartbeats 40000000 in
set_option maxRecDepth 100000 in
theorem c_X3_forget (l : Launch) (D : va_G) (cI cJ cZ : ClassId) (adm : Nat → Nat) (m0 : Ar) (m1 : Ar) (m2 : Ar) (m3 : Ar) (m4 : Int32) (m5 : Ar) (m6 : Int32) (m7 : Al) (m8 : Al) (m9 : Al) (m10 : Ar) (m11 : Ar) (m12 : Al) (m13 : Al) (m14 : Int32) (m15 : Al) (m16 : Int32) (m17 : Al) (m18 : Ar) (m19 : Int32) (m20 : Al) (m21 : Al) (m22 : Int32) (m23 : Int32) (m24 : Int64) (m25 : Int64) (m26 : Int32) (m27 : Int32) (o : (Int32 × Int32 × Int32)) (hf : f_X3_forget m22 = some o) : CtI l yX3_forget wsX3_forget rmX3_forget D cI cJ cZ [.ref (adm 0)] (wMc cI cJ adm m0 m1 m2 m3 m4 m5 m6 m7 m8 m9 m10 m11 m12 m13 m14 m15 m16 m17 m18 m19 m20 m21 m22 m23 m24 m25 m26 m27) (wMc cI cJ adm m0 m1 m2 m3 m4 m5 m6 m7 m8 m9 m10 m11 m12 m13 m14 m15 m16 m17 m18 m19 m20 m21 o.2.1 o.2.2 m24 m25 m26 m27) o.1 := by
  intro sz
  refine Met.ofW (cc := cX3_forget) (maxL := 2) (ret := (some .int)) (by decide) rfl ?_
  intro p e s m args below meth c s₁ B hml hv
  obtain ⟨rfl, hsz, hP, hK, hD0⟩ := hv
  have hx := B.exec
  have hb := B.bytes
  have hr := B.returns
  have hts := atoms_spec (ws := wsX3_forget) B.pre
  have hown : s.vm.findClass RX3 = some m.cls := findClass_of_methodNamed B.named
  have hlocks := B.notSynchronized
  subst hsz
  have hD := hD0.self (sz := s.heap.size)
  clear hD0
  generalize hAe : va_A (wMc cI cJ adm m0 m1 m2 m3 m4 m5 m6 m7 m8 m9 m10 m11 m12 m13 m14 m15 m16 m17 m18 m19 m20 m21 m22 m23 m24 m25 m26 m27) s.heap.size = A at hD ⊢
  have hA : ∀ q : Nat, s.heap.size ≤ q → A q := fun q h => by rw [← hAe]; exact Or.inr h
  have hS : va_S A s.heap s.heap [] := va_S.rf
  have hinX3 : ∀ w ∈ wsX30, w ∈ wsX3_forget := by decide +kernel
  have hw0 : (Cond.fieldLink RX3 69 "SwingCircuitsModel" "thrown" "I").before _ s = true := hts _ (by decide +kernel)
  have hw1 : (Cond.fieldLink RX3 152 "SwingCircuitsModel" "measured" "I").before _ s = true := hts _ (by decide +kernel)
  have hl := lv_entry ([.ref (adm 0)]) (n := 2) (Nat.le_of_ble_eq_true rfl)
  rw [lg_entry_eq]
  generalize (lg_sl ([.ref (adm 0)]) ++ List.replicate (2 - (lg_sl ([.ref (adm 0)])).length) Slot.unset).toArray = ls at hl ⊢
  replace hl : lv_has ls 2 [(0, .ref (adm 0))] := hl
  unfold f_X3_forget at hf
  refine lv_aload_n hx hb dX3_forget_0 rfl (lv_at hl 0 rfl) ?_
  refine lv_iconst (v := 0) hx hb dX3_forget_1 (by decide) ?_
  refine va_put (D := D) (ci := 3) (v := .int 0) (ty := .int) (C := RX3) (T := TX3) (N := 28) hx hb hts hinX3 tyX3 tyX3_ok nmX3 hown hK.1 hP hD hS 0 rfl rfl 23 (by decide) hw0 (fun _ h9 => h9) rfl (by decide +kernel) rfl rfl (Nat.le_of_ble_eq_true rfl) dX3_forget_2 (fun H locs hP hD hS => ?_)
  replace hP : va_P D vwCl (wMc cI cJ adm m0 m1 m2 m3 m4 m5 m6 m7 m8 m9 m10 m11 m12 m13 m14 m15 m16 m17 m18 m19 m20 m21 m22 0 m24 m25 m26 m27) H := hP
  replace hD : va_D A (wMc cI cJ adm m0 m1 m2 m3 m4 m5 m6 m7 m8 m9 m10 m11 m12 m13 m14 m15 m16 m17 m18 m19 m20 m21 m22 0 m24 m25 m26 m27) := hD
  refine lv_aload_n hx hb dX3_forget_5 rfl (lv_at hl 0 rfl) ?_
  refine va_get (D := D) (ci := 3) (v := .int m22) (C := RX3) (T := TX3) (N := 28) hx hb hts hinX3 hown hK.1 hP 0 rfl rfl 22 (by decide) hw1 (fun _ h9 => h9) rfl dX3_forget_6 ?_
  refine lv_istore_n (lv' := [(1, .int m22), (0, .ref (adm 0))]) hx hb dX3_forget_9 rfl hl (by decide) rfl (fun ls hl => ?_)
  refine lv_aload_n hx hb dX3_forget_10 rfl (lv_at hl 1 rfl) ?_
  refine lv_iconst (v := 0) hx hb dX3_forget_11 (by decide) ?_
  refine va_put (D := D) (ci := 3) (v := .int 0) (ty := .int) (C := RX3) (T := TX3) (N := 28) hx hb hts hinX3 tyX3 tyX3_ok nmX3 hown hK.1 hP hD hS 0 rfl rfl 22 (by decide) hw1 (fun _ h9 => h9) rfl (by decide +kernel) rfl rfl (Nat.le_of_ble_eq_true rfl) dX3_forget_12 (fun H locs hP hD hS => ?_)
  replace hP : va_P D vwCl (wMc cI cJ adm m0 m1 m2 m3 m4 m5 m6 m7 m8 m9 m10 m11 m12 m13 m14 m15 m16 m17 m18 m19 m20 m21 0 0 m24 m25 m26 m27) H := hP
  replace hD : va_D A (wMc cI cJ adm m0 m1 m2 m3 m4 m5 m6 m7 m8 m9 m10 m11 m12 m13 m14 m15 m16 m17 m18 m19 m20 m21 0 0 m24 m25 m26 m27) := hD
  refine lv_iload_n hx hb dX3_forget_15 rfl (lv_at hl 0 rfl) ?_
  obtain rfl := Option.some.inj hf
  exact retI hx hb hr hlocks hP hD hS dX3_forget_16
