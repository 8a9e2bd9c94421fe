def wMc (cI cJ : ClassId) (a : Nat → Nat) (m0 : Ar) (m1 : Ar) (m2 : Ar) (m3 : Ar) (m4 : Int32) (m5 : Ar) (m6 : Int32) (m7 : Al) (m8 : Al) (m9 : Al) (m10 : Ar) (m11 : Ar) (m12 : Al) (m13 : Al) (m14 : Int32) (m15 : Al) (m16 : Int32) (m17 : Al) (m18 : Ar) (m19 : Int32) (m20 : Al) (m21 : Al) (m22 : Int32) (m23 : Int32) (m24 : Int64) (m25 : Int64) (m26 : Int32) (m27 : Int32) : va_W := [(a 0, .inr (3, [.ref (a 1), .ref (a 2), .ref (a 3), .ref (a 4), .int m4, .ref (a 5), .int m6, .ref (a 6), .ref (a 7), .ref (a 8), .ref (a 9), .ref (a 10), .ref (a 11), .ref (a 12), .int m14, .ref (a 13), .int m16, .ref (a 14), .ref (a 15), .int m19, .ref (a 16), .ref (a 17), .int m22, .int m23, .long m24, .long m25, .int m26, .int m27])), (a 1, .inl (cI, 4, .inl m0)), (a 2, .inl (cI, 4, .inl m1)), (a 3, .inl (cI, 4, .inl m2)), (a 4, .inl (cI, 4, .inl m3)), (a 5, .inl (cI, 48, .inl m5)), (a 6, .inl (cJ, 31, .inr (.inl m7))), (a 7, .inl (cJ, 31, .inr (.inl m8))), (a 8, .inl (cJ, 31, .inr (.inl m9))), (a 9, .inl (cI, 500, .inl m10)), (a 10, .inl (cI, 500, .inl m11)), (a 11, .inl (cJ, 500, .inr (.inl m12))), (a 12, .inl (cJ, 500, .inr (.inl m13))), (a 13, .inl (cJ, 9331, .inr (.inl m15))), (a 14, .inl (cJ, 8, .inr (.inl m17))), (a 15, .inl (cI, 10, .inl m18)), (a 16, .inl (cJ, 8, .inr (.inl m20))), (a 17, .inl (cJ, 8, .inr (.inl m21)))]
def f_X3_thrown (m23 : Int32) : Option Int32 :=
some m23
abbrev rmX3_thrown : Room := { frames := 0, cells := 0, slots := 0, locals := 0 }
set_option maxHeartbeats 40000000 in
set_option maxRecDepth 100000 in
theorem c_X3_thrown (l : Launch) (D : va_G) (cI cJ cZ : ClassId) (adm : Nat → Nat) (m0 : Ar) (m1 : Ar) (m2 : Ar) (m3 : Ar) (m4 : Int32) (m5 : Ar) (m6 : Int32) (m7 : Al) (m8 : Al) (m9 : Al) (m10 : Ar) (m11 : Ar) (m12 : Al) (m13 : Al) (m14 : Int32) (m15 : Al) (m16 : Int32) (m17 : Al) (m18 : Ar) (m19 : Int32) (m20 : Al) (m21 : Al) (m22 : Int32) (m23 : Int32) (m24 : Int64) (m25 : Int64) (m26 : Int32) (m27 : Int32) (o : Int32) (hf : f_X3_thrown m23 = some o) : CtI l yX3_thrown wsX3_thrown rmX3_thrown D cI cJ cZ [.ref (adm 0)] (wMc cI cJ adm m0 m1 m2 m3 m4 m5 m6 m7 m8 m9 m10 m11 m12 m13 m14 m15 m16 m17 m18 m19 m20 m21 m22 m23 m24 m25 m26 m27) (wMc cI cJ adm m0 m1 m2 m3 m4 m5 m6 m7 m8 m9 m10 m11 m12 m13 m14 m15 m16 m17 m18 m19 m20 m21 m22 m23 m24 m25 m26 m27) o := by
  intro sz
  refine Met.ofW (cc := cX3_thrown) (maxL := 1) (ret := (some .int)) (by decide) rfl ?_
  intro p e s m args below meth c s₁ B hml hv
  obtain ⟨rfl, hsz, hP, hK, hD0⟩ := hv
  have hx := B.exec
  have hb := B.bytes
  have hr := B.returns
  have hts := atoms_spec (ws := wsX3_thrown) B.pre
  have hown : s.vm.findClass RX3 = some m.cls := findClass_of_methodNamed B.named
  have hlocks := B.notSynchronized
  subst hsz
  have hD := hD0.self (sz := s.heap.size)
  clear hD0
  generalize hAe : va_A (wMc cI cJ adm m0 m1 m2 m3 m4 m5 m6 m7 m8 m9 m10 m11 m12 m13 m14 m15 m16 m17 m18 m19 m20 m21 m22 m23 m24 m25 m26 m27) s.heap.size = A at hD ⊢
  have hA : ∀ q : Nat, s.heap.size ≤ q → A q := fun q h => by rw [← hAe]; exact Or.inr h
  have hS : va_S A s.heap s.heap [] := va_S.rf
  have hinX3 : ∀ w ∈ wsX30, w ∈ wsX3_thrown := by decide +kernel
  have hw0 : (Cond.fieldLink RX3 69 "SwingCircuitsModel" "thrown" "I").before _ s = true := hts _ (by decide +kernel)
  have hl := lv_entry ([.ref (adm 0)]) (n := 1) (Nat.le_of_ble_eq_true rfl)
  rw [lg_entry_eq]
  generalize (lg_sl ([.ref (adm 0)]) ++ List.replicate (1 - (lg_sl ([.ref (adm 0)])).length) Slot.unset).toArray = ls at hl ⊢
  replace hl : lv_has ls 1 [(0, .ref (adm 0))] := hl
  unfold f_X3_thrown at hf
  refine lv_aload_n hx hb dX3_thrown_0 rfl (lv_at hl 0 rfl) ?_
  refine va_get (D := D) (ci := 3) (v := .int m23) (C := RX3) (T := TX3) (N := 28) hx hb hts hinX3 hown hK.1 hP 0 rfl rfl 23 (by decide) hw0 (fun _ h9 => h9) rfl dX3_thrown_1 ?_
  obtain rfl := Option.some.inj hf
  exact retI hx hb hr hlocks hP hD hS dX3_thrown_4

def f_X3_in (p1 : Int32) (p2 : Int32) (p3 : Int32) : Option Bool :=
if p1 < p2 then
some false
else
if p3 < p1 then
some false
else
some true
abbrev rmX3_in : Room := { frames := 0, cells := 0, slots := 0, locals := 0 }
set_option maxHeartbeats 40000000 in
set_option maxRecDepth 100000 in
theorem c_X3_in (l : Launch) (D : va_G) (cI cJ cZ : ClassId) (p1 : Int32) (p2 : Int32) (p3 : Int32) (o : Bool) (hf : f_X3_in p1 p2 p3 = some o) : CtI l yX3_in wsX3_in rmX3_in D cI cJ cZ [.int p1, .int p2, .int p3] [] [] (b2i o) := by
  intro sz
  refine Met.ofW (cc := cX3_in) (maxL := 3) (ret := (some .boolean)) (by decide) rfl ?_
  intro p e s m args below meth c s₁ B hml hv
  obtain ⟨rfl, hsz, hP, hK, hD0⟩ := hv
  have hx := B.exec
  have hb := B.bytes
  have hr := B.returns
  have hts := atoms_spec (ws := wsX3_in) B.pre
  have hown : s.vm.findClass RX3 = some m.cls := findClass_of_methodNamed B.named
  have hlocks := B.notSynchronized
  subst hsz
  have hD := hD0.self (sz := s.heap.size)
  clear hD0
  generalize hAe : va_A [] s.heap.size = A at hD ⊢
  have hA : ∀ q : Nat, s.heap.size ≤ q → A q := fun q h => by rw [← hAe]; exact Or.inr h
  have hS : va_S A s.heap s.heap [] := va_S.rf
  have hl := lv_entry ([.int p1, .int p2, .int p3]) (n := 3) (Nat.le_of_ble_eq_true rfl)
  rw [lg_entry_eq]
  generalize (lg_sl ([.int p1, .int p2, .int p3]) ++ List.replicate (3 - (lg_sl ([.int p1, .int p2, .int p3])).length) Slot.unset).toArray = ls at hl ⊢
  replace hl : lv_has ls 3 [(0, .int p1), (1, .int p2), (2, .int p3)] := hl
  unfold f_X3_in at hf
  refine lv_iload_n hx hb dX3_in_0 rfl (lv_at hl 0 rfl) ?_
  refine lv_iload_n hx hb dX3_in_1 rfl (lv_at hl 1 rfl) ?_
  refine lv_icmp_lt (tgt := 14) hx hb dX3_in_2 (by decide) (fun q1 => ?_) (fun q1 => ?_)
  · replace hf := ifT q1 hf
    refine lv_iconst (v := 0) hx hb dX3_in_14 (by decide) ?_
    obtain rfl := Option.some.inj hf
    exact retZ false rfl hx hb hr hlocks hP hD hS dX3_in_15
  · replace hf := ifF q1 hf
    refine lv_iload_n hx hb dX3_in_5 rfl (lv_at hl 0 rfl) ?_
    refine lv_iload_n hx hb dX3_in_6 rfl (lv_at hl 2 rfl) ?_
    refine lv_icmp_gt (tgt := 14) hx hb dX3_in_7 (by decide) (fun q2 => ?_) (fun q2 => ?_)
    · replace hf := ifT q2 hf
      refine lv_iconst (v := 0) hx hb dX3_in_14 (by decide) ?_
      obtain rfl := Option.some.inj hf
      exact retZ false rfl hx hb hr hlocks hP hD hS dX3_in_15
    · replace hf := ifF q2 hf
      refine lv_iconst (v := 1) hx hb dX3_in_10 (by decide) ?_
      refine lv_goto (tgt := 15) hx hb dX3_in_11 (by decide) ?_
      obtain rfl := Option.some.inj hf
      exact retZ true rfl hx hb hr hlocks hP hD hS dX3_in_15

def f_X3_isCell (m4 : Int32) (p1 : Int32) : Option Bool :=
(f_X3_in p1 0 (m4 - 1)).bind (fun r1 =>
some r1)
abbrev rmX3_isCell : Room := { frames := 1, cells := 0, slots := 0, locals := 22 }
set_option maxHeartbeats 40000000 in
set_option maxRecDepth 100000 in
theorem c_X3_isCell (l : Launch) (D : va_G) (cI cJ cZ : ClassId) (adm : Nat → Nat) (m0 : Ar) (m1 : Ar) (m2 : Ar) (m3 : Ar) (m4 : Int32) (m5 : Ar) (m6 : Int32) (m7 : Al) (m8 : Al) (m9 : Al) (m10 : Ar) (m11 : Ar) (m12 : Al) (m13 : Al) (m14 : Int32) (m15 : Al) (m16 : Int32) (m17 : Al) (m18 : Ar) (m19 : Int32) (m20 : Al) (m21 : Al) (m22 : Int32) (m23 : Int32) (m24 : Int64) (m25 : Int64) (m26 : Int32) (m27 : Int32) (p1 : Int32) (o : Bool) (hf : f_X3_isCell m4 p1 = some o) : CtI l yX3_isCell wsX3_isCell rmX3_isCell D cI cJ cZ [.ref (adm 0), .int p1] (wMc cI cJ adm m0 m1 m2 m3 m4 m5 m6 m7 m8 m9 m10 m11 m12 m13 m14 m15 m16 m17 m18 m19 m20 m21 m22 m23 m24 m25 m26 m27) (wMc cI cJ adm m0 m1 m2 m3 m4 m5 m6 m7 m8 m9 m10 m11 m12 m13 m14 m15 m16 m17 m18 m19 m20 m21 m22 m23 m24 m25 m26 m27) (b2i o) := by
  intro sz
  refine Met.ofW (cc := cX3_isCell) (maxL := 2) (ret := (some .boolean)) (by decide) rfl ?_
  intro p e s m args below meth c s₁ B hml hv
  obtain ⟨rfl, hsz, hP, hK, hD0⟩ := hv
  have hx := B.exec
  have hb := B.bytes
  have hr := B.returns
  have hts := atoms_spec (ws := wsX3_isCell) B.pre
  have hown : s.vm.findClass RX3 = some m.cls := findClass_of_methodNamed B.named
  have hlocks := B.notSynchronized
  subst hsz
  have hD := hD0.self (sz := s.heap.size)
  clear hD0
  generalize hAe : va_A (wMc cI cJ adm m0 m1 m2 m3 m4 m5 m6 m7 m8 m9 m10 m11 m12 m13 m14 m15 m16 m17 m18 m19 m20 m21 m22 m23 m24 m25 m26 m27) s.heap.size = A at hD ⊢
  have hA : ∀ q : Nat, s.heap.size ≤ q → A q := fun q h => by rw [← hAe]; exact Or.inr h
  have hS : va_S A s.heap s.heap [] := va_S.rf
  have hinX3 : ∀ w ∈ wsX30, w ∈ wsX3_isCell := by decide +kernel
  have hw0 : (Cond.fieldLink RX3 73 "SwingCircuitsModel" "cells" "I").before _ s = true := hts _ (by decide +kernel)
  have hl := lv_entry ([.ref (adm 0), .int p1]) (n := 2) (Nat.le_of_ble_eq_true rfl)
  rw [lg_entry_eq]
  generalize (lg_sl ([.ref (adm 0), .int p1]) ++ List.replicate (2 - (lg_sl ([.ref (adm 0), .int p1])).length) Slot.unset).toArray = ls at hl ⊢
  replace hl : lv_has ls 2 [(0, .ref (adm 0)), (1, .int p1)] := hl
  unfold f_X3_isCell at hf
  refine lv_iload_n hx hb dX3_isCell_0 rfl (lv_at hl 1 rfl) ?_
  refine lv_iconst (v := 0) hx hb dX3_isCell_1 (by decide) ?_
  refine lv_aload_n hx hb dX3_isCell_2 rfl (lv_at hl 0 rfl) ?_
  refine va_get (D := D) (ci := 3) (v := .int m4) (C := RX3) (T := TX3) (N := 28) hx hb hts hinX3 hown hK.1 hP 0 rfl rfl 4 (by decide) hw0 (fun _ h9 => h9) rfl dX3_isCell_3 ?_
  refine lv_iconst (v := 1) hx hb dX3_isCell_6 (by decide) ?_
  refine lv_isub hx hb dX3_isCell_7 ?_
  replace hf := bdE hf
  obtain ⟨r1, hgr1, hf⟩ := hf
  refine xI0 (va_runS (As := [.int p1, .int 0, .int (m4 - 1)]) (rest := []) ⟨hx, hb, hml, hown, hts⟩ (c_X3_in l D cI cJ cZ p1 0 (m4 - 1) r1 hgr1 _) (va_cwS 3 hts gX3_isCell_X3_in rfl rfl rfl (by decide +kernel) ⟨Nat.le_of_ble_eq_true rfl, Nat.le_of_ble_eq_true rfl⟩) ⟨PreW.blind, (xPre0 hK _)⟩ rfl rfl hl.1 rfl (lv_room (Nat.le_of_ble_eq_true rfl)) dX3_isCell_8 ⟨Nat.le_of_ble_eq_true rfl, Nat.le_of_ble_eq_true rfl⟩) hP hS hA (fun H locs hP hS => ?_)
  obtain rfl := Option.some.inj hf
  exact retZ r1 rfl hx hb hr hlocks hP hD hS dX3_isCell_11

def f_X3_commonB (rec0 : Int64 → Int64 → Option Int64) (p1 : Int64) (p2 : Int64) : Option Int64 :=
if ¬ (lg_cmp p2 0) = 0 then
gd (nzL p2) (
(rec0 p2 (p1 - p1 / p2 * p2)).bind (fun r3 =>
some r3))
else
some p1
def f_X3_commonN : Nat → Int64 → Int64 → Option Int64
  | 0 => fun _ _ => none
  | n + 1 => f_X3_commonB (f_X3_commonN n)
def f_X3_common (p1 : Int64) (p2 : Int64) : Option Int64 := f_X3_commonN 120 p1 p2
abbrev rmC (n : Nat) : Room := { frames := n, cells := 0, slots := 0, locals := 23 * n }
abbrev rmX3_common : Room := rmC 120
set_option maxHeartbeats 40000000 in
set_option maxRecDepth 100000 in
theorem c_X3_commonN (l : Launch) (D : va_G) (cI cJ cZ : ClassId) : ∀ (n : Nat) (p1 : Int64) (p2 : Int64) (o : Int64), f_X3_commonN n p1 p2 = some o → CtL l yX3_common wsX3_common (rmC n) D cI cJ cZ [.long p1, .long p2] [] [] o := by
  intro n
  induction n with
  | zero => intro p1 p2 o hf; cases hf
  | succ n ih =>
    intro p1 p2 o hf
    intro sz
    refine Met.ofW (cc := cX3_common) (maxL := 4) (ret := (some .long)) (by decide) rfl ?_
    intro p e s m args below meth c s₁ B hml hv
    obtain ⟨rfl, hsz, hP, hK, hD0⟩ := hv
    have hx := B.exec
    have hb := B.bytes
    have hr := B.returns
    have hts := atoms_spec (ws := wsX3_common) B.pre
    have hown : s.vm.findClass RX3 = some m.cls := findClass_of_methodNamed B.named
    have hlocks := B.notSynchronized
    subst hsz
    have hD := hD0.self (sz := s.heap.size)
    clear hD0
    generalize hAe : va_A [] s.heap.size = A at hD ⊢
    have hA : ∀ q : Nat, s.heap.size ≤ q → A q := fun q h => by rw [← hAe]; exact Or.inr h
    have hS : va_S A s.heap s.heap [] := va_S.rf
    have hl := lv_entry ([.long p1, .long p2]) (n := 4) (Nat.le_of_ble_eq_true rfl)
    rw [lg_entry_eq]
    generalize (lg_sl ([.long p1, .long p2]) ++ List.replicate (4 - (lg_sl ([.long p1, .long p2])).length) Slot.unset).toArray = ls at hl ⊢
    replace hl : lv_has ls 4 [(0, .long p1), (2, .long p2)] := hl
    replace hf : f_X3_commonB (f_X3_commonN n) p1 p2 = some o := hf
    generalize f_X3_commonN n = rec0 at ih hf
    unfold f_X3_commonB at hf
    refine lv_lload_n hx hb dX3_common_0 rfl (lv_at hl 1 rfl) ?_
    refine lv_lconst (v := 0) hx hb dX3_common_1 (by decide) ?_
    refine W.lcmp hx hb dX3_common_2 ?_
    refine lv_if_ne (tgt := 10) hx hb dX3_common_3 (by decide) (fun q1 => ?_) (fun q1 => ?_)
    · replace hf := ifT q1 hf
      refine lv_lload_n hx hb dX3_common_10 rfl (lv_at hl 1 rfl) ?_
      refine lv_lload_n hx hb dX3_common_11 rfl (lv_at hl 0 rfl) ?_
      refine lv_lload_n hx hb dX3_common_12 rfl (lv_at hl 1 rfl) ?_
      replace hf := gdE hf
      obtain ⟨h2, hf⟩ := hf
      refine lv_lrem hx hb dX3_common_13 (nzL_ne h2) ?_
      replace hf := bdE hf
      obtain ⟨r3, hgr3, hf⟩ := hf
      refine xL0 (va_runS (As := [.long p2, .long (p1 - p1 / p2 * p2)]) (rest := []) ⟨hx, hb, hml, hown, hts⟩ (ih p2 (p1 - p1 / p2 * p2) r3 hgr3 _) (va_cwS 2 hts gX3_common_X3_common rfl rfl rfl (by decide +kernel) ⟨Nat.le_refl _, by show 8 + (4 + 11) + 23 * n ≤ 23 * (n + 1); omega⟩) ⟨PreW.blind, (xPre0 hK _)⟩ rfl rfl hl.1 rfl (lv_room (Nat.le_of_ble_eq_true rfl)) dX3_common_14 ⟨Nat.le_of_ble_eq_true rfl, Nat.le_of_ble_eq_true rfl⟩) hP hS hA (fun H locs hP hS => ?_)
      obtain rfl := Option.some.inj hf
      exact retL hx hb hr hlocks hP hD hS dX3_common_17
    · replace hf := ifN q1 hf
      refine lv_lload_n hx hb dX3_common_6 rfl (lv_at hl 0 rfl) ?_
      refine lv_goto (tgt := 17) hx hb dX3_common_7 (by decide) ?_
      obtain rfl := Option.some.inj hf
      exact retL hx hb hr hlocks hP hD hS dX3_common_17

theorem c_X3_common (l : Launch) (D : va_G) (cI cJ cZ : ClassId) (p1 : Int64) (p2 : Int64) (o : Int64) (hf : f_X3_common p1 p2 = some o) : CtL l yX3_common wsX3_common rmX3_common D cI cJ cZ [.long p1, .long p2] [] [] o := c_X3_commonN l D cI cJ cZ 120 p1 p2 o hf

def f_X3_make_J32 (p2 : Int64) (r1 : Int64) (k1_32 : Int64) : Option (Int64 × Int64) :=
gd (nzL r1) (
bnd ((if 0 < p2 then p2 else -p2) / r1) (fun v3 =>
some (k1_32, v3)))
def f_X3_make (p1 : Int64) (p2 : Int64) : Option (Int64 × Int64) :=
(f_X3_common (if 0 < p1 then p1 else -p1) (if 0 < p2 then p2 else -p2)).bind (fun r1 =>
if (0 : Int32) ≤ (lg_cmp p2 0) then
gd (nzL r1) (
f_X3_make_J32 p2 r1 (p1 / r1))
else
gd (nzL r1) (
f_X3_make_J32 p2 r1 ((-p1) / r1)))
abbrev rmX3_make : Room := { frames := 121, cells := 0, slots := 0, locals := 2783 }
set_option maxHeartbeats 40000000 in
set_option maxRecDepth 100000 in
theorem c_X3_make (l : Launch) (D : va_G) (cI cJ cZ : ClassId) (adm : Nat → Nat) (m0 : Ar) (m1 : Ar) (m2 : Ar) (m3 : Ar) (m4 : Int32) (m5 : Ar) (m6 : Int32) (m7 : Al) (m8 : Al) (m9 : Al) (m10 : Ar) (m11 : Ar) (m12 : Al) (m13 : Al) (m14 : Int32) (m15 : Al) (m16 : Int32) (m17 : Al) (m18 : Ar) (m19 : Int32) (m20 : Al) (m21 : Al) (m22 : Int32) (m23 : Int32) (m24 : Int64) (m25 : Int64) (m26 : Int32) (m27 : Int32) (p1 : Int64) (p2 : Int64) (o : (Int64 × Int64)) (hf : f_X3_make p1 p2 = some o) : CtV l yX3_make wsX3_make rmX3_make D cI cJ cZ [.ref (adm 0), .long p1, .long p2] (wMc cI cJ adm m0 m1 m2 m3 m4 m5 m6 m7 m8 m9 m10 m11 m12 m13 m14 m15 m16 m17 m18 m19 m20 m21 m22 m23 m24 m25 m26 m27) (wMc cI cJ adm m0 m1 m2 m3 m4 m5 m6 m7 m8 m9 m10 m11 m12 m13 m14 m15 m16 m17 m18 m19 m20 m21 m22 m23 o.1 o.2 m26 m27) := by
  intro sz
  refine Met.ofW (cc := cX3_make) (maxL := 7) (ret := none) (by decide) rfl ?_
  intro p e s m args below meth c s₁ B hml hv
  obtain ⟨rfl, hsz, hP, hK, hD0⟩ := hv
  have hx := B.exec
  have hb := B.bytes
  have hr := B.returns
  have hts := atoms_spec (ws := wsX3_make) B.pre
  have hown : s.vm.findClass RX3 = some m.cls := findClass_of_methodNamed B.named
  have hlocks := B.notSynchronized
  subst hsz
  have hD := hD0.self (sz := s.heap.size)
  clear hD0
  generalize hAe : va_A (wMc cI cJ adm m0 m1 m2 m3 m4 m5 m6 m7 m8 m9 m10 m11 m12 m13 m14 m15 m16 m17 m18 m19 m20 m21 m22 m23 m24 m25 m26 m27) s.heap.size = A at hD ⊢
  have hA : ∀ q : Nat, s.heap.size ≤ q → A q := fun q h => by rw [← hAe]; exact Or.inr h
  have hS : va_S A s.heap s.heap [] := va_S.rf
  have hinX3 : ∀ w ∈ wsX30, w ∈ wsX3_make := by decide +kernel
  have hw0 : (Cond.methodLink RX3 84 Lib.MathLoose.abs_long.x).before _ s = true := hts _ (by decide +kernel)
  have hw1 : (Cond.static Lib.MathLoose.abs_long.x).before _ s = true := hts _ (by decide +kernel)
  have hw2 : (Cond.initialized "java/lang/Math").before _ s = true := hts _ (by decide +kernel)
  have hw3 : (Cond.code Lib.MathLoose.abs_long.x Lib.MathLoose.abs_long.code 2 (some .long)).before _ s = true := hts _ (by decide +kernel)
  have hw4 : (Cond.fieldLink RX3 90 "SwingCircuitsModel" "num" "J").before _ s = true := hts _ (by decide +kernel)
  have hw5 : (Cond.fieldLink RX3 94 "SwingCircuitsModel" "den" "J").before _ s = true := hts _ (by decide +kernel)
  have hl := lv_entry ([.ref (adm 0), .long p1, .long p2]) (n := 7) (Nat.le_of_ble_eq_true rfl)
  rw [lg_entry_eq]
  generalize (lg_sl ([.ref (adm 0), .long p1, .long p2]) ++ List.replicate (7 - (lg_sl ([.ref (adm 0), .long p1, .long p2])).length) Slot.unset).toArray = ls at hl ⊢
  replace hl : lv_has ls 7 [(0, .ref (adm 0)), (1, .long p1), (3, .long p2)] := hl
  unfold f_X3_make at hf
  refine lv_lload_n hx hb dX3_make_0 rfl (lv_at hl 1 rfl) ?_
  refine va_mabs_long hx hb (hml.trans hl.1.symm) hown hw0 hw1 hw2 hw3 (Nat.le_of_ble_eq_true rfl) (Nat.le_of_ble_eq_true rfl) (Nat.zero_le _) (Nat.zero_le _) dX3_make_1 ?_
  refine lv_lload_n hx hb dX3_make_4 rfl (lv_at hl 2 rfl) ?_
  refine va_mabs_long hx hb (hml.trans hl.1.symm) hown hw0 hw1 hw2 hw3 (Nat.le_of_ble_eq_true rfl) (Nat.le_of_ble_eq_true rfl) (Nat.zero_le _) (Nat.zero_le _) dX3_make_5 ?_
  replace hf := bdE hf
  obtain ⟨r1, hgr1, hf⟩ := hf
  refine xL0 (va_runS (As := [.long (if 0 < p1 then p1 else -p1), .long (if 0 < p2 then p2 else -p2)]) (rest := []) ⟨hx, hb, hml, hown, hts⟩ (c_X3_common l D cI cJ cZ (if 0 < p1 then p1 else -p1) (if 0 < p2 then p2 else -p2) r1 hgr1 _) (va_cwS 2 hts gX3_make_X3_common rfl rfl rfl (by decide +kernel) ⟨Nat.le_of_ble_eq_true rfl, Nat.le_of_ble_eq_true rfl⟩) ⟨PreW.blind, (xPre0 hK _)⟩ rfl rfl hl.1 rfl (lv_room (Nat.le_of_ble_eq_true rfl)) dX3_make_8 ⟨Nat.le_of_ble_eq_true rfl, Nat.le_of_ble_eq_true rfl⟩) hP hS hA (fun H locs hP hS => ?_)
  refine lv_lstore (lv' := [(5, .long r1), (0, .ref (adm 0)), (1, .long p1), (3, .long p2)]) hx hb dX3_make_11 hl (by decide) rfl (fun ls hl => ?_)
  refine lv_aload_n hx hb dX3_make_13 rfl (lv_at hl 1 rfl) ?_
  refine lv_lload_n hx hb dX3_make_14 rfl (lv_at hl 3 rfl) ?_
  refine lv_lconst (v := 0) hx hb dX3_make_15 (by decide) ?_
  refine W.lcmp hx hb dX3_make_16 ?_
  have J32 : ∀ (k1_32 : Int64) (H : Heap) (locs : List Loc) (ls : Array Slot), f_X3_make_J32 p2 r1 k1_32 = some o → va_P D vwCl (wMc cI cJ adm m0 m1 m2 m3 m4 m5 m6 m7 m8 m9 m10 m11 m12 m13 m14 m15 m16 m17 m18 m19 m20 m21 m22 m23 m24 m25 m26 m27) H → va_D A (wMc cI cJ adm m0 m1 m2 m3 m4 m5 m6 m7 m8 m9 m10 m11 m12 m13 m14 m15 m16 m17 m18 m19 m20 m21 m22 m23 m24 m25 m26 m27) → va_S A s.heap H locs → lv_has ls 7 [(0, .ref (adm 0)), (3, .long p2), (5, .long r1)] → W p l e (headSpec wsX3_make rmX3_make).room s m ([.ref (adm 0), .long p1, .long p2] : List Value).toArray below meth c H locs 0 0 (MQ below (QV D A (wMc cI cJ adm m0 m1 m2 m3 m4 m5 m6 m7 m8 m9 m10 m11 m12 m13 m14 m15 m16 m17 m18 m19 m20 m21 m22 m23 o.1 o.2 m26 m27)) ([.ref (adm 0), .long p1, .long p2] : List Value).toArray s 0 0 A) (F0 m 32 ls [.long k1_32, .ref (adm 0)]) := by
    intro k1_32 H locs ls hf hP hD hS hl
    unfold f_X3_make_J32 at hf
    refine va_put (D := D) (ci := 3) (v := .long k1_32) (ty := .long) (C := RX3) (T := TX3) (N := 28) hx hb hts hinX3 tyX3 tyX3_ok nmX3 hown hK.1 hP hD hS 0 rfl rfl 24 (by decide) hw4 (fun _ h9 => h9) rfl (by decide +kernel) rfl rfl (Nat.le_of_ble_eq_true rfl) dX3_make_32 (fun H locs hP hD hS => ?_)
    replace hP : va_P D vwCl (wMc cI cJ adm m0 m1 m2 m3 m4 m5 m6 m7 m8 m9 m10 m11 m12 m13 m14 m15 m16 m17 m18 m19 m20 m21 m22 m23 k1_32 m25 m26 m27) H := hP
    replace hD : va_D A (wMc cI cJ adm m0 m1 m2 m3 m4 m5 m6 m7 m8 m9 m10 m11 m12 m13 m14 m15 m16 m17 m18 m19 m20 m21 m22 m23 k1_32 m25 m26 m27) := hD
    refine lv_aload_n hx hb dX3_make_35 rfl (lv_at hl 0 rfl) ?_
    refine lv_lload_n hx hb dX3_make_36 rfl (lv_at hl 1 rfl) ?_
    refine va_mabs_long hx hb (hml.trans hl.1.symm) hown hw0 hw1 hw2 hw3 (Nat.le_of_ble_eq_true rfl) (Nat.le_of_ble_eq_true rfl) (Nat.zero_le _) (Nat.zero_le _) dX3_make_37 ?_
    refine lv_lload hx hb dX3_make_40 (lv_at hl 2 rfl) ?_
    replace hf := gdE hf
    obtain ⟨h2, hf⟩ := hf
    refine lv_ldiv hx hb dX3_make_42 (nzL_ne h2) ?_
    refine lv_topl (fun v3 ev3 => ?_)
    replace hf := bndE hf ev3
    refine va_put (D := D) (ci := 3) (v := .long v3) (ty := .long) (C := RX3) (T := TX3) (N := 28) hx hb hts hinX3 tyX3 tyX3_ok nmX3 hown hK.1 hP hD hS 0 rfl rfl 25 (by decide) hw5 (fun _ h9 => h9) rfl (by decide +kernel) rfl rfl (Nat.le_of_ble_eq_true rfl) dX3_make_43 (fun H locs hP hD hS => ?_)
    replace hP : va_P D vwCl (wMc cI cJ adm m0 m1 m2 m3 m4 m5 m6 m7 m8 m9 m10 m11 m12 m13 m14 m15 m16 m17 m18 m19 m20 m21 m22 m23 k1_32 v3 m26 m27) H := hP
    replace hD : va_D A (wMc cI cJ adm m0 m1 m2 m3 m4 m5 m6 m7 m8 m9 m10 m11 m12 m13 m14 m15 m16 m17 m18 m19 m20 m21 m22 m23 k1_32 v3 m26 m27) := hD
    obtain rfl := Option.some.inj hf
    exact retV hx hb hr hlocks hP hD hS dX3_make_46
  refine lv_if_ge (tgt := 28) hx hb dX3_make_17 (by decide) (fun q4 => ?_) (fun q4 => ?_)
  · replace hf := ifT q4 hf
    refine lv_lload_n hx hb dX3_make_28 rfl (lv_at hl 2 rfl) ?_
    refine lv_lload hx hb dX3_make_29 (lv_at hl 0 rfl) ?_
    replace hf := gdE hf
    obtain ⟨h5, hf⟩ := hf
    refine lv_ldiv hx hb dX3_make_31 (nzL_ne h5) ?_
    exact J32 (p1 / r1) _ _ _ hf hP hD hS (lv_sub hl [1, 3, 0] rfl)
  · replace hf := ifF q4 hf
    refine lv_lload_n hx hb dX3_make_20 rfl (lv_at hl 2 rfl) ?_
    refine lv_lneg hx hb dX3_make_21 ?_
    refine lv_lload hx hb dX3_make_22 (lv_at hl 0 rfl) ?_
    replace hf := gdE hf
    obtain ⟨h6, hf⟩ := hf
    refine lv_ldiv hx hb dX3_make_24 (nzL_ne h6) ?_
    refine lv_goto (tgt := 32) hx hb dX3_make_25 (by decide) ?_
    exact J32 ((-p1) / r1) _ _ _ hf hP hD hS (lv_sub hl [1, 3, 0] rfl)

def f_X3_store (m7 : Al) (m24 : Int64) (m25 : Int64) (p1 : Int32) : Option Al :=
gd (ib p1 31) (
gd (ib (p1 + 1) 31) (
some (vp_updL (vp_updL m7 p1.toNatClampNeg m24) (p1 + 1).toNatClampNeg m25)))
abbrev rmX3_store : Room := { frames := 0, cells := 0, slots := 0, locals := 0 }
set_option maxHeartbeats 40000000 in
set_option maxRecDepth 100000 in
theorem c_X3_store (l : Launch) (D : va_G) (cI cJ cZ : ClassId) (adm : Nat → Nat) (m0 : Ar) (m1 : Ar) (m2 : Ar) (m3 : Ar) (m4 : Int32) (m5 : Ar) (m6 : Int32) (m7 : Al) (m8 : Al) (m9 : Al) (m10 : Ar) (m11 : Ar) (m12 : Al) (m13 : Al) (m14 : Int32) (m15 : Al) (m16 : Int32) (m17 : Al) (m18 : Ar) (m19 : Int32) (m20 : Al) (m21 : Al) (m22 : Int32) (m23 : Int32) (m24 : Int64) (m25 : Int64) (m26 : Int32) (m27 : Int32) (p1 : Int32) (o : Al) (hf : f_X3_store m7 m24 m25 p1 = some o) : CtV l yX3_store wsX3_store rmX3_store D cI cJ cZ [.ref (adm 0), .int p1] (wMc cI cJ adm m0 m1 m2 m3 m4 m5 m6 m7 m8 m9 m10 m11 m12 m13 m14 m15 m16 m17 m18 m19 m20 m21 m22 m23 m24 m25 m26 m27) (wMc cI cJ adm m0 m1 m2 m3 m4 m5 m6 o m8 m9 m10 m11 m12 m13 m14 m15 m16 m17 m18 m19 m20 m21 m22 m23 m24 m25 m26 m27) := by
  intro sz
  refine Met.ofW (cc := cX3_store) (maxL := 2) (ret := none) (by decide) rfl ?_
  intro p e s m args below meth c s₁ B hml hv
  obtain ⟨rfl, hsz, hP, hK, hD0⟩ := hv
  have hx := B.exec
  have hb := B.bytes
  have hr := B.returns
  have hts := atoms_spec (ws := wsX3_store) B.pre
  have hown : s.vm.findClass RX3 = some m.cls := findClass_of_methodNamed B.named
  have hlocks := B.notSynchronized
  subst hsz
  have hD := hD0.self (sz := s.heap.size)
  clear hD0
  generalize hAe : va_A (wMc cI cJ adm m0 m1 m2 m3 m4 m5 m6 m7 m8 m9 m10 m11 m12 m13 m14 m15 m16 m17 m18 m19 m20 m21 m22 m23 m24 m25 m26 m27) s.heap.size = A at hD ⊢
  have hA : ∀ q : Nat, s.heap.size ≤ q → A q := fun q h => by rw [← hAe]; exact Or.inr h
  have hS : va_S A s.heap s.heap [] := va_S.rf
  have hinX3 : ∀ w ∈ wsX30, w ∈ wsX3_store := by decide +kernel
  have hw0 : (Cond.fieldLink RX3 25 "SwingCircuitsModel" "now" "[J").before _ s = true := hts _ (by decide +kernel)
  have hw1 : (Cond.fieldLink RX3 90 "SwingCircuitsModel" "num" "J").before _ s = true := hts _ (by decide +kernel)
  have hw2 : (Cond.fieldLink RX3 94 "SwingCircuitsModel" "den" "J").before _ s = true := hts _ (by decide +kernel)
  have hl := lv_entry ([.ref (adm 0), .int p1]) (n := 2) (Nat.le_of_ble_eq_true rfl)
  rw [lg_entry_eq]
  generalize (lg_sl ([.ref (adm 0), .int p1]) ++ List.replicate (2 - (lg_sl ([.ref (adm 0), .int p1])).length) Slot.unset).toArray = ls at hl ⊢
  replace hl : lv_has ls 2 [(0, .ref (adm 0)), (1, .int p1)] := hl
  unfold f_X3_store at hf
  refine lv_aload_n hx hb dX3_store_0 rfl (lv_at hl 0 rfl) ?_
  refine va_get (D := D) (ci := 3) (v := .ref (adm 6)) (C := RX3) (T := TX3) (N := 28) hx hb hts hinX3 hown hK.1 hP 0 rfl rfl 7 (by decide) hw0 (fun _ h9 => h9) rfl dX3_store_1 ?_
  refine lv_iload_n hx hb dX3_store_4 rfl (lv_at hl 1 rfl) ?_
  refine lv_aload_n hx hb dX3_store_5 rfl (lv_at hl 0 rfl) ?_
  refine va_get (D := D) (ci := 3) (v := .long m24) (C := RX3) (T := TX3) (N := 28) hx hb hts hinX3 hown hK.1 hP 0 rfl rfl 24 (by decide) hw1 (fun _ h9 => h9) rfl dX3_store_6 ?_
  replace hf := gdE hf
  obtain ⟨h1, hf⟩ := hf
  refine va_last hx hb hK.1 hP hD hS 6 1 rfl rfl (ib_in h1) dX3_store_9 (fun H locs hP hD hS => ?_)
  replace hP : va_P D vwCl (wMc cI cJ adm m0 m1 m2 m3 m4 m5 m6 (vp_updL m7 p1.toNatClampNeg m24) m8 m9 m10 m11 m12 m13 m14 m15 m16 m17 m18 m19 m20 m21 m22 m23 m24 m25 m26 m27) H := hP
  replace hD : va_D A (wMc cI cJ adm m0 m1 m2 m3 m4 m5 m6 (vp_updL m7 p1.toNatClampNeg m24) m8 m9 m10 m11 m12 m13 m14 m15 m16 m17 m18 m19 m20 m21 m22 m23 m24 m25 m26 m27) := hD
  refine lv_aload_n hx hb dX3_store_10 rfl (lv_at hl 0 rfl) ?_
  refine va_get (D := D) (ci := 3) (v := .ref (adm 6)) (C := RX3) (T := TX3) (N := 28) hx hb hts hinX3 hown hK.1 hP 0 rfl rfl 7 (by decide) hw0 (fun _ h9 => h9) rfl dX3_store_11 ?_
  refine lv_iload_n hx hb dX3_store_14 rfl (lv_at hl 1 rfl) ?_
  refine lv_iconst (v := 1) hx hb dX3_store_15 (by decide) ?_
  refine lv_iadd hx hb dX3_store_16 ?_
  refine lv_aload_n hx hb dX3_store_17 rfl (lv_at hl 0 rfl) ?_
  refine va_get (D := D) (ci := 3) (v := .long m25) (C := RX3) (T := TX3) (N := 28) hx hb hts hinX3 hown hK.1 hP 0 rfl rfl 25 (by decide) hw2 (fun _ h9 => h9) rfl dX3_store_18 ?_
  replace hf := gdE hf
  obtain ⟨h2, hf⟩ := hf
  refine va_last hx hb hK.1 hP hD hS 6 1 rfl rfl (ib_in h2) dX3_store_21 (fun H locs hP hD hS => ?_)
  replace hP : va_P D vwCl (wMc cI cJ adm m0 m1 m2 m3 m4 m5 m6 (vp_updL (vp_updL m7 p1.toNatClampNeg m24) (p1 + 1).toNatClampNeg m25) m8 m9 m10 m11 m12 m13 m14 m15 m16 m17 m18 m19 m20 m21 m22 m23 m24 m25 m26 m27) H := hP
  replace hD : va_D A (wMc cI cJ adm m0 m1 m2 m3 m4 m5 m6 (vp_updL (vp_updL m7 p1.toNatClampNeg m24) (p1 + 1).toNatClampNeg m25) m8 m9 m10 m11 m12 m13 m14 m15 m16 m17 m18 m19 m20 m21 m22 m23 m24 m25 m26 m27) := hD
  obtain rfl := Option.some.inj hf
  exact retV hx hb hr hlocks hP hD hS dX3_store_22

def f_X3_resetAll_B31 (m0 : Ar) (rec31 : Int32 → Al → Option Al) (l1_31 : Int32) (m7_31 : Al) : Option Al :=
if (4 : Int32) ≤ l1_31 then
some m7_31
else
gd (ib l1_31 4) (
bnd ((m0 l1_31.toNatClampNeg).toInt64) (fun v5 =>
gd (ib (0 + (2 * l1_31)) 31) (
gd (ib ((0 + (2 * l1_31)) + 1) 31) (
gd (ib (8 + l1_31) 31) (
rec31 (l1_31 + 1) (vp_updL (vp_updL (vp_updL m7_31 (0 + (2 * l1_31)).toNatClampNeg v5) ((0 + (2 * l1_31)) + 1).toNatClampNeg 1) (8 + l1_31).toNatClampNeg 1))))))
def f_X3_resetAll_L31 (m0 : Ar) : Nat → Int32 → Al → Option Al
  | 0 => fun _ _ => none
  | n + 1 => f_X3_resetAll_B31 m0 (f_X3_resetAll_L31 m0 n)
def f_X3_resetAll_B2 (m0 : Ar) (rec2 : Int32 → Al → Option Al) (l1_2 : Int32) (m7_2 : Al) : Option Al :=
if (31 : Int32) ≤ l1_2 then
gd (ib 21 31) (
f_X3_resetAll_L31 m0 fuel 0 (vp_updL m7_2 (21 : Int32).toNatClampNeg 1))
else
gd (ib l1_2 31) (
rec2 (l1_2 + 1) (vp_updL m7_2 l1_2.toNatClampNeg 0))
def f_X3_resetAll_L2 (m0 : Ar) : Nat → Int32 → Al → Option Al
  | 0 => fun _ _ => none
  | n + 1 => f_X3_resetAll_B2 m0 (f_X3_resetAll_L2 m0 n)
def f_X3_resetAll (m0 : Ar) (m7 : Al) : Option Al :=
f_X3_resetAll_L2 m0 fuel 0 m7
abbrev rmX3_resetAll : Room := { frames := 0, cells := 0, slots := 0, locals := 0 }
set_option maxHeartbeats 40000000 in
set_option maxRecDepth 100000 in
theorem c_X3_resetAll (l : Launch) (D : va_G) (cI cJ cZ : ClassId) (adm : Nat → Nat) (m0 : Ar) (m1 : Ar) (m2 : Ar) (m3 : Ar) (m4 : Int32) (m5 : Ar) (m6 : Int32) (m7 : Al) (m8 : Al) (m9 : Al) (m10 : Ar) (m11 : Ar) (m12 : Al) (m13 : Al) (m14 : Int32) (m15 : Al) (m16 : Int32) (m17 : Al) (m18 : Ar) (m19 : Int32) (m20 : Al) (m21 : Al) (m22 : Int32) (m23 : Int32) (m24 : Int64) (m25 : Int64) (m26 : Int32) (m27 : Int32) (o : Al) (hf : f_X3_resetAll m0 m7 = some o) : CtV l yX3_resetAll wsX3_resetAll rmX3_resetAll D cI cJ cZ [.ref (adm 0)] (wMc cI cJ adm m0 m1 m2 m3 m4 m5 m6 m7 m8 m9 m10 m11 m12 m13 m14 m15 m16 m17 m18 m19 m20 m21 m22 m23 m24 m25 m26 m27) (wMc cI cJ adm m0 m1 m2 m3 m4 m5 m6 o m8 m9 m10 m11 m12 m13 m14 m15 m16 m17 m18 m19 m20 m21 m22 m23 m24 m25 m26 m27) := by
  intro sz
  refine Met.ofW (cc := cX3_resetAll) (maxL := 2) (ret := none) (by decide) rfl ?_
  intro p e s m args below meth c s₁ B hml hv
  obtain ⟨rfl, hsz, hP, hK, hD0⟩ := hv
  have hx := B.exec
  have hb := B.bytes
  have hr := B.returns
  have hts := atoms_spec (ws := wsX3_resetAll) B.pre
  have hown : s.vm.findClass RX3 = some m.cls := findClass_of_methodNamed B.named
  have hlocks := B.notSynchronized
  subst hsz
  have hD := hD0.self (sz := s.heap.size)
  clear hD0
  generalize hAe : va_A (wMc cI cJ adm m0 m1 m2 m3 m4 m5 m6 m7 m8 m9 m10 m11 m12 m13 m14 m15 m16 m17 m18 m19 m20 m21 m22 m23 m24 m25 m26 m27) s.heap.size = A at hD ⊢
  have hA : ∀ q : Nat, s.heap.size ≤ q → A q := fun q h => by rw [← hAe]; exact Or.inr h
  have hS : va_S A s.heap s.heap [] := va_S.rf
  have hinX3 : ∀ w ∈ wsX30, w ∈ wsX3_resetAll := by decide +kernel
  have hw0 : (Cond.fieldLink RX3 25 "SwingCircuitsModel" "now" "[J").before _ s = true := hts _ (by decide +kernel)
  have hw1 : (Cond.fieldLink RX3 9 "SwingCircuitsModel" "low" "[I").before _ s = true := hts _ (by decide +kernel)
  have hl := lv_entry ([.ref (adm 0)]) (n := 2) (Nat.le_of_ble_eq_true rfl)
  rw [lg_entry_eq]
  generalize (lg_sl ([.ref (adm 0)]) ++ List.replicate (2 - (lg_sl ([.ref (adm 0)])).length) Slot.unset).toArray = ls at hl ⊢
  replace hl : lv_has ls 2 [(0, .ref (adm 0))] := hl
  unfold f_X3_resetAll at hf
  refine lv_iconst (v := 0) hx hb dX3_resetAll_0 (by decide) ?_
  refine lv_istore_n (lv' := [(1, .int 0), (0, .ref (adm 0))]) hx hb dX3_resetAll_1 rfl hl (by decide) rfl (fun ls hl => ?_)
  have L2 : ∀ (n : Nat) (l1_2 : Int32) (m7_2 : Al) (H : Heap) (locs : List Loc) (ls : Array Slot), f_X3_resetAll_L2 m0 n l1_2 m7_2 = some o → va_P D vwCl (wMc cI cJ adm m0 m1 m2 m3 m4 m5 m6 m7_2 m8 m9 m10 m11 m12 m13 m14 m15 m16 m17 m18 m19 m20 m21 m22 m23 m24 m25 m26 m27) H → va_D A (wMc cI cJ adm m0 m1 m2 m3 m4 m5 m6 m7_2 m8 m9 m10 m11 m12 m13 m14 m15 m16 m17 m18 m19 m20 m21 m22 m23 m24 m25 m26 m27) → va_S A s.heap H locs → lv_has ls 2 [(0, .ref (adm 0)), (1, .int l1_2)] → W p l e (headSpec wsX3_resetAll rmX3_resetAll).room s m ([.ref (adm 0)] : List Value).toArray below meth c H locs 0 0 (MQ below (QV D A (wMc cI cJ adm m0 m1 m2 m3 m4 m5 m6 o m8 m9 m10 m11 m12 m13 m14 m15 m16 m17 m18 m19 m20 m21 m22 m23 m24 m25 m26 m27)) ([.ref (adm 0)] : List Value).toArray s 0 0 A) (F0 m 2 ls []) := by
    intro n
    induction n with
    | zero => intro l1_2 m7_2 H locs ls hf; cases hf
    | succ n ih2 =>
      intro l1_2 m7_2 H locs ls hf hP hD hS hl
      replace hf : f_X3_resetAll_B2 m0 (f_X3_resetAll_L2 m0 n) l1_2 m7_2 = some o := hf
      generalize f_X3_resetAll_L2 m0 n = rec2 at ih2 hf
      unfold f_X3_resetAll_B2 at hf
      refine lv_iload_n hx hb dX3_resetAll_2 rfl (lv_at hl 1 rfl) ?_
      refine lv_bipush (v := 31) hx hb dX3_resetAll_3 (by decide) ?_
      refine lv_icmp_ge (tgt := 21) hx hb dX3_resetAll_5 (by decide) (fun q1 => ?_) (fun q1 => ?_)
      · replace hf := ifT q1 hf
        refine lv_aload_n hx hb dX3_resetAll_21 rfl (lv_at hl 0 rfl) ?_
        refine va_get (D := D) (ci := 3) (v := .ref (adm 6)) (C := RX3) (T := TX3) (N := 28) hx hb hts hinX3 hown hK.1 hP 0 rfl rfl 7 (by decide) hw0 (fun _ h9 => h9) rfl dX3_resetAll_22 ?_
        refine lv_bipush (v := 21) hx hb dX3_resetAll_25 (by decide) ?_
        refine lv_lconst (v := 1) hx hb dX3_resetAll_27 (by decide) ?_
        replace hf := gdE hf
        obtain ⟨h2, hf⟩ := hf
        refine va_last hx hb hK.1 hP hD hS 6 1 rfl rfl (ib_in h2) dX3_resetAll_28 (fun H locs hP hD hS => ?_)
        replace hP : va_P D vwCl (wMc cI cJ adm m0 m1 m2 m3 m4 m5 m6 (vp_updL m7_2 (21 : Int32).toNatClampNeg 1) m8 m9 m10 m11 m12 m13 m14 m15 m16 m17 m18 m19 m20 m21 m22 m23 m24 m25 m26 m27) H := hP
        replace hD : va_D A (wMc cI cJ adm m0 m1 m2 m3 m4 m5 m6 (vp_updL m7_2 (21 : Int32).toNatClampNeg 1) m8 m9 m10 m11 m12 m13 m14 m15 m16 m17 m18 m19 m20 m21 m22 m23 m24 m25 m26 m27) := hD
        refine lv_iconst (v := 0) hx hb dX3_resetAll_29 (by decide) ?_
        refine lv_istore_n (lv' := [(1, .int 0), (0, .ref (adm 0))]) hx hb dX3_resetAll_30 rfl hl (by decide) rfl (fun ls hl => ?_)
        have L31 : ∀ (n : Nat) (l1_31 : Int32) (m7_31 : Al) (H : Heap) (locs : List Loc) (ls : Array Slot), f_X3_resetAll_L31 m0 n l1_31 m7_31 = some o → va_P D vwCl (wMc cI cJ adm m0 m1 m2 m3 m4 m5 m6 m7_31 m8 m9 m10 m11 m12 m13 m14 m15 m16 m17 m18 m19 m20 m21 m22 m23 m24 m25 m26 m27) H → va_D A (wMc cI cJ adm m0 m1 m2 m3 m4 m5 m6 m7_31 m8 m9 m10 m11 m12 m13 m14 m15 m16 m17 m18 m19 m20 m21 m22 m23 m24 m25 m26 m27) → va_S A s.heap H locs → lv_has ls 2 [(0, .ref (adm 0)), (1, .int l1_31)] → W p l e (headSpec wsX3_resetAll rmX3_resetAll).room s m ([.ref (adm 0)] : List Value).toArray below meth c H locs 0 0 (MQ below (QV D A (wMc cI cJ adm m0 m1 m2 m3 m4 m5 m6 o m8 m9 m10 m11 m12 m13 m14 m15 m16 m17 m18 m19 m20 m21 m22 m23 m24 m25 m26 m27)) ([.ref (adm 0)] : List Value).toArray s 0 0 A) (F0 m 31 ls []) := by
          intro n
          induction n with
          | zero => intro l1_31 m7_31 H locs ls hf; cases hf
          | succ n ih31 =>
            intro l1_31 m7_31 H locs ls hf hP hD hS hl
            replace hf : f_X3_resetAll_B31 m0 (f_X3_resetAll_L31 m0 n) l1_31 m7_31 = some o := hf
            generalize f_X3_resetAll_L31 m0 n = rec31 at ih31 hf
            unfold f_X3_resetAll_B31 at hf
            refine lv_iload_n hx hb dX3_resetAll_31 rfl (lv_at hl 1 rfl) ?_
            refine lv_iconst (v := 4) hx hb dX3_resetAll_32 (by decide) ?_
            refine lv_icmp_ge (tgt := 82) hx hb dX3_resetAll_33 (by decide) (fun q3 => ?_) (fun q3 => ?_)
            · replace hf := ifT q3 hf
              obtain rfl := Option.some.inj hf
              exact retV hx hb hr hlocks hP hD hS dX3_resetAll_82
            · replace hf := ifF q3 hf
              refine lv_aload_n hx hb dX3_resetAll_36 rfl (lv_at hl 0 rfl) ?_
              refine va_get (D := D) (ci := 3) (v := .ref (adm 6)) (C := RX3) (T := TX3) (N := 28) hx hb hts hinX3 hown hK.1 hP 0 rfl rfl 7 (by decide) hw0 (fun _ h9 => h9) rfl dX3_resetAll_37 ?_
              refine lv_iconst (v := 0) hx hb dX3_resetAll_40 (by decide) ?_
              refine lv_iconst (v := 2) hx hb dX3_resetAll_41 (by decide) ?_
              refine lv_iload_n hx hb dX3_resetAll_42 rfl (lv_at hl 1 rfl) ?_
              refine lv_imul hx hb dX3_resetAll_43 ?_
              refine lv_iadd hx hb dX3_resetAll_44 ?_
              refine lv_aload_n hx hb dX3_resetAll_45 rfl (lv_at hl 0 rfl) ?_
              refine va_get (D := D) (ci := 3) (v := .ref (adm 1)) (C := RX3) (T := TX3) (N := 28) hx hb hts hinX3 hown hK.1 hP 0 rfl rfl 0 (by decide) hw1 (fun _ h9 => h9) rfl dX3_resetAll_46 ?_
              refine lv_iload_n hx hb dX3_resetAll_49 rfl (lv_at hl 1 rfl) ?_
              replace hf := gdE hf
              obtain ⟨h4, hf⟩ := hf
              refine va_iald hx hb hK.1 hP 1 0 rfl rfl (ib_in h4) dX3_resetAll_50 ?_
              refine lv_i2l hx hb dX3_resetAll_51 rfl ?_
              refine lv_topl (fun v5 ev5 => ?_)
              replace hf := bndE hf ev5
              replace hf := gdE hf
              obtain ⟨h6, hf⟩ := hf
              refine va_last hx hb hK.1 hP hD hS 6 1 rfl rfl (ib_in h6) dX3_resetAll_52 (fun H locs hP hD hS => ?_)
              replace hP : va_P D vwCl (wMc cI cJ adm m0 m1 m2 m3 m4 m5 m6 (vp_updL m7_31 (0 + (2 * l1_31)).toNatClampNeg v5) m8 m9 m10 m11 m12 m13 m14 m15 m16 m17 m18 m19 m20 m21 m22 m23 m24 m25 m26 m27) H := hP
              replace hD : va_D A (wMc cI cJ adm m0 m1 m2 m3 m4 m5 m6 (vp_updL m7_31 (0 + (2 * l1_31)).toNatClampNeg v5) m8 m9 m10 m11 m12 m13 m14 m15 m16 m17 m18 m19 m20 m21 m22 m23 m24 m25 m26 m27) := hD
              refine lv_aload_n hx hb dX3_resetAll_53 rfl (lv_at hl 0 rfl) ?_
              refine va_get (D := D) (ci := 3) (v := .ref (adm 6)) (C := RX3) (T := TX3) (N := 28) hx hb hts hinX3 hown hK.1 hP 0 rfl rfl 7 (by decide) hw0 (fun _ h9 => h9) rfl dX3_resetAll_54 ?_
              refine lv_iconst (v := 0) hx hb dX3_resetAll_57 (by decide) ?_
              refine lv_iconst (v := 2) hx hb dX3_resetAll_58 (by decide) ?_
              refine lv_iload_n hx hb dX3_resetAll_59 rfl (lv_at hl 1 rfl) ?_
              refine lv_imul hx hb dX3_resetAll_60 ?_
              refine lv_iadd hx hb dX3_resetAll_61 ?_
              refine lv_iconst (v := 1) hx hb dX3_resetAll_62 (by decide) ?_
              refine lv_iadd hx hb dX3_resetAll_63 ?_
              refine lv_lconst (v := 1) hx hb dX3_resetAll_64 (by decide) ?_
              replace hf := gdE hf
              obtain ⟨h7, hf⟩ := hf
              refine va_last hx hb hK.1 hP hD hS 6 1 rfl rfl (ib_in h7) dX3_resetAll_65 (fun H locs hP hD hS => ?_)
              replace hP : va_P D vwCl (wMc cI cJ adm m0 m1 m2 m3 m4 m5 m6 (vp_updL (vp_updL m7_31 (0 + (2 * l1_31)).toNatClampNeg v5) ((0 + (2 * l1_31)) + 1).toNatClampNeg 1) m8 m9 m10 m11 m12 m13 m14 m15 m16 m17 m18 m19 m20 m21 m22 m23 m24 m25 m26 m27) H := hP
              replace hD : va_D A (wMc cI cJ adm m0 m1 m2 m3 m4 m5 m6 (vp_updL (vp_updL m7_31 (0 + (2 * l1_31)).toNatClampNeg v5) ((0 + (2 * l1_31)) + 1).toNatClampNeg 1) m8 m9 m10 m11 m12 m13 m14 m15 m16 m17 m18 m19 m20 m21 m22 m23 m24 m25 m26 m27) := hD
              refine lv_aload_n hx hb dX3_resetAll_66 rfl (lv_at hl 0 rfl) ?_
              refine va_get (D := D) (ci := 3) (v := .ref (adm 6)) (C := RX3) (T := TX3) (N := 28) hx hb hts hinX3 hown hK.1 hP 0 rfl rfl 7 (by decide) hw0 (fun _ h9 => h9) rfl dX3_resetAll_67 ?_
              refine lv_bipush (v := 8) hx hb dX3_resetAll_70 (by decide) ?_
              refine lv_iload_n hx hb dX3_resetAll_72 rfl (lv_at hl 1 rfl) ?_
              refine lv_iadd hx hb dX3_resetAll_73 ?_
              refine lv_lconst (v := 1) hx hb dX3_resetAll_74 (by decide) ?_
              replace hf := gdE hf
              obtain ⟨h8, hf⟩ := hf
              refine va_last hx hb hK.1 hP hD hS 6 1 rfl rfl (ib_in h8) dX3_resetAll_75 (fun H locs hP hD hS => ?_)
              replace hP : va_P D vwCl (wMc cI cJ adm m0 m1 m2 m3 m4 m5 m6 (vp_updL (vp_updL (vp_updL m7_31 (0 + (2 * l1_31)).toNatClampNeg v5) ((0 + (2 * l1_31)) + 1).toNatClampNeg 1) (8 + l1_31).toNatClampNeg 1) m8 m9 m10 m11 m12 m13 m14 m15 m16 m17 m18 m19 m20 m21 m22 m23 m24 m25 m26 m27) H := hP
              replace hD : va_D A (wMc cI cJ adm m0 m1 m2 m3 m4 m5 m6 (vp_updL (vp_updL (vp_updL m7_31 (0 + (2 * l1_31)).toNatClampNeg v5) ((0 + (2 * l1_31)) + 1).toNatClampNeg 1) (8 + l1_31).toNatClampNeg 1) m8 m9 m10 m11 m12 m13 m14 m15 m16 m17 m18 m19 m20 m21 m22 m23 m24 m25 m26 m27) := hD
              refine lv_iinc (v := l1_31 + 1) (lv' := [(1, .int (l1_31 + 1)), (0, .ref (adm 0))]) hx hb dX3_resetAll_76 hl (k := 1) rfl (by rfl) (by decide) rfl (fun ls hl => ?_)
              refine lv_goto (tgt := 31) hx hb dX3_resetAll_79 (by decide) ?_
              exact ih31 (l1_31 + 1) (vp_updL (vp_updL (vp_updL m7_31 (0 + (2 * l1_31)).toNatClampNeg v5) ((0 + (2 * l1_31)) + 1).toNatClampNeg 1) (8 + l1_31).toNatClampNeg 1) _ _ _ hf hP hD hS (lv_sub hl [1, 0] rfl)
        exact L31 fuel 0 (vp_updL m7_2 (21 : Int32).toNatClampNeg 1) _ _ _ hf hP hD hS (lv_sub hl [1, 0] rfl)
      · replace hf := ifF q1 hf
        refine lv_aload_n hx hb dX3_resetAll_8 rfl (lv_at hl 0 rfl) ?_
        refine va_get (D := D) (ci := 3) (v := .ref (adm 6)) (C := RX3) (T := TX3) (N := 28) hx hb hts hinX3 hown hK.1 hP 0 rfl rfl 7 (by decide) hw0 (fun _ h9 => h9) rfl dX3_resetAll_9 ?_
        refine lv_iload_n hx hb dX3_resetAll_12 rfl (lv_at hl 1 rfl) ?_
        refine lv_lconst (v := 0) hx hb dX3_resetAll_13 (by decide) ?_
        replace hf := gdE hf
        obtain ⟨h9, hf⟩ := hf
        refine va_last hx hb hK.1 hP hD hS 6 1 rfl rfl (ib_in h9) dX3_resetAll_14 (fun H locs hP hD hS => ?_)
        replace hP : va_P D vwCl (wMc cI cJ adm m0 m1 m2 m3 m4 m5 m6 (vp_updL m7_2 l1_2.toNatClampNeg 0) m8 m9 m10 m11 m12 m13 m14 m15 m16 m17 m18 m19 m20 m21 m22 m23 m24 m25 m26 m27) H := hP
        replace hD : va_D A (wMc cI cJ adm m0 m1 m2 m3 m4 m5 m6 (vp_updL m7_2 l1_2.toNatClampNeg 0) m8 m9 m10 m11 m12 m13 m14 m15 m16 m17 m18 m19 m20 m21 m22 m23 m24 m25 m26 m27) := hD
        refine lv_iinc (v := l1_2 + 1) (lv' := [(1, .int (l1_2 + 1)), (0, .ref (adm 0))]) hx hb dX3_resetAll_15 hl (k := 1) rfl (by rfl) (by decide) rfl (fun ls hl => ?_)
        refine lv_goto (tgt := 2) hx hb dX3_resetAll_18 (by decide) ?_
        exact ih2 (l1_2 + 1) (vp_updL m7_2 l1_2.toNatClampNeg 0) _ _ _ hf hP hD hS (lv_sub hl [1, 0] rfl)
  exact L2 fuel 0 m7 _ _ _ hf hP hD hS (lv_sub hl [1, 0] rfl)

def f_X3_copy_B2 (gf : Al) (rec2 : Int32 → Al → Option Al) (l2_2 : Int32) (g0_2 : Al) : Option Al :=
if (31 : Int32) ≤ l2_2 then
some g0_2
else
gd (ib l2_2 31) (
bnd (gf l2_2.toNatClampNeg) (fun v3 =>
rec2 (l2_2 + 1) (vp_updL g0_2 l2_2.toNatClampNeg v3)))
def f_X3_copy_L2 (gf : Al) : Nat → Int32 → Al → Option Al
  | 0 => fun _ _ => none
  | n + 1 => f_X3_copy_B2 gf (f_X3_copy_L2 gf n)
def f_X3_copy (gf : Al) (gg : Al) : Option Al :=
f_X3_copy_L2 gf fuel 0 gg
abbrev rmX3_copy : Room := { frames := 0, cells := 0, slots := 0, locals := 0 }
set_option maxHeartbeats 40000000 in
set_option maxRecDepth 100000 in
theorem c_X3_copy (l : Launch) (D : va_G) (cI cJ cZ : ClassId) (adf : Nat) (adg : Nat) (gf : Al) (gg : Al) (o : Al) (hf : f_X3_copy gf gg = some o) : CtV l yX3_copy wsX3_copy rmX3_copy D cI cJ cZ [.ref adf, .ref adg] (wAL cJ adf gf ++ wAL cJ adg gg) (wAL cJ adf gf ++ wAL cJ adg o) := by
  intro sz
  refine Met.ofW (cc := cX3_copy) (maxL := 3) (ret := none) (by decide) rfl ?_
  intro p e s m args below meth c s₁ B hml hv
  obtain ⟨rfl, hsz, hP, hK, hD0⟩ := hv
  have hx := B.exec
  have hb := B.bytes
  have hr := B.returns
  have hts := atoms_spec (ws := wsX3_copy) B.pre
  have hown : s.vm.findClass RX3 = some m.cls := findClass_of_methodNamed B.named
  have hlocks := B.notSynchronized
  subst hsz
  have hD := hD0.self (sz := s.heap.size)
  clear hD0
  generalize hAe : va_A (wAL cJ adf gf ++ wAL cJ adg gg) s.heap.size = A at hD ⊢
  have hA : ∀ q : Nat, s.heap.size ≤ q → A q := fun q h => by rw [← hAe]; exact Or.inr h
  have hS : va_S A s.heap s.heap [] := va_S.rf
  have hl := lv_entry ([.ref adf, .ref adg]) (n := 3) (Nat.le_of_ble_eq_true rfl)
  rw [lg_entry_eq]
  generalize (lg_sl ([.ref adf, .ref adg]) ++ List.replicate (3 - (lg_sl ([.ref adf, .ref adg])).length) Slot.unset).toArray = ls at hl ⊢
  replace hl : lv_has ls 3 [(0, .ref adf), (1, .ref adg)] := hl
  unfold f_X3_copy at hf
  refine lv_iconst (v := 0) hx hb dX3_copy_0 (by decide) ?_
  refine lv_istore_n (lv' := [(2, .int 0), (0, .ref adf), (1, .ref adg)]) hx hb dX3_copy_1 rfl hl (by decide) rfl (fun ls hl => ?_)
  have L2 : ∀ (n : Nat) (l2_2 : Int32) (g0_2 : Al) (H : Heap) (locs : List Loc) (ls : Array Slot), f_X3_copy_L2 gf n l2_2 g0_2 = some o → va_P D vwCl (wAL cJ adf gf ++ wAL cJ adg g0_2) H → va_D A (wAL cJ adf gf ++ wAL cJ adg g0_2) → va_S A s.heap H locs → lv_has ls 3 [(0, .ref adf), (1, .ref adg), (2, .int l2_2)] → W p l e (headSpec wsX3_copy rmX3_copy).room s m ([.ref adf, .ref adg] : List Value).toArray below meth c H locs 0 0 (MQ below (QV D A (wAL cJ adf gf ++ wAL cJ adg o)) ([.ref adf, .ref adg] : List Value).toArray s 0 0 A) (F0 m 2 ls []) := by
    intro n
    induction n with
    | zero => intro l2_2 g0_2 H locs ls hf; cases hf
    | succ n ih2 =>
      intro l2_2 g0_2 H locs ls hf hP hD hS hl
      replace hf : f_X3_copy_B2 gf (f_X3_copy_L2 gf n) l2_2 g0_2 = some o := hf
      generalize f_X3_copy_L2 gf n = rec2 at ih2 hf
      unfold f_X3_copy_B2 at hf
      refine lv_iload_n hx hb dX3_copy_2 rfl (lv_at hl 2 rfl) ?_
      refine lv_bipush (v := 31) hx hb dX3_copy_3 (by decide) ?_
      refine lv_icmp_ge (tgt := 20) hx hb dX3_copy_5 (by decide) (fun q1 => ?_) (fun q1 => ?_)
      · replace hf := ifT q1 hf
        obtain rfl := Option.some.inj hf
        exact retV hx hb hr hlocks hP hD hS dX3_copy_20
      · replace hf := ifF q1 hf
        refine lv_aload_n hx hb dX3_copy_8 rfl (lv_at hl 1 rfl) ?_
        refine lv_iload_n hx hb dX3_copy_9 rfl (lv_at hl 2 rfl) ?_
        refine lv_aload_n hx hb dX3_copy_10 rfl (lv_at hl 0 rfl) ?_
        refine lv_iload_n hx hb dX3_copy_11 rfl (lv_at hl 2 rfl) ?_
        replace hf := gdE hf
        obtain ⟨h2, hf⟩ := hf
        refine va_lald hx hb hK.1 hP 0 1 rfl rfl (ib_in h2) dX3_copy_12 ?_
        refine lv_topl (fun v3 ev3 => ?_)
        replace hf := bndE hf ev3
        refine va_last hx hb hK.1 hP hD hS 1 1 rfl rfl (ib_in h2) dX3_copy_13 (fun H locs hP hD hS => ?_)
        replace hP : va_P D vwCl (wAL cJ adf gf ++ wAL cJ adg (vp_updL g0_2 l2_2.toNatClampNeg v3)) H := hP
        replace hD : va_D A (wAL cJ adf gf ++ wAL cJ adg (vp_updL g0_2 l2_2.toNatClampNeg v3)) := hD
        refine lv_iinc (v := l2_2 + 1) (lv' := [(2, .int (l2_2 + 1)), (0, .ref adf), (1, .ref adg)]) hx hb dX3_copy_14 hl (k := 2) rfl (by rfl) (by decide) rfl (fun ls hl => ?_)
        refine lv_goto (tgt := 2) hx hb dX3_copy_17 (by decide) ?_
        exact ih2 (l2_2 + 1) (vp_updL g0_2 l2_2.toNatClampNeg v3) _ _ _ hf hP hD hS (lv_sub hl [1, 2, 0] rfl)
  exact L2 fuel 0 gg _ _ _ hf hP hD hS (lv_sub hl [1, 2, 0] rfl)

def f_X3_isFilling (m7 : Al) (p1 : Int32) : Option Bool :=
gd (ib (8 + p1) 31) (
if ¬ (lg_cmp (m7 (8 + p1).toNatClampNeg) 1) = 0 then
some false
else
some true)
abbrev rmX3_isFilling : Room := { frames := 0, cells := 0, slots := 0, locals := 0 }
set_option maxHeartbeats 40000000 in
set_option maxRecDepth 100000 in
theorem c_X3_isFilling (l : Launch) (D : va_G) (cI cJ cZ : ClassId) (adm : Nat → Nat) (m0 : Ar) (m1 : Ar) (m2 : Ar) (m3 : Ar) (m4 : Int32) (m5 : Ar) (m6 : Int32) (m7 : Al) (m8 : Al) (m9 : Al) (m10 : Ar) (m11 : Ar) (m12 : Al) (m13 : Al) (m14 : Int32) (m15 : Al) (m16 : Int32) (m17 : Al) (m18 : Ar) (m19 : Int32) (m20 : Al) (m21 : Al) (m22 : Int32) (m23 : Int32) (m24 : Int64) (m25 : Int64) (m26 : Int32) (m27 : Int32) (p1 : Int32) (o : Bool) (hf : f_X3_isFilling m7 p1 = some o) : CtI l yX3_isFilling wsX3_isFilling rmX3_isFilling D cI cJ cZ [.ref (adm 0), .int p1] (wMc cI cJ adm m0 m1 m2 m3 m4 m5 m6 m7 m8 m9 m10 m11 m12 m13 m14 m15 m16 m17 m18 m19 m20 m21 m22 m23 m24 m25 m26 m27) (wMc cI cJ adm m0 m1 m2 m3 m4 m5 m6 m7 m8 m9 m10 m11 m12 m13 m14 m15 m16 m17 m18 m19 m20 m21 m22 m23 m24 m25 m26 m27) (b2i o) := by
  intro sz
  refine Met.ofW (cc := cX3_isFilling) (maxL := 2) (ret := (some .boolean)) (by decide) rfl ?_
  intro p e s m args below meth c s₁ B hml hv
  obtain ⟨rfl, hsz, hP, hK, hD0⟩ := hv
  have hx := B.exec
  have hb := B.bytes
  have hr := B.returns
  have hts := atoms_spec (ws := wsX3_isFilling) B.pre
  have hown : s.vm.findClass RX3 = some m.cls := findClass_of_methodNamed B.named
  have hlocks := B.notSynchronized
  subst hsz
  have hD := hD0.self (sz := s.heap.size)
  clear hD0
  generalize hAe : va_A (wMc cI cJ adm m0 m1 m2 m3 m4 m5 m6 m7 m8 m9 m10 m11 m12 m13 m14 m15 m16 m17 m18 m19 m20 m21 m22 m23 m24 m25 m26 m27) s.heap.size = A at hD ⊢
  have hA : ∀ q : Nat, s.heap.size ≤ q → A q := fun q h => by rw [← hAe]; exact Or.inr h
  have hS : va_S A s.heap s.heap [] := va_S.rf
  have hinX3 : ∀ w ∈ wsX30, w ∈ wsX3_isFilling := by decide +kernel
  have hw0 : (Cond.fieldLink RX3 25 "SwingCircuitsModel" "now" "[J").before _ s = true := hts _ (by decide +kernel)
  have hl := lv_entry ([.ref (adm 0), .int p1]) (n := 2) (Nat.le_of_ble_eq_true rfl)
  rw [lg_entry_eq]
  generalize (lg_sl ([.ref (adm 0), .int p1]) ++ List.replicate (2 - (lg_sl ([.ref (adm 0), .int p1])).length) Slot.unset).toArray = ls at hl ⊢
  replace hl : lv_has ls 2 [(0, .ref (adm 0)), (1, .int p1)] := hl
  unfold f_X3_isFilling at hf
  refine lv_aload_n hx hb dX3_isFilling_0 rfl (lv_at hl 0 rfl) ?_
  refine va_get (D := D) (ci := 3) (v := .ref (adm 6)) (C := RX3) (T := TX3) (N := 28) hx hb hts hinX3 hown hK.1 hP 0 rfl rfl 7 (by decide) hw0 (fun _ h9 => h9) rfl dX3_isFilling_1 ?_
  refine lv_bipush (v := 8) hx hb dX3_isFilling_4 (by decide) ?_
  refine lv_iload_n hx hb dX3_isFilling_6 rfl (lv_at hl 1 rfl) ?_
  refine lv_iadd hx hb dX3_isFilling_7 ?_
  replace hf := gdE hf
  obtain ⟨h1, hf⟩ := hf
  refine va_lald hx hb hK.1 hP 6 1 rfl rfl (ib_in h1) dX3_isFilling_8 ?_
  refine lv_lconst (v := 1) hx hb dX3_isFilling_9 (by decide) ?_
  refine W.lcmp hx hb dX3_isFilling_10 ?_
  refine lv_if_ne (tgt := 18) hx hb dX3_isFilling_11 (by decide) (fun q2 => ?_) (fun q2 => ?_)
  · replace hf := ifT q2 hf
    refine lv_iconst (v := 0) hx hb dX3_isFilling_18 (by decide) ?_
    obtain rfl := Option.some.inj hf
    exact retZ false rfl hx hb hr hlocks hP hD hS dX3_isFilling_19
  · replace hf := ifN q2 hf
    refine lv_iconst (v := 1) hx hb dX3_isFilling_14 (by decide) ?_
    refine lv_goto (tgt := 19) hx hb dX3_isFilling_15 (by decide) ?_
    obtain rfl := Option.some.inj hf
    exact retZ true rfl hx hb hr hlocks hP hD hS dX3_isFilling_19

def f_X3_waitOf (m0 : Ar) (m1 : Ar) (m2 : Ar) (m3 : Ar) (m7 : Al) (p1 : Int32) : Option (Int64 × Int64) :=
gd (ib (0 + (2 * p1)) 31) (
bnd (m7 (0 + (2 * p1)).toNatClampNeg) (fun v2 =>
gd (ib ((0 + (2 * p1)) + 1) 31) (
bnd (m7 ((0 + (2 * p1)) + 1).toNatClampNeg) (fun v4 =>
(f_X3_isFilling m7 p1).bind (fun r5 =>
if (b2i r5) = 0 then
gd (ib p1 4) (
(f_X3_make (v2 - (((m0 p1.toNatClampNeg).toInt64) * v4)) (v4 * ((m3 p1.toNatClampNeg).toInt64))).bind (fun r8 =>
some (r8.1, r8.2)))
else
gd (ib p1 4) (
(f_X3_make ((((m1 p1.toNatClampNeg).toInt64) * v4) - v2) (v4 * ((m2 p1.toNatClampNeg).toInt64))).bind (fun r10 =>
some (r10.1, r10.2))))))))
abbrev rmX3_waitOf : Room := { frames := 122, cells := 0, slots := 0, locals := 2809 }
set_option maxHeartbeats 40000000 in
set_option maxRecDepth 100000 in
theorem c_X3_waitOf (l : Launch) (D : va_G) (cI cJ cZ : ClassId) (adm : Nat → Nat) (m0 : Ar) (m1 : Ar) (m2 : Ar) (m3 : Ar) (m4 : Int32) (m5 : Ar) (m6 : Int32) (m7 : Al) (m8 : Al) (m9 : Al) (m10 : Ar) (m11 : Ar) (m12 : Al) (m13 : Al) (m14 : Int32) (m15 : Al) (m16 : Int32) (m17 : Al) (m18 : Ar) (m19 : Int32) (m20 : Al) (m21 : Al) (m22 : Int32) (m23 : Int32) (m24 : Int64) (m25 : Int64) (m26 : Int32) (m27 : Int32) (p1 : Int32) (o : (Int64 × Int64)) (hf : f_X3_waitOf m0 m1 m2 m3 m7 p1 = some o) : CtV l yX3_waitOf wsX3_waitOf rmX3_waitOf D cI cJ cZ [.ref (adm 0), .int p1] (wMc cI cJ adm m0 m1 m2 m3 m4 m5 m6 m7 m8 m9 m10 m11 m12 m13 m14 m15 m16 m17 m18 m19 m20 m21 m22 m23 m24 m25 m26 m27) (wMc cI cJ adm m0 m1 m2 m3 m4 m5 m6 m7 m8 m9 m10 m11 m12 m13 m14 m15 m16 m17 m18 m19 m20 m21 m22 m23 o.1 o.2 m26 m27) := by
  intro sz
  refine Met.ofW (cc := cX3_waitOf) (maxL := 6) (ret := none) (by decide) rfl ?_
  intro p e s m args below meth c s₁ B hml hv
  obtain ⟨rfl, hsz, hP, hK, hD0⟩ := hv
  have hx := B.exec
  have hb := B.bytes
  have hr := B.returns
  have hts := atoms_spec (ws := wsX3_waitOf) B.pre
  have hown : s.vm.findClass RX3 = some m.cls := findClass_of_methodNamed B.named
  have hlocks := B.notSynchronized
  subst hsz
  have hD := hD0.self (sz := s.heap.size)
  clear hD0
  generalize hAe : va_A (wMc cI cJ adm m0 m1 m2 m3 m4 m5 m6 m7 m8 m9 m10 m11 m12 m13 m14 m15 m16 m17 m18 m19 m20 m21 m22 m23 m24 m25 m26 m27) s.heap.size = A at hD ⊢
  have hA : ∀ q : Nat, s.heap.size ≤ q → A q := fun q h => by rw [← hAe]; exact Or.inr h
  have hS : va_S A s.heap s.heap [] := va_S.rf
  have hinX3 : ∀ w ∈ wsX30, w ∈ wsX3_waitOf := by decide +kernel
  have hw0 : (Cond.fieldLink RX3 25 "SwingCircuitsModel" "now" "[J").before _ s = true := hts _ (by decide +kernel)
  have hw1 : (Cond.fieldLink RX3 13 "SwingCircuitsModel" "high" "[I").before _ s = true := hts _ (by decide +kernel)
  have hw2 : (Cond.fieldLink RX3 16 "SwingCircuitsModel" "rise" "[I").before _ s = true := hts _ (by decide +kernel)
  have hw3 : (Cond.fieldLink RX3 9 "SwingCircuitsModel" "low" "[I").before _ s = true := hts _ (by decide +kernel)
  have hw4 : (Cond.fieldLink RX3 19 "SwingCircuitsModel" "fall" "[I").before _ s = true := hts _ (by decide +kernel)
  have hl := lv_entry ([.ref (adm 0), .int p1]) (n := 6) (Nat.le_of_ble_eq_true rfl)
  rw [lg_entry_eq]
  generalize (lg_sl ([.ref (adm 0), .int p1]) ++ List.replicate (6 - (lg_sl ([.ref (adm 0), .int p1])).length) Slot.unset).toArray = ls at hl ⊢
  replace hl : lv_has ls 6 [(0, .ref (adm 0)), (1, .int p1)] := hl
  unfold f_X3_waitOf at hf
  refine lv_aload_n hx hb dX3_waitOf_0 rfl (lv_at hl 0 rfl) ?_
  refine va_get (D := D) (ci := 3) (v := .ref (adm 6)) (C := RX3) (T := TX3) (N := 28) hx hb hts hinX3 hown hK.1 hP 0 rfl rfl 7 (by decide) hw0 (fun _ h9 => h9) rfl dX3_waitOf_1 ?_
  refine lv_iconst (v := 0) hx hb dX3_waitOf_4 (by decide) ?_
  refine lv_iconst (v := 2) hx hb dX3_waitOf_5 (by decide) ?_
  refine lv_iload_n hx hb dX3_waitOf_6 rfl (lv_at hl 1 rfl) ?_
  refine lv_imul hx hb dX3_waitOf_7 ?_
  refine lv_iadd hx hb dX3_waitOf_8 ?_
  replace hf := gdE hf
  obtain ⟨h1, hf⟩ := hf
  refine va_lald hx hb hK.1 hP 6 1 rfl rfl (ib_in h1) dX3_waitOf_9 ?_
  refine lv_topl (fun v2 ev2 => ?_)
  replace hf := bndE hf ev2
  refine lv_lstore_n (lv' := [(2, .long v2), (0, .ref (adm 0)), (1, .int p1)]) hx hb dX3_waitOf_10 rfl hl (by decide) rfl (fun ls hl => ?_)
  refine lv_aload_n hx hb dX3_waitOf_11 rfl (lv_at hl 1 rfl) ?_
  refine va_get (D := D) (ci := 3) (v := .ref (adm 6)) (C := RX3) (T := TX3) (N := 28) hx hb hts hinX3 hown hK.1 hP 0 rfl rfl 7 (by decide) hw0 (fun _ h9 => h9) rfl dX3_waitOf_12 ?_
  refine lv_iconst (v := 0) hx hb dX3_waitOf_15 (by decide) ?_
  refine lv_iconst (v := 2) hx hb dX3_waitOf_16 (by decide) ?_
  refine lv_iload_n hx hb dX3_waitOf_17 rfl (lv_at hl 2 rfl) ?_
  refine lv_imul hx hb dX3_waitOf_18 ?_
  refine lv_iadd hx hb dX3_waitOf_19 ?_
  refine lv_iconst (v := 1) hx hb dX3_waitOf_20 (by decide) ?_
  refine lv_iadd hx hb dX3_waitOf_21 ?_
  replace hf := gdE hf
  obtain ⟨h3, hf⟩ := hf
  refine va_lald hx hb hK.1 hP 6 1 rfl rfl (ib_in h3) dX3_waitOf_22 ?_
  refine lv_topl (fun v4 ev4 => ?_)
  replace hf := bndE hf ev4
  refine lv_lstore (lv' := [(4, .long v4), (2, .long v2), (0, .ref (adm 0)), (1, .int p1)]) hx hb dX3_waitOf_23 hl (by decide) rfl (fun ls hl => ?_)
  refine lv_aload_n hx hb dX3_waitOf_25 rfl (lv_at hl 2 rfl) ?_
  refine lv_iload_n hx hb dX3_waitOf_26 rfl (lv_at hl 3 rfl) ?_
  replace hf := bdE hf
  obtain ⟨r5, hgr5, hf⟩ := hf
  refine xIw (va_runV (As := [.int p1]) (rest := []) ⟨hx, hb, hml, hown, hts⟩ (c_X3_isFilling l D cI cJ cZ adm m0 m1 m2 m3 m4 m5 m6 m7 m8 m9 m10 m11 m12 m13 m14 m15 m16 m17 m18 m19 m20 m21 m22 m23 m24 m25 m26 m27 p1 r5 hgr5 _) (cwV 1 hts gX3_waitOf_X3_isFilling rfl rfl rfl (by decide +kernel) ⟨Nat.le_of_ble_eq_true rfl, Nat.le_of_ble_eq_true rfl⟩) ⟨PreW.blind, xRecv (q0 := 0) hK hP rfl rfl, (xPrew hK hP hD _)⟩ rfl rfl hl.1 rfl (lv_room (Nat.le_of_ble_eq_true rfl)) dX3_waitOf_27 ⟨Nat.le_of_ble_eq_true rfl, Nat.le_of_ble_eq_true rfl⟩) hD hS hA (fun H locs hP hD hS => ?_)
  replace hP : va_P D vwCl (wMc cI cJ adm m0 m1 m2 m3 m4 m5 m6 m7 m8 m9 m10 m11 m12 m13 m14 m15 m16 m17 m18 m19 m20 m21 m22 m23 m24 m25 m26 m27) H := hP
  replace hD : va_D A (wMc cI cJ adm m0 m1 m2 m3 m4 m5 m6 m7 m8 m9 m10 m11 m12 m13 m14 m15 m16 m17 m18 m19 m20 m21 m22 m23 m24 m25 m26 m27) := hD
  refine lv_if_eq (tgt := 62) hx hb dX3_waitOf_30 (by decide) (fun q6 => ?_) (fun q6 => ?_)
  · replace hf := ifT q6 hf
    refine lv_aload_n hx hb dX3_waitOf_62 rfl (lv_at hl 2 rfl) ?_
    refine lv_lload_n hx hb dX3_waitOf_63 rfl (lv_at hl 1 rfl) ?_
    refine lv_aload_n hx hb dX3_waitOf_64 rfl (lv_at hl 2 rfl) ?_
    refine va_get (D := D) (ci := 3) (v := .ref (adm 1)) (C := RX3) (T := TX3) (N := 28) hx hb hts hinX3 hown hK.1 hP 0 rfl rfl 0 (by decide) hw3 (fun _ h9 => h9) rfl dX3_waitOf_65 ?_
    refine lv_iload_n hx hb dX3_waitOf_68 rfl (lv_at hl 3 rfl) ?_
    replace hf := gdE hf
    obtain ⟨h7, hf⟩ := hf
    refine va_iald hx hb hK.1 hP 1 0 rfl rfl (ib_in h7) dX3_waitOf_69 ?_
    refine lv_i2l hx hb dX3_waitOf_70 rfl ?_
    refine lv_lload hx hb dX3_waitOf_71 (lv_at hl 0 rfl) ?_
    refine lv_lmul hx hb dX3_waitOf_73 ?_
    refine lv_lsub hx hb dX3_waitOf_74 ?_
    refine lv_lload hx hb dX3_waitOf_75 (lv_at hl 0 rfl) ?_
    refine lv_aload_n hx hb dX3_waitOf_77 rfl (lv_at hl 2 rfl) ?_
    refine va_get (D := D) (ci := 3) (v := .ref (adm 4)) (C := RX3) (T := TX3) (N := 28) hx hb hts hinX3 hown hK.1 hP 0 rfl rfl 3 (by decide) hw4 (fun _ h9 => h9) rfl dX3_waitOf_78 ?_
    refine lv_iload_n hx hb dX3_waitOf_81 rfl (lv_at hl 3 rfl) ?_
    refine va_iald hx hb hK.1 hP 4 0 rfl rfl (ib_in h7) dX3_waitOf_82 ?_
    refine lv_i2l hx hb dX3_waitOf_83 rfl ?_
    refine lv_lmul hx hb dX3_waitOf_84 ?_
    replace hf := bdE hf
    obtain ⟨r8, hgr8, hf⟩ := hf
    refine xVw (va_runV (As := [.long (v2 - (((m0 p1.toNatClampNeg).toInt64) * v4)), .long (v4 * ((m3 p1.toNatClampNeg).toInt64))]) (rest := []) ⟨hx, hb, hml, hown, hts⟩ (c_X3_make l D cI cJ cZ adm m0 m1 m2 m3 m4 m5 m6 m7 m8 m9 m10 m11 m12 m13 m14 m15 m16 m17 m18 m19 m20 m21 m22 m23 m24 m25 m26 m27 (v2 - (((m0 p1.toNatClampNeg).toInt64) * v4)) (v4 * ((m3 p1.toNatClampNeg).toInt64)) r8 hgr8 _) (cwV 2 hts gX3_waitOf_X3_make rfl rfl rfl (by decide +kernel) ⟨Nat.le_of_ble_eq_true rfl, Nat.le_of_ble_eq_true rfl⟩) ⟨PreW.blind, xRecv (q0 := 0) hK hP rfl rfl, (xPrew hK hP hD _)⟩ rfl rfl hl.1 rfl (lv_room (Nat.le_of_ble_eq_true rfl)) dX3_waitOf_85 ⟨Nat.le_of_ble_eq_true rfl, Nat.le_of_ble_eq_true rfl⟩) hD hS hA (fun H locs hP hD hS => ?_)
    replace hP : va_P D vwCl (wMc cI cJ adm m0 m1 m2 m3 m4 m5 m6 m7 m8 m9 m10 m11 m12 m13 m14 m15 m16 m17 m18 m19 m20 m21 m22 m23 r8.1 r8.2 m26 m27) H := hP
    replace hD : va_D A (wMc cI cJ adm m0 m1 m2 m3 m4 m5 m6 m7 m8 m9 m10 m11 m12 m13 m14 m15 m16 m17 m18 m19 m20 m21 m22 m23 r8.1 r8.2 m26 m27) := hD
    obtain rfl := Option.some.inj hf
    exact retV hx hb hr hlocks hP hD hS dX3_waitOf_88
  · replace hf := ifF q6 hf
    refine lv_aload_n hx hb dX3_waitOf_33 rfl (lv_at hl 2 rfl) ?_
    refine lv_aload_n hx hb dX3_waitOf_34 rfl (lv_at hl 2 rfl) ?_
    refine va_get (D := D) (ci := 3) (v := .ref (adm 2)) (C := RX3) (T := TX3) (N := 28) hx hb hts hinX3 hown hK.1 hP 0 rfl rfl 1 (by decide) hw1 (fun _ h9 => h9) rfl dX3_waitOf_35 ?_
    refine lv_iload_n hx hb dX3_waitOf_38 rfl (lv_at hl 3 rfl) ?_
    replace hf := gdE hf
    obtain ⟨h9, hf⟩ := hf
    refine va_iald hx hb hK.1 hP 2 0 rfl rfl (ib_in h9) dX3_waitOf_39 ?_
    refine lv_i2l hx hb dX3_waitOf_40 rfl ?_
    refine lv_lload hx hb dX3_waitOf_41 (lv_at hl 0 rfl) ?_
    refine lv_lmul hx hb dX3_waitOf_43 ?_
    refine lv_lload_n hx hb dX3_waitOf_44 rfl (lv_at hl 1 rfl) ?_
    refine lv_lsub hx hb dX3_waitOf_45 ?_
    refine lv_lload hx hb dX3_waitOf_46 (lv_at hl 0 rfl) ?_
    refine lv_aload_n hx hb dX3_waitOf_48 rfl (lv_at hl 2 rfl) ?_
    refine va_get (D := D) (ci := 3) (v := .ref (adm 3)) (C := RX3) (T := TX3) (N := 28) hx hb hts hinX3 hown hK.1 hP 0 rfl rfl 2 (by decide) hw2 (fun _ h9 => h9) rfl dX3_waitOf_49 ?_
    refine lv_iload_n hx hb dX3_waitOf_52 rfl (lv_at hl 3 rfl) ?_
    refine va_iald hx hb hK.1 hP 3 0 rfl rfl (ib_in h9) dX3_waitOf_53 ?_
    refine lv_i2l hx hb dX3_waitOf_54 rfl ?_
    refine lv_lmul hx hb dX3_waitOf_55 ?_
    replace hf := bdE hf
    obtain ⟨r10, hgr10, hf⟩ := hf
    refine xVw (va_runV (As := [.long ((((m1 p1.toNatClampNeg).toInt64) * v4) - v2), .long (v4 * ((m2 p1.toNatClampNeg).toInt64))]) (rest := []) ⟨hx, hb, hml, hown, hts⟩ (c_X3_make l D cI cJ cZ adm m0 m1 m2 m3 m4 m5 m6 m7 m8 m9 m10 m11 m12 m13 m14 m15 m16 m17 m18 m19 m20 m21 m22 m23 m24 m25 m26 m27 ((((m1 p1.toNatClampNeg).toInt64) * v4) - v2) (v4 * ((m2 p1.toNatClampNeg).toInt64)) r10 hgr10 _) (cwV 2 hts gX3_waitOf_X3_make rfl rfl rfl (by decide +kernel) ⟨Nat.le_of_ble_eq_true rfl, Nat.le_of_ble_eq_true rfl⟩) ⟨PreW.blind, xRecv (q0 := 0) hK hP rfl rfl, (xPrew hK hP hD _)⟩ rfl rfl hl.1 rfl (lv_room (Nat.le_of_ble_eq_true rfl)) dX3_waitOf_56 ⟨Nat.le_of_ble_eq_true rfl, Nat.le_of_ble_eq_true rfl⟩) hD hS hA (fun H locs hP hD hS => ?_)
    replace hP : va_P D vwCl (wMc cI cJ adm m0 m1 m2 m3 m4 m5 m6 m7 m8 m9 m10 m11 m12 m13 m14 m15 m16 m17 m18 m19 m20 m21 m22 m23 r10.1 r10.2 m26 m27) H := hP
    replace hD : va_D A (wMc cI cJ adm m0 m1 m2 m3 m4 m5 m6 m7 m8 m9 m10 m11 m12 m13 m14 m15 m16 m17 m18 m19 m20 m21 m22 m23 r10.1 r10.2 m26 m27) := hD
    refine lv_goto (tgt := 88) hx hb dX3_waitOf_59 (by decide) ?_
    obtain rfl := Option.some.inj hf
    exact retV hx hb hr hlocks hP hD hS dX3_waitOf_88

def f_X3_isOver (p1 : Int64) (p2 : Int64) : Option Bool :=
if (0 : Int32) < (lg_cmp (if 0 < p1 then p1 else -p1) 1000000) then
some true
else
if (lg_cmp p2 1000000) ≤ 0 then
some false
else
some true
abbrev rmX3_isOver : Room := { frames := 1, cells := 0, slots := 0, locals := 21 }
set_option maxHeartbeats 40000000 in
set_option maxRecDepth 100000 in
theorem c_X3_isOver (l : Launch) (D : va_G) (cI cJ cZ : ClassId) (p1 : Int64) (p2 : Int64) (o : Bool) (hf : f_X3_isOver p1 p2 = some o) : CtI l yX3_isOver wsX3_isOver rmX3_isOver D cI cJ cZ [.long p1, .long p2] [] [] (b2i o) := by
  intro sz
  refine Met.ofW (cc := cX3_isOver) (maxL := 4) (ret := (some .boolean)) (by decide) rfl ?_
  intro p e s m args below meth c s₁ B hml hv
  obtain ⟨rfl, hsz, hP, hK, hD0⟩ := hv
  have hx := B.exec
  have hb := B.bytes
  have hr := B.returns
  have hts := atoms_spec (ws := wsX3_isOver) B.pre
  have hown : s.vm.findClass RX3 = some m.cls := findClass_of_methodNamed B.named
  have hlocks := B.notSynchronized
  subst hsz
  have hD := hD0.self (sz := s.heap.size)
  clear hD0
  generalize hAe : va_A [] s.heap.size = A at hD ⊢
  have hA : ∀ q : Nat, s.heap.size ≤ q → A q := fun q h => by rw [← hAe]; exact Or.inr h
  have hS : va_S A s.heap s.heap [] := va_S.rf
  have hw0 : (Cond.methodLink RX3 84 Lib.MathLoose.abs_long.x).before _ s = true := hts _ (by decide +kernel)
  have hw1 : (Cond.static Lib.MathLoose.abs_long.x).before _ s = true := hts _ (by decide +kernel)
  have hw2 : (Cond.initialized "java/lang/Math").before _ s = true := hts _ (by decide +kernel)
  have hw3 : (Cond.code Lib.MathLoose.abs_long.x Lib.MathLoose.abs_long.code 2 (some .long)).before _ s = true := hts _ (by decide +kernel)
  have hw4 : (Cond.constantLong RX3 111 (1000000)).before _ s = true := hts _ (by decide +kernel)
  have hl := lv_entry ([.long p1, .long p2]) (n := 4) (Nat.le_of_ble_eq_true rfl)
  rw [lg_entry_eq]
  generalize (lg_sl ([.long p1, .long p2]) ++ List.replicate (4 - (lg_sl ([.long p1, .long p2])).length) Slot.unset).toArray = ls at hl ⊢
  replace hl : lv_has ls 4 [(0, .long p1), (2, .long p2)] := hl
  unfold f_X3_isOver at hf
  refine lv_lload_n hx hb dX3_isOver_0 rfl (lv_at hl 0 rfl) ?_
  refine va_mabs_long hx hb (hml.trans hl.1.symm) hown hw0 hw1 hw2 hw3 (Nat.le_of_ble_eq_true rfl) (Nat.le_of_ble_eq_true rfl) (Nat.zero_le _) (Nat.zero_le _) dX3_isOver_1 ?_
  refine lv_ldc2 hx hb hown hw4 dX3_isOver_4 ?_
  refine W.lcmp hx hb dX3_isOver_7 ?_
  refine lv_if_gt (tgt := 19) hx hb dX3_isOver_8 (by decide) (fun q1 => ?_) (fun q1 => ?_)
  · replace hf := ifT q1 hf
    refine lv_iconst (v := 1) hx hb dX3_isOver_19 (by decide) ?_
    refine lv_goto (tgt := 24) hx hb dX3_isOver_20 (by decide) ?_
    obtain rfl := Option.some.inj hf
    exact retZ true rfl hx hb hr hlocks hP hD hS dX3_isOver_24
  · replace hf := ifF q1 hf
    refine lv_lload_n hx hb dX3_isOver_11 rfl (lv_at hl 1 rfl) ?_
    refine lv_ldc2 hx hb hown hw4 dX3_isOver_12 ?_
    refine W.lcmp hx hb dX3_isOver_15 ?_
    refine lv_if_le (tgt := 23) hx hb dX3_isOver_16 (by decide) (fun q2 => ?_) (fun q2 => ?_)
    · replace hf := ifT q2 hf
      refine lv_iconst (v := 0) hx hb dX3_isOver_23 (by decide) ?_
      obtain rfl := Option.some.inj hf
      exact retZ false rfl hx hb hr hlocks hP hD hS dX3_isOver_24
    · replace hf := ifF q2 hf
      refine lv_iconst (v := 1) hx hb dX3_isOver_19 (by decide) ?_
      refine lv_goto (tgt := 24) hx hb dX3_isOver_20 (by decide) ?_
      obtain rfl := Option.some.inj hf
      exact retZ true rfl hx hb hr hlocks hP hD hS dX3_isOver_24

def f_X3_isSpent_B24 (m4 : Int32) (m7 : Al) (rec24 : Int32 → Option Bool) (l1_24 : Int32) : Option Bool :=
if m4 ≤ l1_24 then
some false
else
gd (ib (0 + (2 * l1_24)) 31) (
gd (ib ((0 + (2 * l1_24)) + 1) 31) (
(f_X3_isOver (m7 (0 + (2 * l1_24)).toNatClampNeg) (m7 ((0 + (2 * l1_24)) + 1).toNatClampNeg)).bind (fun r8 =>
if (b2i r8) = 0 then
rec24 (l1_24 + 1)
else
some true)))
def f_X3_isSpent_L24 (m4 : Int32) (m7 : Al) : Nat → Int32 → Option Bool
  | 0 => fun _ => none
  | n + 1 => f_X3_isSpent_B24 m4 m7 (f_X3_isSpent_L24 m4 m7 n)
def f_X3_isSpent (m4 : Int32) (m7 : Al) : Option Bool :=
gd (ib 20 31) (
gd (ib 21 31) (
(f_X3_isOver (m7 (20 : Int32).toNatClampNeg) (m7 (21 : Int32).toNatClampNeg)).bind (fun r3 =>
if (b2i r3) = 0 then
f_X3_isSpent_L24 m4 m7 fuel 0
else
some true)))
abbrev rmX3_isSpent : Room := { frames := 2, cells := 0, slots := 0, locals := 44 }
set_option maxHeartbeats 40000000 in
set_option maxRecDepth 100000 in
theorem c_X3_isSpent (l : Launch) (D : va_G) (cI cJ cZ : ClassId) (adm : Nat → Nat) (m0 : Ar) (m1 : Ar) (m2 : Ar) (m3 : Ar) (m4 : Int32) (m5 : Ar) (m6 : Int32) (m7 : Al) (m8 : Al) (m9 : Al) (m10 : Ar) (m11 : Ar) (m12 : Al) (m13 : Al) (m14 : Int32) (m15 : Al) (m16 : Int32) (m17 : Al) (m18 : Ar) (m19 : Int32) (m20 : Al) (m21 : Al) (m22 : Int32) (m23 : Int32) (m24 : Int64) (m25 : Int64) (m26 : Int32) (m27 : Int32) (o : Bool) (hf : f_X3_isSpent m4 m7 = some o) : CtI l yX3_isSpent wsX3_isSpent rmX3_isSpent D cI cJ cZ [.ref (adm 0)] (wMc cI cJ adm m0 m1 m2 m3 m4 m5 m6 m7 m8 m9 m10 m11 m12 m13 m14 m15 m16 m17 m18 m19 m20 m21 m22 m23 m24 m25 m26 m27) (wMc cI cJ adm m0 m1 m2 m3 m4 m5 m6 m7 m8 m9 m10 m11 m12 m13 m14 m15 m16 m17 m18 m19 m20 m21 m22 m23 m24 m25 m26 m27) (b2i o) := by
  intro sz
  refine Met.ofW (cc := cX3_isSpent) (maxL := 2) (ret := (some .boolean)) (by decide) rfl ?_
  intro p e s m args below meth c s₁ B hml hv
  obtain ⟨rfl, hsz, hP, hK, hD0⟩ := hv
  have hx := B.exec
  have hb := B.bytes
  have hr := B.returns
  have hts := atoms_spec (ws := wsX3_isSpent) B.pre
  have hown : s.vm.findClass RX3 = some m.cls := findClass_of_methodNamed B.named
  have hlocks := B.notSynchronized
  subst hsz
  have hD := hD0.self (sz := s.heap.size)
  clear hD0
  generalize hAe : va_A (wMc cI cJ adm m0 m1 m2 m3 m4 m5 m6 m7 m8 m9 m10 m11 m12 m13 m14 m15 m16 m17 m18 m19 m20 m21 m22 m23 m24 m25 m26 m27) s.heap.size = A at hD ⊢
  have hA : ∀ q : Nat, s.heap.size ≤ q → A q := fun q h => by rw [← hAe]; exact Or.inr h
  have hS : va_S A s.heap s.heap [] := va_S.rf
  have hinX3 : ∀ w ∈ wsX30, w ∈ wsX3_isSpent := by decide +kernel
  have hw0 : (Cond.fieldLink RX3 25 "SwingCircuitsModel" "now" "[J").before _ s = true := hts _ (by decide +kernel)
  have hw1 : (Cond.fieldLink RX3 73 "SwingCircuitsModel" "cells" "I").before _ s = true := hts _ (by decide +kernel)
  have hl := lv_entry ([.ref (adm 0)]) (n := 2) (Nat.le_of_ble_eq_true rfl)
  rw [lg_entry_eq]
  generalize (lg_sl ([.ref (adm 0)]) ++ List.replicate (2 - (lg_sl ([.ref (adm 0)])).length) Slot.unset).toArray = ls at hl ⊢
  replace hl : lv_has ls 2 [(0, .ref (adm 0))] := hl
  unfold f_X3_isSpent at hf
  refine lv_aload_n hx hb dX3_isSpent_0 rfl (lv_at hl 0 rfl) ?_
  refine va_get (D := D) (ci := 3) (v := .ref (adm 6)) (C := RX3) (T := TX3) (N := 28) hx hb hts hinX3 hown hK.1 hP 0 rfl rfl 7 (by decide) hw0 (fun _ h9 => h9) rfl dX3_isSpent_1 ?_
  refine lv_bipush (v := 20) hx hb dX3_isSpent_4 (by decide) ?_
  replace hf := gdE hf
  obtain ⟨h1, hf⟩ := hf
  refine va_lald hx hb hK.1 hP 6 1 rfl rfl (ib_in h1) dX3_isSpent_6 ?_
  refine lv_aload_n hx hb dX3_isSpent_7 rfl (lv_at hl 0 rfl) ?_
  refine va_get (D := D) (ci := 3) (v := .ref (adm 6)) (C := RX3) (T := TX3) (N := 28) hx hb hts hinX3 hown hK.1 hP 0 rfl rfl 7 (by decide) hw0 (fun _ h9 => h9) rfl dX3_isSpent_8 ?_
  refine lv_bipush (v := 21) hx hb dX3_isSpent_11 (by decide) ?_
  replace hf := gdE hf
  obtain ⟨h2, hf⟩ := hf
  refine va_lald hx hb hK.1 hP 6 1 rfl rfl (ib_in h2) dX3_isSpent_13 ?_
  replace hf := bdE hf
  obtain ⟨r3, hgr3, hf⟩ := hf
  refine xI0 (va_runS (As := [.long (m7 (20 : Int32).toNatClampNeg), .long (m7 (21 : Int32).toNatClampNeg)]) (rest := []) ⟨hx, hb, hml, hown, hts⟩ (c_X3_isOver l D cI cJ cZ (m7 (20 : Int32).toNatClampNeg) (m7 (21 : Int32).toNatClampNeg) r3 hgr3 _) (va_cwS 2 hts gX3_isSpent_X3_isOver rfl rfl rfl (by decide +kernel) ⟨Nat.le_of_ble_eq_true rfl, Nat.le_of_ble_eq_true rfl⟩) ⟨PreW.blind, (xPre0 hK _)⟩ rfl rfl hl.1 rfl (lv_room (Nat.le_of_ble_eq_true rfl)) dX3_isSpent_14 ⟨Nat.le_of_ble_eq_true rfl, Nat.le_of_ble_eq_true rfl⟩) hP hS hA (fun H locs hP hS => ?_)
  refine lv_if_eq (tgt := 22) hx hb dX3_isSpent_17 (by decide) (fun q4 => ?_) (fun q4 => ?_)
  · replace hf := ifT q4 hf
    refine lv_iconst (v := 0) hx hb dX3_isSpent_22 (by decide) ?_
    refine lv_istore_n (lv' := [(1, .int 0), (0, .ref (adm 0))]) hx hb dX3_isSpent_23 rfl hl (by decide) rfl (fun ls hl => ?_)
    have L24 : ∀ (n : Nat) (l1_24 : Int32) (H : Heap) (locs : List Loc) (ls : Array Slot), f_X3_isSpent_L24 m4 m7 n l1_24 = some o → va_P D vwCl (wMc cI cJ adm m0 m1 m2 m3 m4 m5 m6 m7 m8 m9 m10 m11 m12 m13 m14 m15 m16 m17 m18 m19 m20 m21 m22 m23 m24 m25 m26 m27) H → va_D A (wMc cI cJ adm m0 m1 m2 m3 m4 m5 m6 m7 m8 m9 m10 m11 m12 m13 m14 m15 m16 m17 m18 m19 m20 m21 m22 m23 m24 m25 m26 m27) → va_S A s.heap H locs → lv_has ls 2 [(0, .ref (adm 0)), (1, .int l1_24)] → W p l e (headSpec wsX3_isSpent rmX3_isSpent).room s m ([.ref (adm 0)] : List Value).toArray below meth c H locs 0 0 (MQ below (QI D A (b2i o) (wMc cI cJ adm m0 m1 m2 m3 m4 m5 m6 m7 m8 m9 m10 m11 m12 m13 m14 m15 m16 m17 m18 m19 m20 m21 m22 m23 m24 m25 m26 m27)) ([.ref (adm 0)] : List Value).toArray s 0 0 A) (F0 m 24 ls []) := by
      intro n
      induction n with
      | zero => intro l1_24 H locs ls hf; cases hf
      | succ n ih24 =>
        intro l1_24 H locs ls hf hP hD hS hl
        replace hf : f_X3_isSpent_B24 m4 m7 (f_X3_isSpent_L24 m4 m7 n) l1_24 = some o := hf
        generalize f_X3_isSpent_L24 m4 m7 n = rec24 at ih24 hf
        unfold f_X3_isSpent_B24 at hf
        refine lv_iload_n hx hb dX3_isSpent_24 rfl (lv_at hl 1 rfl) ?_
        refine lv_aload_n hx hb dX3_isSpent_25 rfl (lv_at hl 0 rfl) ?_
        refine va_get (D := D) (ci := 3) (v := .int m4) (C := RX3) (T := TX3) (N := 28) hx hb hts hinX3 hown hK.1 hP 0 rfl rfl 4 (by decide) hw1 (fun _ h9 => h9) rfl dX3_isSpent_26 ?_
        refine lv_icmp_ge (tgt := 68) hx hb dX3_isSpent_29 (by decide) (fun q5 => ?_) (fun q5 => ?_)
        · replace hf := ifT q5 hf
          refine lv_iconst (v := 0) hx hb dX3_isSpent_68 (by decide) ?_
          obtain rfl := Option.some.inj hf
          exact retZ false rfl hx hb hr hlocks hP hD hS dX3_isSpent_69
        · replace hf := ifF q5 hf
          refine lv_aload_n hx hb dX3_isSpent_32 rfl (lv_at hl 0 rfl) ?_
          refine va_get (D := D) (ci := 3) (v := .ref (adm 6)) (C := RX3) (T := TX3) (N := 28) hx hb hts hinX3 hown hK.1 hP 0 rfl rfl 7 (by decide) hw0 (fun _ h9 => h9) rfl dX3_isSpent_33 ?_
          refine lv_iconst (v := 0) hx hb dX3_isSpent_36 (by decide) ?_
          refine lv_iconst (v := 2) hx hb dX3_isSpent_37 (by decide) ?_
          refine lv_iload_n hx hb dX3_isSpent_38 rfl (lv_at hl 1 rfl) ?_
          refine lv_imul hx hb dX3_isSpent_39 ?_
          refine lv_iadd hx hb dX3_isSpent_40 ?_
          replace hf := gdE hf
          obtain ⟨h6, hf⟩ := hf
          refine va_lald hx hb hK.1 hP 6 1 rfl rfl (ib_in h6) dX3_isSpent_41 ?_
          refine lv_aload_n hx hb dX3_isSpent_42 rfl (lv_at hl 0 rfl) ?_
          refine va_get (D := D) (ci := 3) (v := .ref (adm 6)) (C := RX3) (T := TX3) (N := 28) hx hb hts hinX3 hown hK.1 hP 0 rfl rfl 7 (by decide) hw0 (fun _ h9 => h9) rfl dX3_isSpent_43 ?_
          refine lv_iconst (v := 0) hx hb dX3_isSpent_46 (by decide) ?_
          refine lv_iconst (v := 2) hx hb dX3_isSpent_47 (by decide) ?_
          refine lv_iload_n hx hb dX3_isSpent_48 rfl (lv_at hl 1 rfl) ?_
          refine lv_imul hx hb dX3_isSpent_49 ?_
          refine lv_iadd hx hb dX3_isSpent_50 ?_
          refine lv_iconst (v := 1) hx hb dX3_isSpent_51 (by decide) ?_
          refine lv_iadd hx hb dX3_isSpent_52 ?_
          replace hf := gdE hf
          obtain ⟨h7, hf⟩ := hf
          refine va_lald hx hb hK.1 hP 6 1 rfl rfl (ib_in h7) dX3_isSpent_53 ?_
          replace hf := bdE hf
          obtain ⟨r8, hgr8, hf⟩ := hf
          refine xI0 (va_runS (As := [.long (m7 (0 + (2 * l1_24)).toNatClampNeg), .long (m7 ((0 + (2 * l1_24)) + 1).toNatClampNeg)]) (rest := []) ⟨hx, hb, hml, hown, hts⟩ (c_X3_isOver l D cI cJ cZ (m7 (0 + (2 * l1_24)).toNatClampNeg) (m7 ((0 + (2 * l1_24)) + 1).toNatClampNeg) r8 hgr8 _) (va_cwS 2 hts gX3_isSpent_X3_isOver rfl rfl rfl (by decide +kernel) ⟨Nat.le_of_ble_eq_true rfl, Nat.le_of_ble_eq_true rfl⟩) ⟨PreW.blind, (xPre0 hK _)⟩ rfl rfl hl.1 rfl (lv_room (Nat.le_of_ble_eq_true rfl)) dX3_isSpent_54 ⟨Nat.le_of_ble_eq_true rfl, Nat.le_of_ble_eq_true rfl⟩) hP hS hA (fun H locs hP hS => ?_)
          refine lv_if_eq (tgt := 62) hx hb dX3_isSpent_57 (by decide) (fun q9 => ?_) (fun q9 => ?_)
          · replace hf := ifT q9 hf
            refine lv_iinc (v := l1_24 + 1) (lv' := [(1, .int (l1_24 + 1)), (0, .ref (adm 0))]) hx hb dX3_isSpent_62 hl (k := 1) rfl (by rfl) (by decide) rfl (fun ls hl => ?_)
            refine lv_goto (tgt := 24) hx hb dX3_isSpent_65 (by decide) ?_
            exact ih24 (l1_24 + 1) _ _ _ hf hP hD hS (lv_sub hl [1, 0] rfl)
          · replace hf := ifF q9 hf
            refine lv_iconst (v := 1) hx hb dX3_isSpent_60 (by decide) ?_
            obtain rfl := Option.some.inj hf
            exact retZ true rfl hx hb hr hlocks hP hD hS dX3_isSpent_61
    exact L24 fuel 0 _ _ _ hf hP hD hS (lv_sub hl [1, 0] rfl)
  · replace hf := ifF q4 hf
    refine lv_iconst (v := 1) hx hb dX3_isSpent_20 (by decide) ?_
    obtain rfl := Option.some.inj hf
    exact retZ true rfl hx hb hr hlocks hP hD hS dX3_isSpent_21

def f_X3_act_J223 (m7 : Al) (p1 : Int32) (v7 : Int64) (v11 : Int32) (v16 : Int64) (k0_223 : Int64) : Option (Al × Int64 × Int64) :=
(f_X3_make k0_223 v16).bind (fun r21 =>
(f_X3_store (vp_updL (vp_updL m7 (12 + p1).toNatClampNeg v7) (12 + p1).toNatClampNeg 0) r21.1 r21.2 (0 + (2 * v11))).bind (fun r22 =>
some (r22, r21.1, r21.2)))
def f_X3_act (m0 : Ar) (m1 : Ar) (m5 : Ar) (m7 : Al) (m24 : Int64) (m25 : Int64) (m26 : Int32) (m27 : Int32) (p1 : Int32) : Option (Al × Int64 × Int64) :=
bnd (6 * p1) (fun v1 =>
gd (ib v1 48) (
if ¬ (m5 v1.toNatClampNeg) = m26 then
some (m7, m24, m25)
else
gd (ib (v1 + 1) 48) (
if (m5 (v1 + 1).toNatClampNeg) = m27 then
gd (ib (12 + p1) 31) (
bnd ((m7 (12 + p1).toNatClampNeg) + 1) (fun v7 =>
gd (ib (v1 + 2) 48) (
if (0 : Int32) ≤ (lg_cmp ((vp_updL m7 (12 + p1).toNatClampNeg v7) (12 + p1).toNatClampNeg) ((m5 (v1 + 2).toNatClampNeg).toInt64)) then
gd (ib (v1 + 3) 48) (
bnd (m5 (v1 + 3).toNatClampNeg) (fun v11 =>
gd (ib (v1 + 4) 48) (
bnd (m5 (v1 + 4).toNatClampNeg) (fun v13 =>
if v13 = 0 then
gd (ib ((0 + (2 * v11)) + 1) 31) (
bnd ((vp_updL (vp_updL m7 (12 + p1).toNatClampNeg v7) (12 + p1).toNatClampNeg 0) ((0 + (2 * v11)) + 1).toNatClampNeg) (fun v16 =>
gd (ib (0 + (2 * v11)) 31) (
gd (ib (v1 + 5) 48) (
bnd (((vp_updL (vp_updL m7 (12 + p1).toNatClampNeg v7) (12 + p1).toNatClampNeg 0) (0 + (2 * v11)).toNatClampNeg) + (((m5 (v1 + 5).toNatClampNeg).toInt64) * v16)) (fun v19 =>
gd (ib v11 4) (
if (lg_cmp v19 (((m1 v11.toNatClampNeg).toInt64) * v16)) ≤ 0 then
if (0 : Int32) ≤ (lg_cmp v19 (((m0 v11.toNatClampNeg).toInt64) * v16)) then
f_X3_act_J223 m7 p1 v7 v11 v16 v19
else
f_X3_act_J223 m7 p1 v7 v11 v16 (((m0 v11.toNatClampNeg).toInt64) * v16)
else
f_X3_act_J223 m7 p1 v7 v11 v16 (((m1 v11.toNatClampNeg).toInt64) * v16)))))))
else
if v13 = 1 then
gd (ib (8 + v11) 31) (
bnd (1 - ((vp_updL (vp_updL m7 (12 + p1).toNatClampNeg v7) (12 + p1).toNatClampNeg 0) (8 + v11).toNatClampNeg)) (fun v27 =>
some (vp_updL (vp_updL (vp_updL m7 (12 + p1).toNatClampNeg v7) (12 + p1).toNatClampNeg 0) (8 + v11).toNatClampNeg v27, m24, m25)))
else
gd (ib (v1 + 5) 48) (
bnd (1 - ((m5 (v1 + 5).toNatClampNeg).toInt64)) (fun v29 =>
gd (ib (8 + v11) 31) (
some (vp_updL (vp_updL (vp_updL m7 (12 + p1).toNatClampNeg v7) (12 + p1).toNatClampNeg 0) (8 + v11).toNatClampNeg v29, m24, m25))))))))
else
some (vp_updL m7 (12 + p1).toNatClampNeg v7, m24, m25))))
else
some (m7, m24, m25))))
abbrev rmX3_act : Room := { frames := 122, cells := 0, slots := 0, locals := 2809 }
set_option maxHeartbeats 40000000 in
set_option maxRecDepth 100000 in
theorem c_X3_act (l : Launch) (D : va_G) (cI cJ cZ : ClassId) (adm : Nat → Nat) (m0 : Ar) (m1 : Ar) (m2 : Ar) (m3 : Ar) (m4 : Int32) (m5 : Ar) (m6 : Int32) (m7 : Al) (m8 : Al) (m9 : Al) (m10 : Ar) (m11 : Ar) (m12 : Al) (m13 : Al) (m14 : Int32) (m15 : Al) (m16 : Int32) (m17 : Al) (m18 : Ar) (m19 : Int32) (m20 : Al) (m21 : Al) (m22 : Int32) (m23 : Int32) (m24 : Int64) (m25 : Int64) (m26 : Int32) (m27 : Int32) (p1 : Int32) (o : (Al × Int64 × Int64)) (hf : f_X3_act m0 m1 m5 m7 m24 m25 m26 m27 p1 = some o) : CtV l yX3_act wsX3_act rmX3_act D cI cJ cZ [.ref (adm 0), .int p1] (wMc cI cJ adm m0 m1 m2 m3 m4 m5 m6 m7 m8 m9 m10 m11 m12 m13 m14 m15 m16 m17 m18 m19 m20 m21 m22 m23 m24 m25 m26 m27) (wMc cI cJ adm m0 m1 m2 m3 m4 m5 m6 o.1 m8 m9 m10 m11 m12 m13 m14 m15 m16 m17 m18 m19 m20 m21 m22 m23 o.2.1 o.2.2 m26 m27) := by
  intro sz
  refine Met.ofW (cc := cX3_act) (maxL := 8) (ret := none) (by decide) rfl ?_
  intro p e s m args below meth c s₁ B hml hv
  obtain ⟨rfl, hsz, hP, hK, hD0⟩ := hv
  have hx := B.exec
  have hb := B.bytes
  have hr := B.returns
  have hts := atoms_spec (ws := wsX3_act) B.pre
  have hown : s.vm.findClass RX3 = some m.cls := findClass_of_methodNamed B.named
  have hlocks := B.notSynchronized
  subst hsz
  have hD := hD0.self (sz := s.heap.size)
  clear hD0
  generalize hAe : va_A (wMc cI cJ adm m0 m1 m2 m3 m4 m5 m6 m7 m8 m9 m10 m11 m12 m13 m14 m15 m16 m17 m18 m19 m20 m21 m22 m23 m24 m25 m26 m27) s.heap.size = A at hD ⊢
  have hA : ∀ q : Nat, s.heap.size ≤ q → A q := fun q h => by rw [← hAe]; exact Or.inr h
  have hS : va_S A s.heap s.heap [] := va_S.rf
  have hinX3 : ∀ w ∈ wsX30, w ∈ wsX3_act := by decide +kernel
  have hw0 : (Cond.fieldLink RX3 22 "SwingCircuitsModel" "links" "[I").before _ s = true := hts _ (by decide +kernel)
  have hw1 : (Cond.fieldLink RX3 125 "SwingCircuitsModel" "nextCell" "I").before _ s = true := hts _ (by decide +kernel)
  have hw2 : (Cond.fieldLink RX3 128 "SwingCircuitsModel" "nextAt" "I").before _ s = true := hts _ (by decide +kernel)
  have hw3 : (Cond.fieldLink RX3 25 "SwingCircuitsModel" "now" "[J").before _ s = true := hts _ (by decide +kernel)
  have hw4 : (Cond.fieldLink RX3 13 "SwingCircuitsModel" "high" "[I").before _ s = true := hts _ (by decide +kernel)
  have hw5 : (Cond.fieldLink RX3 9 "SwingCircuitsModel" "low" "[I").before _ s = true := hts _ (by decide +kernel)
  have hl := lv_entry ([.ref (adm 0), .int p1]) (n := 8) (Nat.le_of_ble_eq_true rfl)
  rw [lg_entry_eq]
  generalize (lg_sl ([.ref (adm 0), .int p1]) ++ List.replicate (8 - (lg_sl ([.ref (adm 0), .int p1])).length) Slot.unset).toArray = ls at hl ⊢
  replace hl : lv_has ls 8 [(0, .ref (adm 0)), (1, .int p1)] := hl
  unfold f_X3_act at hf
  refine lv_bipush (v := 6) hx hb dX3_act_0 (by decide) ?_
  refine lv_iload_n hx hb dX3_act_2 rfl (lv_at hl 1 rfl) ?_
  refine lv_imul hx hb dX3_act_3 ?_
  refine lv_topi (fun v1 ev1 => ?_)
  replace hf := bndE hf ev1
  refine lv_istore_n (lv' := [(2, .int v1), (0, .ref (adm 0)), (1, .int p1)]) hx hb dX3_act_4 rfl hl (by decide) rfl (fun ls hl => ?_)
  refine lv_aload_n hx hb dX3_act_5 rfl (lv_at hl 1 rfl) ?_
  refine va_get (D := D) (ci := 3) (v := .ref (adm 5)) (C := RX3) (T := TX3) (N := 28) hx hb hts hinX3 hown hK.1 hP 0 rfl rfl 5 (by decide) hw0 (fun _ h9 => h9) rfl dX3_act_6 ?_
  refine lv_iload_n hx hb dX3_act_9 rfl (lv_at hl 0 rfl) ?_
  replace hf := gdE hf
  obtain ⟨h2, hf⟩ := hf
  refine va_iald hx hb hK.1 hP 5 0 rfl rfl (ib_in h2) dX3_act_10 ?_
  refine lv_aload_n hx hb dX3_act_11 rfl (lv_at hl 1 rfl) ?_
  refine va_get (D := D) (ci := 3) (v := .int m26) (C := RX3) (T := TX3) (N := 28) hx hb hts hinX3 hown hK.1 hP 0 rfl rfl 26 (by decide) hw1 (fun _ h9 => h9) rfl dX3_act_12 ?_
  refine lv_icmp_ne (tgt := 33) hx hb dX3_act_15 (by decide) (fun q3 => ?_) (fun q3 => ?_)
  · replace hf := ifT q3 hf
    obtain rfl := Option.some.inj hf
    exact retV hx hb hr hlocks hP hD hS dX3_act_33
  · replace hf := ifN q3 hf
    refine lv_aload_n hx hb dX3_act_18 rfl (lv_at hl 1 rfl) ?_
    refine va_get (D := D) (ci := 3) (v := .ref (adm 5)) (C := RX3) (T := TX3) (N := 28) hx hb hts hinX3 hown hK.1 hP 0 rfl rfl 5 (by decide) hw0 (fun _ h9 => h9) rfl dX3_act_19 ?_
    refine lv_iload_n hx hb dX3_act_22 rfl (lv_at hl 0 rfl) ?_
    refine lv_iconst (v := 1) hx hb dX3_act_23 (by decide) ?_
    refine lv_iadd hx hb dX3_act_24 ?_
    replace hf := gdE hf
    obtain ⟨h4, hf⟩ := hf
    refine va_iald hx hb hK.1 hP 5 0 rfl rfl (ib_in h4) dX3_act_25 ?_
    refine lv_aload_n hx hb dX3_act_26 rfl (lv_at hl 1 rfl) ?_
    refine va_get (D := D) (ci := 3) (v := .int m27) (C := RX3) (T := TX3) (N := 28) hx hb hts hinX3 hown hK.1 hP 0 rfl rfl 27 (by decide) hw2 (fun _ h9 => h9) rfl dX3_act_27 ?_
    refine lv_icmp_eq (tgt := 34) hx hb dX3_act_30 (by decide) (fun q5 => ?_) (fun q5 => ?_)
    · replace hf := ifT q5 hf
      refine lv_aload_n hx hb dX3_act_34 rfl (lv_at hl 1 rfl) ?_
      refine va_get (D := D) (ci := 3) (v := .ref (adm 6)) (C := RX3) (T := TX3) (N := 28) hx hb hts hinX3 hown hK.1 hP 0 rfl rfl 7 (by decide) hw3 (fun _ h9 => h9) rfl dX3_act_35 ?_
      refine lv_bipush (v := 12) hx hb dX3_act_38 (by decide) ?_
      refine lv_iload_n hx hb dX3_act_40 rfl (lv_at hl 2 rfl) ?_
      refine lv_iadd hx hb dX3_act_41 ?_
      refine lv_dup2_11 hx hb dX3_act_42 rfl rfl ?_
      replace hf := gdE hf
      obtain ⟨h6, hf⟩ := hf
      refine va_lald hx hb hK.1 hP 6 1 rfl rfl (ib_in h6) dX3_act_43 ?_
      refine lv_lconst (v := 1) hx hb dX3_act_44 (by decide) ?_
      refine lv_ladd hx hb dX3_act_45 ?_
      refine lv_topl (fun v7 ev7 => ?_)
      replace hf := bndE hf ev7
      refine va_last hx hb hK.1 hP hD hS 6 1 rfl rfl (ib_in h6) dX3_act_46 (fun H locs hP hD hS => ?_)
      replace hP : va_P D vwCl (wMc cI cJ adm m0 m1 m2 m3 m4 m5 m6 (vp_updL m7 (12 + p1).toNatClampNeg v7) m8 m9 m10 m11 m12 m13 m14 m15 m16 m17 m18 m19 m20 m21 m22 m23 m24 m25 m26 m27) H := hP
      replace hD : va_D A (wMc cI cJ adm m0 m1 m2 m3 m4 m5 m6 (vp_updL m7 (12 + p1).toNatClampNeg v7) m8 m9 m10 m11 m12 m13 m14 m15 m16 m17 m18 m19 m20 m21 m22 m23 m24 m25 m26 m27) := hD
      refine lv_aload_n hx hb dX3_act_47 rfl (lv_at hl 1 rfl) ?_
      refine va_get (D := D) (ci := 3) (v := .ref (adm 6)) (C := RX3) (T := TX3) (N := 28) hx hb hts hinX3 hown hK.1 hP 0 rfl rfl 7 (by decide) hw3 (fun _ h9 => h9) rfl dX3_act_48 ?_
      refine lv_bipush (v := 12) hx hb dX3_act_51 (by decide) ?_
      refine lv_iload_n hx hb dX3_act_53 rfl (lv_at hl 2 rfl) ?_
      refine lv_iadd hx hb dX3_act_54 ?_
      refine va_lald hx hb hK.1 hP 6 1 rfl rfl (ib_in h6) dX3_act_55 ?_
      refine lv_aload_n hx hb dX3_act_56 rfl (lv_at hl 1 rfl) ?_
      refine va_get (D := D) (ci := 3) (v := .ref (adm 5)) (C := RX3) (T := TX3) (N := 28) hx hb hts hinX3 hown hK.1 hP 0 rfl rfl 5 (by decide) hw0 (fun _ h9 => h9) rfl dX3_act_57 ?_
      refine lv_iload_n hx hb dX3_act_60 rfl (lv_at hl 0 rfl) ?_
      refine lv_iconst (v := 2) hx hb dX3_act_61 (by decide) ?_
      refine lv_iadd hx hb dX3_act_62 ?_
      replace hf := gdE hf
      obtain ⟨h8, hf⟩ := hf
      refine va_iald hx hb hK.1 hP 5 0 rfl rfl (ib_in h8) dX3_act_63 ?_
      refine lv_i2l hx hb dX3_act_64 rfl ?_
      refine W.lcmp hx hb dX3_act_65 ?_
      refine lv_if_ge (tgt := 70) hx hb dX3_act_66 (by decide) (fun q9 => ?_) (fun q9 => ?_)
      · replace hf := ifT q9 hf
        refine lv_aload_n hx hb dX3_act_70 rfl (lv_at hl 1 rfl) ?_
        refine va_get (D := D) (ci := 3) (v := .ref (adm 6)) (C := RX3) (T := TX3) (N := 28) hx hb hts hinX3 hown hK.1 hP 0 rfl rfl 7 (by decide) hw3 (fun _ h9 => h9) rfl dX3_act_71 ?_
        refine lv_bipush (v := 12) hx hb dX3_act_74 (by decide) ?_
        refine lv_iload_n hx hb dX3_act_76 rfl (lv_at hl 2 rfl) ?_
        refine lv_iadd hx hb dX3_act_77 ?_
        refine lv_lconst (v := 0) hx hb dX3_act_78 (by decide) ?_
        refine va_last hx hb hK.1 hP hD hS 6 1 rfl rfl (ib_in h6) dX3_act_79 (fun H locs hP hD hS => ?_)
        replace hP : va_P D vwCl (wMc cI cJ adm m0 m1 m2 m3 m4 m5 m6 (vp_updL (vp_updL m7 (12 + p1).toNatClampNeg v7) (12 + p1).toNatClampNeg 0) m8 m9 m10 m11 m12 m13 m14 m15 m16 m17 m18 m19 m20 m21 m22 m23 m24 m25 m26 m27) H := hP
        replace hD : va_D A (wMc cI cJ adm m0 m1 m2 m3 m4 m5 m6 (vp_updL (vp_updL m7 (12 + p1).toNatClampNeg v7) (12 + p1).toNatClampNeg 0) m8 m9 m10 m11 m12 m13 m14 m15 m16 m17 m18 m19 m20 m21 m22 m23 m24 m25 m26 m27) := hD
        refine lv_aload_n hx hb dX3_act_80 rfl (lv_at hl 1 rfl) ?_
        refine va_get (D := D) (ci := 3) (v := .ref (adm 5)) (C := RX3) (T := TX3) (N := 28) hx hb hts hinX3 hown hK.1 hP 0 rfl rfl 5 (by decide) hw0 (fun _ h9 => h9) rfl dX3_act_81 ?_
        refine lv_iload_n hx hb dX3_act_84 rfl (lv_at hl 0 rfl) ?_
        refine lv_iconst (v := 3) hx hb dX3_act_85 (by decide) ?_
        refine lv_iadd hx hb dX3_act_86 ?_
        replace hf := gdE hf
        obtain ⟨h10, hf⟩ := hf
        refine va_iald hx hb hK.1 hP 5 0 rfl rfl (ib_in h10) dX3_act_87 ?_
        refine lv_topi (fun v11 ev11 => ?_)
        replace hf := bndE hf ev11
        refine lv_istore_n (lv' := [(3, .int v11), (2, .int v1), (0, .ref (adm 0)), (1, .int p1)]) hx hb dX3_act_88 rfl hl (by decide) rfl (fun ls hl => ?_)
        refine lv_aload_n hx hb dX3_act_89 rfl (lv_at hl 2 rfl) ?_
        refine va_get (D := D) (ci := 3) (v := .ref (adm 5)) (C := RX3) (T := TX3) (N := 28) hx hb hts hinX3 hown hK.1 hP 0 rfl rfl 5 (by decide) hw0 (fun _ h9 => h9) rfl dX3_act_90 ?_
        refine lv_iload_n hx hb dX3_act_93 rfl (lv_at hl 1 rfl) ?_
        refine lv_iconst (v := 4) hx hb dX3_act_94 (by decide) ?_
        refine lv_iadd hx hb dX3_act_95 ?_
        replace hf := gdE hf
        obtain ⟨h12, hf⟩ := hf
        refine va_iald hx hb hK.1 hP 5 0 rfl rfl (ib_in h12) dX3_act_96 ?_
        refine lv_topi (fun v13 ev13 => ?_)
        replace hf := bndE hf ev13
        by_cases q14 : v13 = 0
        · replace hf := ifT q14 hf
          refine lv_lookup (off := 27) (tgt := 124) hx hb dX3_act_97 (by decide) (by rw [q14]; rfl) (by decide) ?_
          refine lv_aload_n hx hb dX3_act_124 rfl (lv_at hl 2 rfl) ?_
          refine va_get (D := D) (ci := 3) (v := .ref (adm 6)) (C := RX3) (T := TX3) (N := 28) hx hb hts hinX3 hown hK.1 hP 0 rfl rfl 7 (by decide) hw3 (fun _ h9 => h9) rfl dX3_act_125 ?_
          refine lv_iconst (v := 0) hx hb dX3_act_128 (by decide) ?_
          refine lv_iconst (v := 2) hx hb dX3_act_129 (by decide) ?_
          refine lv_iload_n hx hb dX3_act_130 rfl (lv_at hl 0 rfl) ?_
          refine lv_imul hx hb dX3_act_131 ?_
          refine lv_iadd hx hb dX3_act_132 ?_
          refine lv_iconst (v := 1) hx hb dX3_act_133 (by decide) ?_
          refine lv_iadd hx hb dX3_act_134 ?_
          replace hf := gdE hf
          obtain ⟨h15, hf⟩ := hf
          refine va_lald hx hb hK.1 hP 6 1 rfl rfl (ib_in h15) dX3_act_135 ?_
          refine lv_topl (fun v16 ev16 => ?_)
          replace hf := bndE hf ev16
          refine lv_lstore (lv' := [(4, .long v16), (3, .int v11), (2, .int v1), (0, .ref (adm 0)), (1, .int p1)]) hx hb dX3_act_136 hl (by decide) rfl (fun ls hl => ?_)
          refine lv_aload_n hx hb dX3_act_138 rfl (lv_at hl 3 rfl) ?_
          refine va_get (D := D) (ci := 3) (v := .ref (adm 6)) (C := RX3) (T := TX3) (N := 28) hx hb hts hinX3 hown hK.1 hP 0 rfl rfl 7 (by decide) hw3 (fun _ h9 => h9) rfl dX3_act_139 ?_
          refine lv_iconst (v := 0) hx hb dX3_act_142 (by decide) ?_
          refine lv_iconst (v := 2) hx hb dX3_act_143 (by decide) ?_
          refine lv_iload_n hx hb dX3_act_144 rfl (lv_at hl 1 rfl) ?_
          refine lv_imul hx hb dX3_act_145 ?_
          refine lv_iadd hx hb dX3_act_146 ?_
          replace hf := gdE hf
          obtain ⟨h17, hf⟩ := hf
          refine va_lald hx hb hK.1 hP 6 1 rfl rfl (ib_in h17) dX3_act_147 ?_
          refine lv_aload_n hx hb dX3_act_148 rfl (lv_at hl 3 rfl) ?_
          refine va_get (D := D) (ci := 3) (v := .ref (adm 5)) (C := RX3) (T := TX3) (N := 28) hx hb hts hinX3 hown hK.1 hP 0 rfl rfl 5 (by decide) hw0 (fun _ h9 => h9) rfl dX3_act_149 ?_
          refine lv_iload_n hx hb dX3_act_152 rfl (lv_at hl 2 rfl) ?_
          refine lv_iconst (v := 5) hx hb dX3_act_153 (by decide) ?_
          refine lv_iadd hx hb dX3_act_154 ?_
          replace hf := gdE hf
          obtain ⟨h18, hf⟩ := hf
          refine va_iald hx hb hK.1 hP 5 0 rfl rfl (ib_in h18) dX3_act_155 ?_
          refine lv_i2l hx hb dX3_act_156 rfl ?_
          refine lv_lload hx hb dX3_act_157 (lv_at hl 0 rfl) ?_
          refine lv_lmul hx hb dX3_act_159 ?_
          refine lv_ladd hx hb dX3_act_160 ?_
          refine lv_topl (fun v19 ev19 => ?_)
          replace hf := bndE hf ev19
          refine lv_lstore (lv' := [(6, .long v19), (4, .long v16), (3, .int v11), (2, .int v1), (0, .ref (adm 0)), (1, .int p1)]) hx hb dX3_act_161 hl (by decide) rfl (fun ls hl => ?_)
          refine lv_lload hx hb dX3_act_163 (lv_at hl 0 rfl) ?_
          refine lv_aload_n hx hb dX3_act_165 rfl (lv_at hl 4 rfl) ?_
          refine va_get (D := D) (ci := 3) (v := .ref (adm 2)) (C := RX3) (T := TX3) (N := 28) hx hb hts hinX3 hown hK.1 hP 0 rfl rfl 1 (by decide) hw4 (fun _ h9 => h9) rfl dX3_act_166 ?_
          refine lv_iload_n hx hb dX3_act_169 rfl (lv_at hl 2 rfl) ?_
          replace hf := gdE hf
          obtain ⟨h20, hf⟩ := hf
          refine va_iald hx hb hK.1 hP 2 0 rfl rfl (ib_in h20) dX3_act_170 ?_
          refine lv_i2l hx hb dX3_act_171 rfl ?_
          refine lv_lload hx hb dX3_act_172 (lv_at hl 1 rfl) ?_
          refine lv_lmul hx hb dX3_act_174 ?_
          refine W.lcmp hx hb dX3_act_175 ?_
          have J223 : ∀ (k0_223 : Int64) (H : Heap) (locs : List Loc) (ls : Array Slot), f_X3_act_J223 m7 p1 v7 v11 v16 k0_223 = some o → va_P D vwCl (wMc cI cJ adm m0 m1 m2 m3 m4 m5 m6 (vp_updL (vp_updL m7 (12 + p1).toNatClampNeg v7) (12 + p1).toNatClampNeg 0) m8 m9 m10 m11 m12 m13 m14 m15 m16 m17 m18 m19 m20 m21 m22 m23 m24 m25 m26 m27) H → va_D A (wMc cI cJ adm m0 m1 m2 m3 m4 m5 m6 (vp_updL (vp_updL m7 (12 + p1).toNatClampNeg v7) (12 + p1).toNatClampNeg 0) m8 m9 m10 m11 m12 m13 m14 m15 m16 m17 m18 m19 m20 m21 m22 m23 m24 m25 m26 m27) → va_S A s.heap H locs → lv_has ls 8 [(0, .ref (adm 0)), (3, .int v11), (4, .long v16)] → W p l e (headSpec wsX3_act rmX3_act).room s m ([.ref (adm 0), .int p1] : List Value).toArray below meth c H locs 0 0 (MQ below (QV D A (wMc cI cJ adm m0 m1 m2 m3 m4 m5 m6 o.1 m8 m9 m10 m11 m12 m13 m14 m15 m16 m17 m18 m19 m20 m21 m22 m23 o.2.1 o.2.2 m26 m27)) ([.ref (adm 0), .int p1] : List Value).toArray s 0 0 A) (F0 m 223 ls [.long k0_223]) := by
            intro k0_223 H locs ls hf hP hD hS hl
            unfold f_X3_act_J223 at hf
            refine lv_lstore (lv' := [(6, .long k0_223), (0, .ref (adm 0)), (3, .int v11), (4, .long v16)]) hx hb dX3_act_223 hl (by decide) rfl (fun ls hl => ?_)
            refine lv_aload_n hx hb dX3_act_225 rfl (lv_at hl 1 rfl) ?_
            refine lv_lload hx hb dX3_act_226 (lv_at hl 0 rfl) ?_
            refine lv_lload hx hb dX3_act_228 (lv_at hl 3 rfl) ?_
            replace hf := bdE hf
            obtain ⟨r21, hgr21, hf⟩ := hf
            refine xVw (va_runV (As := [.long k0_223, .long v16]) (rest := []) ⟨hx, hb, hml, hown, hts⟩ (c_X3_make l D cI cJ cZ adm m0 m1 m2 m3 m4 m5 m6 (vp_updL (vp_updL m7 (12 + p1).toNatClampNeg v7) (12 + p1).toNatClampNeg 0) m8 m9 m10 m11 m12 m13 m14 m15 m16 m17 m18 m19 m20 m21 m22 m23 m24 m25 m26 m27 k0_223 v16 r21 hgr21 _) (cwV 2 hts gX3_act_X3_make rfl rfl rfl (by decide +kernel) ⟨Nat.le_of_ble_eq_true rfl, Nat.le_of_ble_eq_true rfl⟩) ⟨PreW.blind, xRecv (q0 := 0) hK hP rfl rfl, (xPrew hK hP hD _)⟩ rfl rfl hl.1 rfl (lv_room (Nat.le_of_ble_eq_true rfl)) dX3_act_230 ⟨Nat.le_of_ble_eq_true rfl, Nat.le_of_ble_eq_true rfl⟩) hD hS hA (fun H locs hP hD hS => ?_)
            replace hP : va_P D vwCl (wMc cI cJ adm m0 m1 m2 m3 m4 m5 m6 (vp_updL (vp_updL m7 (12 + p1).toNatClampNeg v7) (12 + p1).toNatClampNeg 0) m8 m9 m10 m11 m12 m13 m14 m15 m16 m17 m18 m19 m20 m21 m22 m23 r21.1 r21.2 m26 m27) H := hP
            replace hD : va_D A (wMc cI cJ adm m0 m1 m2 m3 m4 m5 m6 (vp_updL (vp_updL m7 (12 + p1).toNatClampNeg v7) (12 + p1).toNatClampNeg 0) m8 m9 m10 m11 m12 m13 m14 m15 m16 m17 m18 m19 m20 m21 m22 m23 r21.1 r21.2 m26 m27) := hD
            refine lv_aload_n hx hb dX3_act_233 rfl (lv_at hl 1 rfl) ?_
            refine lv_iconst (v := 0) hx hb dX3_act_234 (by decide) ?_
            refine lv_iconst (v := 2) hx hb dX3_act_235 (by decide) ?_
            refine lv_iload_n hx hb dX3_act_236 rfl (lv_at hl 2 rfl) ?_
            refine lv_imul hx hb dX3_act_237 ?_
            refine lv_iadd hx hb dX3_act_238 ?_
            replace hf := bdE hf
            obtain ⟨r22, hgr22, hf⟩ := hf
            refine xVw (va_runV (As := [.int (0 + (2 * v11))]) (rest := []) ⟨hx, hb, hml, hown, hts⟩ (c_X3_store l D cI cJ cZ adm m0 m1 m2 m3 m4 m5 m6 (vp_updL (vp_updL m7 (12 + p1).toNatClampNeg v7) (12 + p1).toNatClampNeg 0) m8 m9 m10 m11 m12 m13 m14 m15 m16 m17 m18 m19 m20 m21 m22 m23 r21.1 r21.2 m26 m27 (0 + (2 * v11)) r22 hgr22 _) (cwV 1 hts gX3_act_X3_store rfl rfl rfl (by decide +kernel) ⟨Nat.le_of_ble_eq_true rfl, Nat.le_of_ble_eq_true rfl⟩) ⟨PreW.blind, xRecv (q0 := 0) hK hP rfl rfl, (xPrew hK hP hD _)⟩ rfl rfl hl.1 rfl (lv_room (Nat.le_of_ble_eq_true rfl)) dX3_act_239 ⟨Nat.le_of_ble_eq_true rfl, Nat.le_of_ble_eq_true rfl⟩) hD hS hA (fun H locs hP hD hS => ?_)
            replace hP : va_P D vwCl (wMc cI cJ adm m0 m1 m2 m3 m4 m5 m6 r22 m8 m9 m10 m11 m12 m13 m14 m15 m16 m17 m18 m19 m20 m21 m22 m23 r21.1 r21.2 m26 m27) H := hP
            replace hD : va_D A (wMc cI cJ adm m0 m1 m2 m3 m4 m5 m6 r22 m8 m9 m10 m11 m12 m13 m14 m15 m16 m17 m18 m19 m20 m21 m22 m23 r21.1 r21.2 m26 m27) := hD
            refine lv_goto (tgt := 288) hx hb dX3_act_242 (by decide) ?_
            obtain rfl := Option.some.inj hf
            exact retV hx hb hr hlocks hP hD hS dX3_act_288
          refine lv_if_le (tgt := 192) hx hb dX3_act_176 (by decide) (fun q23 => ?_) (fun q23 => ?_)
          · replace hf := ifT q23 hf
            refine lv_lload hx hb dX3_act_192 (lv_at hl 0 rfl) ?_
            refine lv_aload_n hx hb dX3_act_194 rfl (lv_at hl 4 rfl) ?_
            refine va_get (D := D) (ci := 3) (v := .ref (adm 1)) (C := RX3) (T := TX3) (N := 28) hx hb hts hinX3 hown hK.1 hP 0 rfl rfl 0 (by decide) hw5 (fun _ h9 => h9) rfl dX3_act_195 ?_
            refine lv_iload_n hx hb dX3_act_198 rfl (lv_at hl 2 rfl) ?_
            refine va_iald hx hb hK.1 hP 1 0 rfl rfl (ib_in h20) dX3_act_199 ?_
            refine lv_i2l hx hb dX3_act_200 rfl ?_
            refine lv_lload hx hb dX3_act_201 (lv_at hl 1 rfl) ?_
            refine lv_lmul hx hb dX3_act_203 ?_
            refine W.lcmp hx hb dX3_act_204 ?_
            refine lv_if_ge (tgt := 221) hx hb dX3_act_205 (by decide) (fun q24 => ?_) (fun q24 => ?_)
            · replace hf := ifT q24 hf
              refine lv_lload hx hb dX3_act_221 (lv_at hl 0 rfl) ?_
              exact J223 v19 _ _ _ hf hP hD hS (lv_sub hl [4, 2, 1] rfl)
            · replace hf := ifF q24 hf
              refine lv_aload_n hx hb dX3_act_208 rfl (lv_at hl 4 rfl) ?_
              refine va_get (D := D) (ci := 3) (v := .ref (adm 1)) (C := RX3) (T := TX3) (N := 28) hx hb hts hinX3 hown hK.1 hP 0 rfl rfl 0 (by decide) hw5 (fun _ h9 => h9) rfl dX3_act_209 ?_
              refine lv_iload_n hx hb dX3_act_212 rfl (lv_at hl 2 rfl) ?_
              refine va_iald hx hb hK.1 hP 1 0 rfl rfl (ib_in h20) dX3_act_213 ?_
              refine lv_i2l hx hb dX3_act_214 rfl ?_
              refine lv_lload hx hb dX3_act_215 (lv_at hl 1 rfl) ?_
              refine lv_lmul hx hb dX3_act_217 ?_
              refine lv_goto (tgt := 223) hx hb dX3_act_218 (by decide) ?_
              exact J223 (((m0 v11.toNatClampNeg).toInt64) * v16) _ _ _ hf hP hD hS (lv_sub hl [4, 2, 1] rfl)
          · replace hf := ifF q23 hf
            refine lv_aload_n hx hb dX3_act_179 rfl (lv_at hl 4 rfl) ?_
            refine va_get (D := D) (ci := 3) (v := .ref (adm 2)) (C := RX3) (T := TX3) (N := 28) hx hb hts hinX3 hown hK.1 hP 0 rfl rfl 1 (by decide) hw4 (fun _ h9 => h9) rfl dX3_act_180 ?_
            refine lv_iload_n hx hb dX3_act_183 rfl (lv_at hl 2 rfl) ?_
            refine va_iald hx hb hK.1 hP 2 0 rfl rfl (ib_in h20) dX3_act_184 ?_
            refine lv_i2l hx hb dX3_act_185 rfl ?_
            refine lv_lload hx hb dX3_act_186 (lv_at hl 1 rfl) ?_
            refine lv_lmul hx hb dX3_act_188 ?_
            refine lv_goto (tgt := 223) hx hb dX3_act_189 (by decide) ?_
            exact J223 (((m1 v11.toNatClampNeg).toInt64) * v16) _ _ _ hf hP hD hS (lv_sub hl [4, 2, 1] rfl)
        · replace hf := ifF q14 hf
          by_cases q25 : v13 = 1
          · replace hf := ifT q25 hf
            refine lv_lookup (off := 148) (tgt := 245) hx hb dX3_act_97 (by decide) (by rw [q25]; rfl) (by decide) ?_
            refine lv_aload_n hx hb dX3_act_245 rfl (lv_at hl 2 rfl) ?_
            refine va_get (D := D) (ci := 3) (v := .ref (adm 6)) (C := RX3) (T := TX3) (N := 28) hx hb hts hinX3 hown hK.1 hP 0 rfl rfl 7 (by decide) hw3 (fun _ h9 => h9) rfl dX3_act_246 ?_
            refine lv_bipush (v := 8) hx hb dX3_act_249 (by decide) ?_
            refine lv_iload_n hx hb dX3_act_251 rfl (lv_at hl 0 rfl) ?_
            refine lv_iadd hx hb dX3_act_252 ?_
            refine lv_lconst (v := 1) hx hb dX3_act_253 (by decide) ?_
            refine lv_aload_n hx hb dX3_act_254 rfl (lv_at hl 2 rfl) ?_
            refine va_get (D := D) (ci := 3) (v := .ref (adm 6)) (C := RX3) (T := TX3) (N := 28) hx hb hts hinX3 hown hK.1 hP 0 rfl rfl 7 (by decide) hw3 (fun _ h9 => h9) rfl dX3_act_255 ?_
            refine lv_bipush (v := 8) hx hb dX3_act_258 (by decide) ?_
            refine lv_iload_n hx hb dX3_act_260 rfl (lv_at hl 0 rfl) ?_
            refine lv_iadd hx hb dX3_act_261 ?_
            replace hf := gdE hf
            obtain ⟨h26, hf⟩ := hf
            refine va_lald hx hb hK.1 hP 6 1 rfl rfl (ib_in h26) dX3_act_262 ?_
            refine lv_lsub hx hb dX3_act_263 ?_
            refine lv_topl (fun v27 ev27 => ?_)
            replace hf := bndE hf ev27
            refine va_last hx hb hK.1 hP hD hS 6 1 rfl rfl (ib_in h26) dX3_act_264 (fun H locs hP hD hS => ?_)
            replace hP : va_P D vwCl (wMc cI cJ adm m0 m1 m2 m3 m4 m5 m6 (vp_updL (vp_updL (vp_updL m7 (12 + p1).toNatClampNeg v7) (12 + p1).toNatClampNeg 0) (8 + v11).toNatClampNeg v27) m8 m9 m10 m11 m12 m13 m14 m15 m16 m17 m18 m19 m20 m21 m22 m23 m24 m25 m26 m27) H := hP
            replace hD : va_D A (wMc cI cJ adm m0 m1 m2 m3 m4 m5 m6 (vp_updL (vp_updL (vp_updL m7 (12 + p1).toNatClampNeg v7) (12 + p1).toNatClampNeg 0) (8 + v11).toNatClampNeg v27) m8 m9 m10 m11 m12 m13 m14 m15 m16 m17 m18 m19 m20 m21 m22 m23 m24 m25 m26 m27) := hD
            refine lv_goto (tgt := 288) hx hb dX3_act_265 (by decide) ?_
            obtain rfl := Option.some.inj hf
            exact retV hx hb hr hlocks hP hD hS dX3_act_288
          · replace hf := ifF q25 hf
            refine lv_lookup (off := 171) (tgt := 268) hx hb dX3_act_97 (by decide) (by refine (lv_osw q14 (by decide)).trans ?_; refine (lv_osw q25 (by decide)).trans ?_; rfl) (by decide) ?_
            refine lv_aload_n hx hb dX3_act_268 rfl (lv_at hl 2 rfl) ?_
            refine va_get (D := D) (ci := 3) (v := .ref (adm 6)) (C := RX3) (T := TX3) (N := 28) hx hb hts hinX3 hown hK.1 hP 0 rfl rfl 7 (by decide) hw3 (fun _ h9 => h9) rfl dX3_act_269 ?_
            refine lv_bipush (v := 8) hx hb dX3_act_272 (by decide) ?_
            refine lv_iload_n hx hb dX3_act_274 rfl (lv_at hl 0 rfl) ?_
            refine lv_iadd hx hb dX3_act_275 ?_
            refine lv_lconst (v := 1) hx hb dX3_act_276 (by decide) ?_
            refine lv_aload_n hx hb dX3_act_277 rfl (lv_at hl 2 rfl) ?_
            refine va_get (D := D) (ci := 3) (v := .ref (adm 5)) (C := RX3) (T := TX3) (N := 28) hx hb hts hinX3 hown hK.1 hP 0 rfl rfl 5 (by decide) hw0 (fun _ h9 => h9) rfl dX3_act_278 ?_
            refine lv_iload_n hx hb dX3_act_281 rfl (lv_at hl 1 rfl) ?_
            refine lv_iconst (v := 5) hx hb dX3_act_282 (by decide) ?_
            refine lv_iadd hx hb dX3_act_283 ?_
            replace hf := gdE hf
            obtain ⟨h28, hf⟩ := hf
            refine va_iald hx hb hK.1 hP 5 0 rfl rfl (ib_in h28) dX3_act_284 ?_
            refine lv_i2l hx hb dX3_act_285 rfl ?_
            refine lv_lsub hx hb dX3_act_286 ?_
            refine lv_topl (fun v29 ev29 => ?_)
            replace hf := bndE hf ev29
            replace hf := gdE hf
            obtain ⟨h30, hf⟩ := hf
            refine va_last hx hb hK.1 hP hD hS 6 1 rfl rfl (ib_in h30) dX3_act_287 (fun H locs hP hD hS => ?_)
            replace hP : va_P D vwCl (wMc cI cJ adm m0 m1 m2 m3 m4 m5 m6 (vp_updL (vp_updL (vp_updL m7 (12 + p1).toNatClampNeg v7) (12 + p1).toNatClampNeg 0) (8 + v11).toNatClampNeg v29) m8 m9 m10 m11 m12 m13 m14 m15 m16 m17 m18 m19 m20 m21 m22 m23 m24 m25 m26 m27) H := hP
            replace hD : va_D A (wMc cI cJ adm m0 m1 m2 m3 m4 m5 m6 (vp_updL (vp_updL (vp_updL m7 (12 + p1).toNatClampNeg v7) (12 + p1).toNatClampNeg 0) (8 + v11).toNatClampNeg v29) m8 m9 m10 m11 m12 m13 m14 m15 m16 m17 m18 m19 m20 m21 m22 m23 m24 m25 m26 m27) := hD
            obtain rfl := Option.some.inj hf
            exact retV hx hb hr hlocks hP hD hS dX3_act_288
      · replace hf := ifF q9 hf
        obtain rfl := Option.some.inj hf
        exact retV hx hb hr hlocks hP hD hS dX3_act_69
    · replace hf := ifF q5 hf
      obtain rfl := Option.some.inj hf
      exact retV hx hb hr hlocks hP hD hS dX3_act_33
