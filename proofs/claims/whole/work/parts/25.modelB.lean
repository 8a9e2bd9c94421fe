def f_X3_step_B323 (m0 : Ar) (m1 : Ar) (m4 : Int32) (m5 : Ar) (m6 : Int32) (m10 : Ar) (m11 : Ar) (m12 : Al) (m13 : Al) (m14 : Int32) (r2 : Al) (m26_43 : Int32) (k1_116 : Int32) (rec323 : Int32 → Al → Int64 → Int64 → Option (Bool × Al × Al × Ar × Ar × Al × Al × Int64 × Int64 × Int32 × Int32)) (l5_323 : Int32) (m7_323 : Al) (m24_323 : Int64) (m25_323 : Int64) : Option (Bool × Al × Al × Ar × Ar × Al × Al × Int64 × Int64 × Int32 × Int32) :=
if m6 ≤ l5_323 then
(f_X3_isSpent m4 m7_323).bind (fun r17 =>
if (b2i r17) = 0 then
if m14 = 0 then
some (true, m7_323, r2, m10, m11, m12, m13, m24_323, m25_323, m26_43, k1_116)
else
if (0 : Int32) < (lg_cmp (m7_323 (30 : Int32).toNatClampNeg) 500) then
some (true, m7_323, r2, m10, m11, m12, m13, m24_323, m25_323, m26_43, k1_116)
else
bnd (((m7_323 (30 : Int32).toNatClampNeg).toInt32) - 1) (fun v21 =>
gd (ib v21 500) (
bnd (m7_323 (20 : Int32).toNatClampNeg) (fun v23 =>
bnd (m7_323 (21 : Int32).toNatClampNeg) (fun v24 =>
some (true, m7_323, r2, upd m10 v21.toNatClampNeg m26_43, upd m11 v21.toNatClampNeg k1_116, vp_updL m12 v21.toNatClampNeg v23, vp_updL m13 v21.toNatClampNeg v24, m24_323, m25_323, m26_43, k1_116)))))
else
(f_X3_copy r2 m7_323).bind (fun r25 =>
some (false, r25, r2, m10, m11, m12, m13, m24_323, m25_323, m26_43, k1_116)))
else
(f_X3_act m0 m1 m5 m7_323 m24_323 m25_323 m26_43 k1_116 l5_323).bind (fun r26 =>
rec323 (l5_323 + 1) r26.1 r26.2.1 r26.2.2)
def f_X3_step_L323 (m0 : Ar) (m1 : Ar) (m4 : Int32) (m5 : Ar) (m6 : Int32) (m10 : Ar) (m11 : Ar) (m12 : Al) (m13 : Al) (m14 : Int32) (r2 : Al) (m26_43 : Int32) (k1_116 : Int32) : Nat → Int32 → Al → Int64 → Int64 → Option (Bool × Al × Al × Ar × Ar × Al × Al × Int64 × Int64 × Int32 × Int32)
  | 0 => fun _ _ _ _ => none
  | n + 1 => f_X3_step_B323 m0 m1 m4 m5 m6 m10 m11 m12 m13 m14 r2 m26_43 k1_116 (f_X3_step_L323 m0 m1 m4 m5 m6 m10 m11 m12 m13 m14 r2 m26_43 k1_116 n)
def f_X3_step_J299 (m0 : Ar) (m1 : Ar) (m4 : Int32) (m5 : Ar) (m6 : Int32) (m10 : Ar) (m11 : Ar) (m12 : Al) (m13 : Al) (m14 : Int32) (r2 : Al) (m26_43 : Int32) (k1_116 : Int32) (r9 : (Int64 × Int64)) (r10 : Al) (k1_299 : Int32) : Option (Bool × Al × Al × Ar × Ar × Al × Al × Int64 × Int64 × Int32 × Int32) :=
gd (ib (k1_299 + m26_43) 31) (
bnd (((vp_updL r10 (8 + m26_43).toNatClampNeg k1_116.toInt64) (k1_299 + m26_43).toNatClampNeg) + 1) (fun v13 =>
gd (ib 30 31) (
bnd (((vp_updL (vp_updL r10 (8 + m26_43).toNatClampNeg k1_116.toInt64) (k1_299 + m26_43).toNatClampNeg v13) (30 : Int32).toNatClampNeg) + 1) (fun v15 =>
f_X3_step_L323 m0 m1 m4 m5 m6 m10 m11 m12 m13 m14 r2 m26_43 k1_116 fuel 0 (vp_updL (vp_updL (vp_updL r10 (8 + m26_43).toNatClampNeg k1_116.toInt64) (k1_299 + m26_43).toNatClampNeg v13) (30 : Int32).toNatClampNeg v15) r9.1 r9.2))))
def f_X3_step_J188 (l1_43 : Int64) (l3_43 : Int64) (l5_122 : Int32) (m7_122 : Al) (rec122 : (Int32 → Al → Int64 → Int64 → Option (Bool × Al × Al × Ar × Ar × Al × Al × Int64 × Int64 × Int32 × Int32))) (v29 : Int64) (v31 : Int64) (k0_188 : Int64) : Option (Bool × Al × Al × Ar × Ar × Al × Al × Int64 × Int64 × Int32 × Int32) :=
(f_X3_make ((v29 * l3_43) + ((k0_188 * l1_43) * v31)) (v31 * l3_43)).bind (fun r33 =>
(f_X3_store m7_122 r33.1 r33.2 (0 + (2 * l5_122))).bind (fun r34 =>
rec122 (l5_122 + 1) r34 r33.1 r33.2))
def f_X3_step_B122 (m0 : Ar) (m1 : Ar) (m2 : Ar) (m3 : Ar) (m4 : Int32) (m5 : Ar) (m6 : Int32) (m10 : Ar) (m11 : Ar) (m12 : Al) (m13 : Al) (m14 : Int32) (r2 : Al) (l1_43 : Int64) (l3_43 : Int64) (m26_43 : Int32) (k1_116 : Int32) (rec122 : Int32 → Al → Int64 → Int64 → Option (Bool × Al × Al × Ar × Ar × Al × Al × Int64 × Int64 × Int32 × Int32)) (l5_122 : Int32) (m7_122 : Al) (m24_122 : Int64) (m25_122 : Int64) : Option (Bool × Al × Al × Ar × Ar × Al × Al × Int64 × Int64 × Int32 × Int32) :=
if m4 ≤ l5_122 then
gd (ib 20 31) (
gd (ib 21 31) (
(f_X3_make (((m7_122 (20 : Int32).toNatClampNeg) * l3_43) + (l1_43 * (m7_122 (21 : Int32).toNatClampNeg))) ((m7_122 (21 : Int32).toNatClampNeg) * l3_43)).bind (fun r9 =>
(f_X3_store m7_122 r9.1 r9.2 20).bind (fun r10 =>
gd (ib (8 + m26_43) 31) (
if ¬ k1_116 = 0 then
f_X3_step_J299 m0 m1 m4 m5 m6 m10 m11 m12 m13 m14 r2 m26_43 k1_116 r9 r10 26
else
f_X3_step_J299 m0 m1 m4 m5 m6 m10 m11 m12 m13 m14 r2 m26_43 k1_116 r9 r10 22)))))
else
gd (ib (0 + (2 * l5_122)) 31) (
bnd (m7_122 (0 + (2 * l5_122)).toNatClampNeg) (fun v29 =>
gd (ib ((0 + (2 * l5_122)) + 1) 31) (
bnd (m7_122 ((0 + (2 * l5_122)) + 1).toNatClampNeg) (fun v31 =>
(f_X3_isFilling m7_122 l5_122).bind (fun r32 =>
if (b2i r32) = 0 then
gd (ib l5_122 4) (
f_X3_step_J188 l1_43 l3_43 l5_122 m7_122 rec122 v29 v31 ((-(m3 l5_122.toNatClampNeg)).toInt64))
else
gd (ib l5_122 4) (
f_X3_step_J188 l1_43 l3_43 l5_122 m7_122 rec122 v29 v31 ((m2 l5_122.toNatClampNeg).toInt64)))))))
def f_X3_step_L122 (m0 : Ar) (m1 : Ar) (m2 : Ar) (m3 : Ar) (m4 : Int32) (m5 : Ar) (m6 : Int32) (m10 : Ar) (m11 : Ar) (m12 : Al) (m13 : Al) (m14 : Int32) (r2 : Al) (l1_43 : Int64) (l3_43 : Int64) (m26_43 : Int32) (k1_116 : Int32) : Nat → Int32 → Al → Int64 → Int64 → Option (Bool × Al × Al × Ar × Ar × Al × Al × Int64 × Int64 × Int32 × Int32)
  | 0 => fun _ _ _ _ => none
  | n + 1 => f_X3_step_B122 m0 m1 m2 m3 m4 m5 m6 m10 m11 m12 m13 m14 r2 l1_43 l3_43 m26_43 k1_116 (f_X3_step_L122 m0 m1 m2 m3 m4 m5 m6 m10 m11 m12 m13 m14 r2 l1_43 l3_43 m26_43 k1_116 n)
def f_X3_step_J116 (m0 : Ar) (m1 : Ar) (m2 : Ar) (m3 : Ar) (m4 : Int32) (m5 : Ar) (m6 : Int32) (m7 : Al) (m10 : Ar) (m11 : Ar) (m12 : Al) (m13 : Al) (m14 : Int32) (r2 : Al) (l1_43 : Int64) (l3_43 : Int64) (m24_43 : Int64) (m25_43 : Int64) (m26_43 : Int32) (k1_116 : Int32) : Option (Bool × Al × Al × Ar × Ar × Al × Al × Int64 × Int64 × Int32 × Int32) :=
f_X3_step_L122 m0 m1 m2 m3 m4 m5 m6 m10 m11 m12 m13 m14 r2 l1_43 l3_43 m26_43 k1_116 fuel 0 m7 m24_43 m25_43
def f_X3_step_J93 (l5_43 : Int32) (rec43 : (Int64 → Int64 → Int32 → Int64 → Int64 → Int32 → Option (Bool × Al × Al × Ar × Ar × Al × Al × Int64 × Int64 × Int32 × Int32))) (r39 : (Int64 × Int64)) (l1_93 : Int64) (l3_93 : Int64) (m26_93 : Int32) : Option (Bool × Al × Al × Ar × Ar × Al × Al × Int64 × Int64 × Int32 × Int32) :=
rec43 l1_93 l3_93 (l5_43 + 1) r39.1 r39.2 m26_93
def f_X3_step_B43 (m0 : Ar) (m1 : Ar) (m2 : Ar) (m3 : Ar) (m4 : Int32) (m5 : Ar) (m6 : Int32) (m7 : Al) (m10 : Ar) (m11 : Ar) (m12 : Al) (m13 : Al) (m14 : Int32) (r2 : Al) (rec43 : Int64 → Int64 → Int32 → Int64 → Int64 → Int32 → Option (Bool × Al × Al × Ar × Ar × Al × Al × Int64 × Int64 × Int32 × Int32)) (l1_43 : Int64) (l3_43 : Int64) (l5_43 : Int32) (m24_43 : Int64) (m25_43 : Int64) (m26_43 : Int32) : Option (Bool × Al × Al × Ar × Ar × Al × Al × Int64 × Int64 × Int32 × Int32) :=
if m4 ≤ l5_43 then
(f_X3_isFilling m7 m26_43).bind (fun r5 =>
if (b2i r5) = 0 then
f_X3_step_J116 m0 m1 m2 m3 m4 m5 m6 m7 m10 m11 m12 m13 m14 r2 l1_43 l3_43 m24_43 m25_43 m26_43 1
else
f_X3_step_J116 m0 m1 m2 m3 m4 m5 m6 m7 m10 m11 m12 m13 m14 r2 l1_43 l3_43 m24_43 m25_43 m26_43 0)
else
(f_X3_waitOf m0 m1 m2 m3 m7 l5_43).bind (fun r39 =>
if (lg_cmp (r39.1 * l3_43) (l1_43 * r39.2)) < 0 then
f_X3_step_J93 l5_43 rec43 r39 r39.1 r39.2 l5_43
else
f_X3_step_J93 l5_43 rec43 r39 l1_43 l3_43 m26_43)
def f_X3_step_L43 (m0 : Ar) (m1 : Ar) (m2 : Ar) (m3 : Ar) (m4 : Int32) (m5 : Ar) (m6 : Int32) (m7 : Al) (m10 : Ar) (m11 : Ar) (m12 : Al) (m13 : Al) (m14 : Int32) (r2 : Al) : Nat → Int64 → Int64 → Int32 → Int64 → Int64 → Int32 → Option (Bool × Al × Al × Ar × Ar × Al × Al × Int64 × Int64 × Int32 × Int32)
  | 0 => fun _ _ _ _ _ _ => none
  | n + 1 => f_X3_step_B43 m0 m1 m2 m3 m4 m5 m6 m7 m10 m11 m12 m13 m14 r2 (f_X3_step_L43 m0 m1 m2 m3 m4 m5 m6 m7 m10 m11 m12 m13 m14 r2 n)
def f_X3_step (m0 : Ar) (m1 : Ar) (m2 : Ar) (m3 : Ar) (m4 : Int32) (m5 : Ar) (m6 : Int32) (m7 : Al) (m8 : Al) (m10 : Ar) (m11 : Ar) (m12 : Al) (m13 : Al) (m14 : Int32) (m24 : Int64) (m25 : Int64) (m26 : Int32) (m27 : Int32) : Option (Bool × Al × Al × Ar × Ar × Al × Al × Int64 × Int64 × Int32 × Int32) :=
if ¬ m4 = 0 then
(f_X3_copy m7 m8).bind (fun r2 =>
(f_X3_waitOf m0 m1 m2 m3 m7 0).bind (fun r3 =>
f_X3_step_L43 m0 m1 m2 m3 m4 m5 m6 m7 m10 m11 m12 m13 m14 r2 fuel r3.1 r3.2 1 r3.1 r3.2 0))
else
some (false, m7, m8, m10, m11, m12, m13, m24, m25, m26, m27)
abbrev rmX3_step : Room := { frames := 123, cells := 0, slots := 0, locals := 2836 }
set_option maxHeartbeats 40000000 in
set_option maxRecDepth 100000 in
theorem c_X3_step (l : Launch) (D : va_G) (cI cJ cZ : ClassId) (adm : Nat → Nat) (m0 : Ar) (m1 : Ar) (m2 : Ar) (m3 : Ar) (m4 : Int32) (m5 : Ar) (m6 : Int32) (m7 : Al) (m8 : Al) (m9 : Al) (m10 : Ar) (m11 : Ar) (m12 : Al) (m13 : Al) (m14 : Int32) (m15 : Al) (m16 : Int32) (m17 : Al) (m18 : Ar) (m19 : Int32) (m20 : Al) (m21 : Al) (m22 : Int32) (m23 : Int32) (m24 : Int64) (m25 : Int64) (m26 : Int32) (m27 : Int32) (o : (Bool × Al × Al × Ar × Ar × Al × Al × Int64 × Int64 × Int32 × Int32)) (hf : f_X3_step m0 m1 m2 m3 m4 m5 m6 m7 m8 m10 m11 m12 m13 m14 m24 m25 m26 m27 = some o) : CtI l yX3_step wsX3_step rmX3_step D cI cJ cZ [.ref (adm 0)] (wMc cI cJ adm m0 m1 m2 m3 m4 m5 m6 m7 m8 m9 m10 m11 m12 m13 m14 m15 m16 m17 m18 m19 m20 m21 m22 m23 m24 m25 m26 m27) (wMc cI cJ adm m0 m1 m2 m3 m4 m5 m6 o.2.1 o.2.2.1 m9 o.2.2.2.1 o.2.2.2.2.1 o.2.2.2.2.2.1 o.2.2.2.2.2.2.1 m14 m15 m16 m17 m18 m19 m20 m21 m22 m23 o.2.2.2.2.2.2.2.1 o.2.2.2.2.2.2.2.2.1 o.2.2.2.2.2.2.2.2.2.1 o.2.2.2.2.2.2.2.2.2.2) (b2i o.1) := by
  intro sz
  refine Met.ofW (cc := cX3_step) (maxL := 12) (ret := (some .boolean)) (by decide) rfl ?_
  intro p e s m args below meth c s₁ B hml hv
  obtain ⟨rfl, hsz, hP, hK, hD0⟩ := hv
  have hx := B.exec
  have hb := B.bytes
  have hr := B.returns
  have hts := atoms_spec (ws := wsX3_step) B.pre
  have hown : s.vm.findClass RX3 = some m.cls := findClass_of_methodNamed B.named
  have hlocks := B.notSynchronized
  subst hsz
  have hD := hD0.self (sz := s.heap.size)
  clear hD0
  generalize hAe : va_A (wMc cI cJ adm m0 m1 m2 m3 m4 m5 m6 m7 m8 m9 m10 m11 m12 m13 m14 m15 m16 m17 m18 m19 m20 m21 m22 m23 m24 m25 m26 m27) s.heap.size = A at hD ⊢
  have hA : ∀ q : Nat, s.heap.size ≤ q → A q := fun q h => by rw [← hAe]; exact Or.inr h
  have hS : va_S A s.heap s.heap [] := va_S.rf
  have hinX3 : ∀ w ∈ wsX30, w ∈ wsX3_step := by decide +kernel
  have hw0 : (Cond.fieldLink RX3 73 "SwingCircuitsModel" "cells" "I").before _ s = true := hts _ (by decide +kernel)
  have hw1 : (Cond.fieldLink RX3 25 "SwingCircuitsModel" "now" "[J").before _ s = true := hts _ (by decide +kernel)
  have hw2 : (Cond.fieldLink RX3 29 "SwingCircuitsModel" "before" "[J").before _ s = true := hts _ (by decide +kernel)
  have hw3 : (Cond.fieldLink RX3 90 "SwingCircuitsModel" "num" "J").before _ s = true := hts _ (by decide +kernel)
  have hw4 : (Cond.fieldLink RX3 94 "SwingCircuitsModel" "den" "J").before _ s = true := hts _ (by decide +kernel)
  have hw5 : (Cond.fieldLink RX3 125 "SwingCircuitsModel" "nextCell" "I").before _ s = true := hts _ (by decide +kernel)
  have hw6 : (Cond.fieldLink RX3 128 "SwingCircuitsModel" "nextAt" "I").before _ s = true := hts _ (by decide +kernel)
  have hw7 : (Cond.fieldLink RX3 16 "SwingCircuitsModel" "rise" "[I").before _ s = true := hts _ (by decide +kernel)
  have hw8 : (Cond.fieldLink RX3 19 "SwingCircuitsModel" "fall" "[I").before _ s = true := hts _ (by decide +kernel)
  have hw9 : (Cond.fieldLink RX3 101 "SwingCircuitsModel" "linkMany" "I").before _ s = true := hts _ (by decide +kernel)
  have hw10 : (Cond.fieldLink RX3 47 "SwingCircuitsModel" "isLogged" "Z").before _ s = true := hts _ (by decide +kernel)
  have hw11 : (Cond.constantLong RX3 141 (500)).before _ s = true := hts _ (by decide +kernel)
  have hw12 : (Cond.fieldLink RX3 35 "SwingCircuitsModel" "logCell" "[I").before _ s = true := hts _ (by decide +kernel)
  have hw13 : (Cond.fieldLink RX3 38 "SwingCircuitsModel" "logAt" "[I").before _ s = true := hts _ (by decide +kernel)
  have hw14 : (Cond.fieldLink RX3 41 "SwingCircuitsModel" "logNum" "[J").before _ s = true := hts _ (by decide +kernel)
  have hw15 : (Cond.fieldLink RX3 44 "SwingCircuitsModel" "logDen" "[J").before _ s = true := hts _ (by decide +kernel)
  have hl := lv_entry ([.ref (adm 0)]) (n := 12) (Nat.le_of_ble_eq_true rfl)
  rw [lg_entry_eq]
  generalize (lg_sl ([.ref (adm 0)]) ++ List.replicate (12 - (lg_sl ([.ref (adm 0)])).length) Slot.unset).toArray = ls at hl ⊢
  replace hl : lv_has ls 12 [(0, .ref (adm 0))] := hl
  unfold f_X3_step at hf
  refine lv_aload_n hx hb dX3_step_0 rfl (lv_at hl 0 rfl) ?_
  refine va_get (D := D) (ci := 3) (v := .int m4) (C := RX3) (T := TX3) (N := 28) hx hb hts hinX3 hown hK.1 hP 0 rfl rfl 4 (by decide) hw0 (fun _ h9 => h9) rfl dX3_step_1 ?_
  refine lv_if_ne (tgt := 9) hx hb dX3_step_4 (by decide) (fun q1 => ?_) (fun q1 => ?_)
  · replace hf := ifT q1 hf
    refine lv_aload_n hx hb dX3_step_9 rfl (lv_at hl 0 rfl) ?_
    refine va_get (D := D) (ci := 3) (v := .ref (adm 6)) (C := RX3) (T := TX3) (N := 28) hx hb hts hinX3 hown hK.1 hP 0 rfl rfl 7 (by decide) hw1 (fun _ h9 => h9) rfl dX3_step_10 ?_
    refine lv_aload_n hx hb dX3_step_13 rfl (lv_at hl 0 rfl) ?_
    refine va_get (D := D) (ci := 3) (v := .ref (adm 7)) (C := RX3) (T := TX3) (N := 28) hx hb hts hinX3 hown hK.1 hP 0 rfl rfl 8 (by decide) hw2 (fun _ h9 => h9) rfl dX3_step_14 ?_
    replace hf := bdE hf
    obtain ⟨r2, hgr2, hf⟩ := hf
    refine xV (w2 := (wMc cI cJ adm m0 m1 m2 m3 m4 m5 m6 m7 r2 m9 m10 m11 m12 m13 m14 m15 m16 m17 m18 m19 m20 m21 m22 m23 m24 m25 m26 m27)) (wr := ([((adm 0), .inr (3, [.ref (adm 1), .ref (adm 2), .ref (adm 3), .ref (adm 4), .int m4, .ref (adm 5), .int m6, .ref (adm 6), .ref (adm 7), .ref (adm 8), .ref (adm 9), .ref (adm 10), .ref (adm 11), .ref (adm 12), .int m14, .ref (adm 13), .int m16, .ref (adm 14), .ref (adm 15), .int m19, .ref (adm 16), .ref (adm 17), .int m22, .int m23, .long m24, .long m25, .int m26, .int m27])), ((adm 1), .inl (cI, 4, .inl m0)), ((adm 2), .inl (cI, 4, .inl m1)), ((adm 3), .inl (cI, 4, .inl m2)), ((adm 4), .inl (cI, 4, .inl m3)), ((adm 5), .inl (cI, 48, .inl m5)), ((adm 8), .inl (cJ, 31, .inr (.inl m9))), ((adm 9), .inl (cI, 500, .inl m10)), ((adm 10), .inl (cI, 500, .inl m11)), ((adm 11), .inl (cJ, 500, .inr (.inl m12))), ((adm 12), .inl (cJ, 500, .inr (.inl m13))), ((adm 13), .inl (cJ, 9331, .inr (.inl m15))), ((adm 14), .inl (cJ, 8, .inr (.inl m17))), ((adm 15), .inl (cI, 10, .inl m18)), ((adm 16), .inl (cJ, 8, .inr (.inl m20))), ((adm 17), .inl (cJ, 8, .inr (.inl m21)))])) (va_runS (As := [.ref (adm 6), .ref (adm 7)]) (rest := []) ⟨hx, hb, hml, hown, hts⟩ (c_X3_copy l D cI cJ cZ ((adm 6)) ((adm 7)) m7 m8 r2 hgr2 _) (va_cwS 2 hts gX3_step_X3_copy rfl rfl rfl (by decide +kernel) ⟨Nat.le_of_ble_eq_true rfl, Nat.le_of_ble_eq_true rfl⟩) ⟨PreW.blind, (xPre hK hP hD [6, 7] rfl (by decide) _)⟩ rfl rfl hl.1 rfl (lv_room (Nat.le_of_ble_eq_true rfl)) dX3_step_17 ⟨Nat.le_of_ble_eq_true rfl, Nat.le_of_ble_eq_true rfl⟩) hP hD hS hA [6, 7] [0, 1, 2, 3, 4, 5, 8, 9, 10, 11, 12, 13, 14, 15, 16, 17] [0, 1, 2, 3, 4, 5, 16, 17, 6, 7, 8, 9, 10, 11, 12, 13, 14, 15] rfl rfl (by decide) (by decide) rfl (by decide) (fun H locs hP hD hS => ?_)
    refine lv_aload_n hx hb dX3_step_20 rfl (lv_at hl 0 rfl) ?_
    refine lv_iconst (v := 0) hx hb dX3_step_21 (by decide) ?_
    replace hf := bdE hf
    obtain ⟨r3, hgr3, hf⟩ := hf
    refine xVw (va_runV (As := [.int 0]) (rest := []) ⟨hx, hb, hml, hown, hts⟩ (c_X3_waitOf l D cI cJ cZ adm m0 m1 m2 m3 m4 m5 m6 m7 r2 m9 m10 m11 m12 m13 m14 m15 m16 m17 m18 m19 m20 m21 m22 m23 m24 m25 m26 m27 0 r3 hgr3 _) (cwV 1 hts gX3_step_X3_waitOf rfl rfl rfl (by decide +kernel) ⟨Nat.le_of_ble_eq_true rfl, Nat.le_of_ble_eq_true rfl⟩) ⟨PreW.blind, xRecv (q0 := 0) hK hP rfl rfl, (xPrew hK hP hD _)⟩ rfl rfl hl.1 rfl (lv_room (Nat.le_of_ble_eq_true rfl)) dX3_step_22 ⟨Nat.le_of_ble_eq_true rfl, Nat.le_of_ble_eq_true rfl⟩) hD hS hA (fun H locs hP hD hS => ?_)
    replace hP : va_P D vwCl (wMc cI cJ adm m0 m1 m2 m3 m4 m5 m6 m7 r2 m9 m10 m11 m12 m13 m14 m15 m16 m17 m18 m19 m20 m21 m22 m23 r3.1 r3.2 m26 m27) H := hP
    replace hD : va_D A (wMc cI cJ adm m0 m1 m2 m3 m4 m5 m6 m7 r2 m9 m10 m11 m12 m13 m14 m15 m16 m17 m18 m19 m20 m21 m22 m23 r3.1 r3.2 m26 m27) := hD
    refine lv_aload_n hx hb dX3_step_25 rfl (lv_at hl 0 rfl) ?_
    refine va_get (D := D) (ci := 3) (v := .long r3.1) (C := RX3) (T := TX3) (N := 28) hx hb hts hinX3 hown hK.1 hP 0 rfl rfl 24 (by decide) hw3 (fun _ h9 => h9) rfl dX3_step_26 ?_
    refine lv_lstore_n (lv' := [(1, .long r3.1), (0, .ref (adm 0))]) hx hb dX3_step_29 rfl hl (by decide) rfl (fun ls hl => ?_)
    refine lv_aload_n hx hb dX3_step_30 rfl (lv_at hl 1 rfl) ?_
    refine va_get (D := D) (ci := 3) (v := .long r3.2) (C := RX3) (T := TX3) (N := 28) hx hb hts hinX3 hown hK.1 hP 0 rfl rfl 25 (by decide) hw4 (fun _ h9 => h9) rfl dX3_step_31 ?_
    refine lv_lstore_n (lv' := [(3, .long r3.2), (1, .long r3.1), (0, .ref (adm 0))]) hx hb dX3_step_34 rfl hl (by decide) rfl (fun ls hl => ?_)
    refine lv_aload_n hx hb dX3_step_35 rfl (lv_at hl 2 rfl) ?_
    refine lv_iconst (v := 0) hx hb dX3_step_36 (by decide) ?_
    refine va_put (D := D) (ci := 3) (v := .int 0) (ty := .int) (C := RX3) (T := TX3) (N := 28) hx hb hts hinX3 tyX3 tyX3_ok nmX3 hown hK.1 hP hD hS 0 rfl rfl 26 (by decide) hw5 (fun _ h9 => h9) rfl (by decide +kernel) rfl rfl (Nat.le_of_ble_eq_true rfl) dX3_step_37 (fun H locs hP hD hS => ?_)
    replace hP : va_P D vwCl (wMc cI cJ adm m0 m1 m2 m3 m4 m5 m6 m7 r2 m9 m10 m11 m12 m13 m14 m15 m16 m17 m18 m19 m20 m21 m22 m23 r3.1 r3.2 0 m27) H := hP
    replace hD : va_D A (wMc cI cJ adm m0 m1 m2 m3 m4 m5 m6 m7 r2 m9 m10 m11 m12 m13 m14 m15 m16 m17 m18 m19 m20 m21 m22 m23 r3.1 r3.2 0 m27) := hD
    refine lv_iconst (v := 1) hx hb dX3_step_40 (by decide) ?_
    refine lv_istore (lv' := [(5, .int 1), (3, .long r3.2), (1, .long r3.1), (0, .ref (adm 0))]) hx hb dX3_step_41 hl (by decide) rfl (fun ls hl => ?_)
    have L43 : ∀ (n : Nat) (l1_43 : Int64) (l3_43 : Int64) (l5_43 : Int32) (m24_43 : Int64) (m25_43 : Int64) (m26_43 : Int32) (H : Heap) (locs : List Loc) (ls : Array Slot), f_X3_step_L43 m0 m1 m2 m3 m4 m5 m6 m7 m10 m11 m12 m13 m14 r2 n l1_43 l3_43 l5_43 m24_43 m25_43 m26_43 = some o → va_P D vwCl (wMc cI cJ adm m0 m1 m2 m3 m4 m5 m6 m7 r2 m9 m10 m11 m12 m13 m14 m15 m16 m17 m18 m19 m20 m21 m22 m23 m24_43 m25_43 m26_43 m27) H → va_D A (wMc cI cJ adm m0 m1 m2 m3 m4 m5 m6 m7 r2 m9 m10 m11 m12 m13 m14 m15 m16 m17 m18 m19 m20 m21 m22 m23 m24_43 m25_43 m26_43 m27) → va_S A s.heap H locs → lv_has ls 12 [(0, .ref (adm 0)), (1, .long l1_43), (3, .long l3_43), (5, .int l5_43)] → W p l e (headSpec wsX3_step rmX3_step).room s m ([.ref (adm 0)] : List Value).toArray below meth c H locs 0 0 (MQ below (QI D A (b2i o.1) (wMc cI cJ adm m0 m1 m2 m3 m4 m5 m6 o.2.1 o.2.2.1 m9 o.2.2.2.1 o.2.2.2.2.1 o.2.2.2.2.2.1 o.2.2.2.2.2.2.1 m14 m15 m16 m17 m18 m19 m20 m21 m22 m23 o.2.2.2.2.2.2.2.1 o.2.2.2.2.2.2.2.2.1 o.2.2.2.2.2.2.2.2.2.1 o.2.2.2.2.2.2.2.2.2.2)) ([.ref (adm 0)] : List Value).toArray s 0 0 A) (F0 m 43 ls []) := by
      intro n
      induction n with
      | zero => intro l1_43 l3_43 l5_43 m24_43 m25_43 m26_43 H locs ls hf; cases hf
      | succ n ih43 =>
        intro l1_43 l3_43 l5_43 m24_43 m25_43 m26_43 H locs ls hf hP hD hS hl
        replace hf : f_X3_step_B43 m0 m1 m2 m3 m4 m5 m6 m7 m10 m11 m12 m13 m14 r2 (f_X3_step_L43 m0 m1 m2 m3 m4 m5 m6 m7 m10 m11 m12 m13 m14 r2 n) l1_43 l3_43 l5_43 m24_43 m25_43 m26_43 = some o := hf
        generalize f_X3_step_L43 m0 m1 m2 m3 m4 m5 m6 m7 m10 m11 m12 m13 m14 r2 n = rec43 at ih43 hf
        unfold f_X3_step_B43 at hf
        refine lv_iload hx hb dX3_step_43 (lv_at hl 3 rfl) ?_
        refine lv_aload_n hx hb dX3_step_45 rfl (lv_at hl 0 rfl) ?_
        refine va_get (D := D) (ci := 3) (v := .int m4) (C := RX3) (T := TX3) (N := 28) hx hb hts hinX3 hown hK.1 hP 0 rfl rfl 4 (by decide) hw0 (fun _ h9 => h9) rfl dX3_step_46 ?_
        refine lv_icmp_ge (tgt := 99) hx hb dX3_step_49 (by decide) (fun q4 => ?_) (fun q4 => ?_)
        · replace hf := ifT q4 hf
          refine lv_aload_n hx hb dX3_step_99 rfl (lv_at hl 0 rfl) ?_
          refine lv_aload_n hx hb dX3_step_100 rfl (lv_at hl 0 rfl) ?_
          refine lv_aload_n hx hb dX3_step_101 rfl (lv_at hl 0 rfl) ?_
          refine va_get (D := D) (ci := 3) (v := .int m26_43) (C := RX3) (T := TX3) (N := 28) hx hb hts hinX3 hown hK.1 hP 0 rfl rfl 26 (by decide) hw5 (fun _ h9 => h9) rfl dX3_step_102 ?_
          replace hf := bdE hf
          obtain ⟨r5, hgr5, hf⟩ := hf
          refine xIw (va_runV (As := [.int m26_43]) (rest := [.ref (adm 0)]) ⟨hx, hb, hml, hown, hts⟩ (c_X3_isFilling l D cI cJ cZ adm m0 m1 m2 m3 m4 m5 m6 m7 r2 m9 m10 m11 m12 m13 m14 m15 m16 m17 m18 m19 m20 m21 m22 m23 m24_43 m25_43 m26_43 m27 m26_43 r5 hgr5 _) (cwV 1 hts gX3_step_X3_isFilling rfl rfl rfl (by decide +kernel) ⟨Nat.le_of_ble_eq_true rfl, Nat.le_of_ble_eq_true rfl⟩) ⟨PreW.blind, xRecv (q0 := 0) hK hP rfl rfl, (xPrew hK hP hD _)⟩ rfl rfl hl.1 rfl (lv_room (Nat.le_of_ble_eq_true rfl)) dX3_step_105 ⟨Nat.le_of_ble_eq_true rfl, Nat.le_of_ble_eq_true rfl⟩) hD hS hA (fun H locs hP hD hS => ?_)
          replace hP : va_P D vwCl (wMc cI cJ adm m0 m1 m2 m3 m4 m5 m6 m7 r2 m9 m10 m11 m12 m13 m14 m15 m16 m17 m18 m19 m20 m21 m22 m23 m24_43 m25_43 m26_43 m27) H := hP
          replace hD : va_D A (wMc cI cJ adm m0 m1 m2 m3 m4 m5 m6 m7 r2 m9 m10 m11 m12 m13 m14 m15 m16 m17 m18 m19 m20 m21 m22 m23 m24_43 m25_43 m26_43 m27) := hD
          have J116 : ∀ (k1_116 : Int32) (H : Heap) (locs : List Loc) (ls : Array Slot), f_X3_step_J116 m0 m1 m2 m3 m4 m5 m6 m7 m10 m11 m12 m13 m14 r2 l1_43 l3_43 m24_43 m25_43 m26_43 k1_116 = some o → va_P D vwCl (wMc cI cJ adm m0 m1 m2 m3 m4 m5 m6 m7 r2 m9 m10 m11 m12 m13 m14 m15 m16 m17 m18 m19 m20 m21 m22 m23 m24_43 m25_43 m26_43 m27) H → va_D A (wMc cI cJ adm m0 m1 m2 m3 m4 m5 m6 m7 r2 m9 m10 m11 m12 m13 m14 m15 m16 m17 m18 m19 m20 m21 m22 m23 m24_43 m25_43 m26_43 m27) → va_S A s.heap H locs → lv_has ls 12 [(0, .ref (adm 0)), (1, .long l1_43), (3, .long l3_43)] → W p l e (headSpec wsX3_step rmX3_step).room s m ([.ref (adm 0)] : List Value).toArray below meth c H locs 0 0 (MQ below (QI D A (b2i o.1) (wMc cI cJ adm m0 m1 m2 m3 m4 m5 m6 o.2.1 o.2.2.1 m9 o.2.2.2.1 o.2.2.2.2.1 o.2.2.2.2.2.1 o.2.2.2.2.2.2.1 m14 m15 m16 m17 m18 m19 m20 m21 m22 m23 o.2.2.2.2.2.2.2.1 o.2.2.2.2.2.2.2.2.1 o.2.2.2.2.2.2.2.2.2.1 o.2.2.2.2.2.2.2.2.2.2)) ([.ref (adm 0)] : List Value).toArray s 0 0 A) (F0 m 116 ls [.int k1_116, .ref (adm 0)]) := by
            intro k1_116 H locs ls hf hP hD hS hl
            unfold f_X3_step_J116 at hf
            refine va_put (D := D) (ci := 3) (v := .int k1_116) (ty := .int) (C := RX3) (T := TX3) (N := 28) hx hb hts hinX3 tyX3 tyX3_ok nmX3 hown hK.1 hP hD hS 0 rfl rfl 27 (by decide) hw6 (fun _ h9 => h9) rfl (by decide +kernel) rfl rfl (Nat.le_of_ble_eq_true rfl) dX3_step_116 (fun H locs hP hD hS => ?_)
            replace hP : va_P D vwCl (wMc cI cJ adm m0 m1 m2 m3 m4 m5 m6 m7 r2 m9 m10 m11 m12 m13 m14 m15 m16 m17 m18 m19 m20 m21 m22 m23 m24_43 m25_43 m26_43 k1_116) H := hP
            replace hD : va_D A (wMc cI cJ adm m0 m1 m2 m3 m4 m5 m6 m7 r2 m9 m10 m11 m12 m13 m14 m15 m16 m17 m18 m19 m20 m21 m22 m23 m24_43 m25_43 m26_43 k1_116) := hD
            refine lv_iconst (v := 0) hx hb dX3_step_119 (by decide) ?_
            refine lv_istore (lv' := [(5, .int 0), (0, .ref (adm 0)), (1, .long l1_43), (3, .long l3_43)]) hx hb dX3_step_120 hl (by decide) rfl (fun ls hl => ?_)
            have L122 : ∀ (n : Nat) (l5_122 : Int32) (m7_122 : Al) (m24_122 : Int64) (m25_122 : Int64) (H : Heap) (locs : List Loc) (ls : Array Slot), f_X3_step_L122 m0 m1 m2 m3 m4 m5 m6 m10 m11 m12 m13 m14 r2 l1_43 l3_43 m26_43 k1_116 n l5_122 m7_122 m24_122 m25_122 = some o → va_P D vwCl (wMc cI cJ adm m0 m1 m2 m3 m4 m5 m6 m7_122 r2 m9 m10 m11 m12 m13 m14 m15 m16 m17 m18 m19 m20 m21 m22 m23 m24_122 m25_122 m26_43 k1_116) H → va_D A (wMc cI cJ adm m0 m1 m2 m3 m4 m5 m6 m7_122 r2 m9 m10 m11 m12 m13 m14 m15 m16 m17 m18 m19 m20 m21 m22 m23 m24_122 m25_122 m26_43 k1_116) → va_S A s.heap H locs → lv_has ls 12 [(0, .ref (adm 0)), (1, .long l1_43), (3, .long l3_43), (5, .int l5_122)] → W p l e (headSpec wsX3_step rmX3_step).room s m ([.ref (adm 0)] : List Value).toArray below meth c H locs 0 0 (MQ below (QI D A (b2i o.1) (wMc cI cJ adm m0 m1 m2 m3 m4 m5 m6 o.2.1 o.2.2.1 m9 o.2.2.2.1 o.2.2.2.2.1 o.2.2.2.2.2.1 o.2.2.2.2.2.2.1 m14 m15 m16 m17 m18 m19 m20 m21 m22 m23 o.2.2.2.2.2.2.2.1 o.2.2.2.2.2.2.2.2.1 o.2.2.2.2.2.2.2.2.2.1 o.2.2.2.2.2.2.2.2.2.2)) ([.ref (adm 0)] : List Value).toArray s 0 0 A) (F0 m 122 ls []) := by
              intro n
              induction n with
              | zero => intro l5_122 m7_122 m24_122 m25_122 H locs ls hf; cases hf
              | succ n ih122 =>
                intro l5_122 m7_122 m24_122 m25_122 H locs ls hf hP hD hS hl
                replace hf : f_X3_step_B122 m0 m1 m2 m3 m4 m5 m6 m10 m11 m12 m13 m14 r2 l1_43 l3_43 m26_43 k1_116 (f_X3_step_L122 m0 m1 m2 m3 m4 m5 m6 m10 m11 m12 m13 m14 r2 l1_43 l3_43 m26_43 k1_116 n) l5_122 m7_122 m24_122 m25_122 = some o := hf
                generalize f_X3_step_L122 m0 m1 m2 m3 m4 m5 m6 m10 m11 m12 m13 m14 r2 l1_43 l3_43 m26_43 k1_116 n = rec122 at ih122 hf
                unfold f_X3_step_B122 at hf
                refine lv_iload hx hb dX3_step_122 (lv_at hl 3 rfl) ?_
                refine lv_aload_n hx hb dX3_step_124 rfl (lv_at hl 0 rfl) ?_
                refine va_get (D := D) (ci := 3) (v := .int m4) (C := RX3) (T := TX3) (N := 28) hx hb hts hinX3 hown hK.1 hP 0 rfl rfl 4 (by decide) hw0 (fun _ h9 => h9) rfl dX3_step_125 ?_
                refine lv_icmp_ge (tgt := 226) hx hb dX3_step_128 (by decide) (fun q6 => ?_) (fun q6 => ?_)
                · replace hf := ifT q6 hf
                  refine lv_aload_n hx hb dX3_step_226 rfl (lv_at hl 0 rfl) ?_
                  refine lv_aload_n hx hb dX3_step_227 rfl (lv_at hl 0 rfl) ?_
                  refine va_get (D := D) (ci := 3) (v := .ref (adm 6)) (C := RX3) (T := TX3) (N := 28) hx hb hts hinX3 hown hK.1 hP 0 rfl rfl 7 (by decide) hw1 (fun _ h9 => h9) rfl dX3_step_228 ?_
                  refine lv_bipush (v := 20) hx hb dX3_step_231 (by decide) ?_
                  replace hf := gdE hf
                  obtain ⟨h7, hf⟩ := hf
                  refine va_lald hx hb hK.1 hP 6 1 rfl rfl (ib_in h7) dX3_step_233 ?_
                  refine lv_lload_n hx hb dX3_step_234 rfl (lv_at hl 2 rfl) ?_
                  refine lv_lmul hx hb dX3_step_235 ?_
                  refine lv_lload_n hx hb dX3_step_236 rfl (lv_at hl 1 rfl) ?_
                  refine lv_aload_n hx hb dX3_step_237 rfl (lv_at hl 0 rfl) ?_
                  refine va_get (D := D) (ci := 3) (v := .ref (adm 6)) (C := RX3) (T := TX3) (N := 28) hx hb hts hinX3 hown hK.1 hP 0 rfl rfl 7 (by decide) hw1 (fun _ h9 => h9) rfl dX3_step_238 ?_
                  refine lv_bipush (v := 21) hx hb dX3_step_241 (by decide) ?_
                  replace hf := gdE hf
                  obtain ⟨h8, hf⟩ := hf
                  refine va_lald hx hb hK.1 hP 6 1 rfl rfl (ib_in h8) dX3_step_243 ?_
                  refine lv_lmul hx hb dX3_step_244 ?_
                  refine lv_ladd hx hb dX3_step_245 ?_
                  refine lv_aload_n hx hb dX3_step_246 rfl (lv_at hl 0 rfl) ?_
                  refine va_get (D := D) (ci := 3) (v := .ref (adm 6)) (C := RX3) (T := TX3) (N := 28) hx hb hts hinX3 hown hK.1 hP 0 rfl rfl 7 (by decide) hw1 (fun _ h9 => h9) rfl dX3_step_247 ?_
                  refine lv_bipush (v := 21) hx hb dX3_step_250 (by decide) ?_
                  refine va_lald hx hb hK.1 hP 6 1 rfl rfl (ib_in h8) dX3_step_252 ?_
                  refine lv_lload_n hx hb dX3_step_253 rfl (lv_at hl 2 rfl) ?_
                  refine lv_lmul hx hb dX3_step_254 ?_
                  replace hf := bdE hf
                  obtain ⟨r9, hgr9, hf⟩ := hf
                  refine xVw (va_runV (As := [.long (((m7_122 (20 : Int32).toNatClampNeg) * l3_43) + (l1_43 * (m7_122 (21 : Int32).toNatClampNeg))), .long ((m7_122 (21 : Int32).toNatClampNeg) * l3_43)]) (rest := []) ⟨hx, hb, hml, hown, hts⟩ (c_X3_make l D cI cJ cZ adm m0 m1 m2 m3 m4 m5 m6 m7_122 r2 m9 m10 m11 m12 m13 m14 m15 m16 m17 m18 m19 m20 m21 m22 m23 m24_122 m25_122 m26_43 k1_116 (((m7_122 (20 : Int32).toNatClampNeg) * l3_43) + (l1_43 * (m7_122 (21 : Int32).toNatClampNeg))) ((m7_122 (21 : Int32).toNatClampNeg) * l3_43) r9 hgr9 _) (cwV 2 hts gX3_step_X3_make rfl rfl rfl (by decide +kernel) ⟨Nat.le_of_ble_eq_true rfl, Nat.le_of_ble_eq_true rfl⟩) ⟨PreW.blind, xRecv (q0 := 0) hK hP rfl rfl, (xPrew hK hP hD _)⟩ rfl rfl hl.1 rfl (lv_room (Nat.le_of_ble_eq_true rfl)) dX3_step_255 ⟨Nat.le_of_ble_eq_true rfl, Nat.le_of_ble_eq_true rfl⟩) hD hS hA (fun H locs hP hD hS => ?_)
                  replace hP : va_P D vwCl (wMc cI cJ adm m0 m1 m2 m3 m4 m5 m6 m7_122 r2 m9 m10 m11 m12 m13 m14 m15 m16 m17 m18 m19 m20 m21 m22 m23 r9.1 r9.2 m26_43 k1_116) H := hP
                  replace hD : va_D A (wMc cI cJ adm m0 m1 m2 m3 m4 m5 m6 m7_122 r2 m9 m10 m11 m12 m13 m14 m15 m16 m17 m18 m19 m20 m21 m22 m23 r9.1 r9.2 m26_43 k1_116) := hD
                  refine lv_aload_n hx hb dX3_step_258 rfl (lv_at hl 0 rfl) ?_
                  refine lv_bipush (v := 20) hx hb dX3_step_259 (by decide) ?_
                  replace hf := bdE hf
                  obtain ⟨r10, hgr10, hf⟩ := hf
                  refine xVw (va_runV (As := [.int 20]) (rest := []) ⟨hx, hb, hml, hown, hts⟩ (c_X3_store l D cI cJ cZ adm m0 m1 m2 m3 m4 m5 m6 m7_122 r2 m9 m10 m11 m12 m13 m14 m15 m16 m17 m18 m19 m20 m21 m22 m23 r9.1 r9.2 m26_43 k1_116 20 r10 hgr10 _) (cwV 1 hts gX3_step_X3_store rfl rfl rfl (by decide +kernel) ⟨Nat.le_of_ble_eq_true rfl, Nat.le_of_ble_eq_true rfl⟩) ⟨PreW.blind, xRecv (q0 := 0) hK hP rfl rfl, (xPrew hK hP hD _)⟩ rfl rfl hl.1 rfl (lv_room (Nat.le_of_ble_eq_true rfl)) dX3_step_261 ⟨Nat.le_of_ble_eq_true rfl, Nat.le_of_ble_eq_true rfl⟩) hD hS hA (fun H locs hP hD hS => ?_)
                  replace hP : va_P D vwCl (wMc cI cJ adm m0 m1 m2 m3 m4 m5 m6 r10 r2 m9 m10 m11 m12 m13 m14 m15 m16 m17 m18 m19 m20 m21 m22 m23 r9.1 r9.2 m26_43 k1_116) H := hP
                  replace hD : va_D A (wMc cI cJ adm m0 m1 m2 m3 m4 m5 m6 r10 r2 m9 m10 m11 m12 m13 m14 m15 m16 m17 m18 m19 m20 m21 m22 m23 r9.1 r9.2 m26_43 k1_116) := hD
                  refine lv_aload_n hx hb dX3_step_264 rfl (lv_at hl 0 rfl) ?_
                  refine va_get (D := D) (ci := 3) (v := .ref (adm 6)) (C := RX3) (T := TX3) (N := 28) hx hb hts hinX3 hown hK.1 hP 0 rfl rfl 7 (by decide) hw1 (fun _ h9 => h9) rfl dX3_step_265 ?_
                  refine lv_bipush (v := 8) hx hb dX3_step_268 (by decide) ?_
                  refine lv_aload_n hx hb dX3_step_270 rfl (lv_at hl 0 rfl) ?_
                  refine va_get (D := D) (ci := 3) (v := .int m26_43) (C := RX3) (T := TX3) (N := 28) hx hb hts hinX3 hown hK.1 hP 0 rfl rfl 26 (by decide) hw5 (fun _ h9 => h9) rfl dX3_step_271 ?_
                  refine lv_iadd hx hb dX3_step_274 ?_
                  refine lv_aload_n hx hb dX3_step_275 rfl (lv_at hl 0 rfl) ?_
                  refine va_get (D := D) (ci := 3) (v := .int k1_116) (C := RX3) (T := TX3) (N := 28) hx hb hts hinX3 hown hK.1 hP 0 rfl rfl 27 (by decide) hw6 (fun _ h9 => h9) rfl dX3_step_276 ?_
                  refine lv_i2l hx hb dX3_step_279 rfl ?_
                  replace hf := gdE hf
                  obtain ⟨h11, hf⟩ := hf
                  refine va_last hx hb hK.1 hP hD hS 6 1 rfl rfl (ib_in h11) dX3_step_280 (fun H locs hP hD hS => ?_)
                  replace hP : va_P D vwCl (wMc cI cJ adm m0 m1 m2 m3 m4 m5 m6 (vp_updL r10 (8 + m26_43).toNatClampNeg k1_116.toInt64) r2 m9 m10 m11 m12 m13 m14 m15 m16 m17 m18 m19 m20 m21 m22 m23 r9.1 r9.2 m26_43 k1_116) H := hP
                  replace hD : va_D A (wMc cI cJ adm m0 m1 m2 m3 m4 m5 m6 (vp_updL r10 (8 + m26_43).toNatClampNeg k1_116.toInt64) r2 m9 m10 m11 m12 m13 m14 m15 m16 m17 m18 m19 m20 m21 m22 m23 r9.1 r9.2 m26_43 k1_116) := hD
                  refine lv_aload_n hx hb dX3_step_281 rfl (lv_at hl 0 rfl) ?_
                  refine va_get (D := D) (ci := 3) (v := .ref (adm 6)) (C := RX3) (T := TX3) (N := 28) hx hb hts hinX3 hown hK.1 hP 0 rfl rfl 7 (by decide) hw1 (fun _ h9 => h9) rfl dX3_step_282 ?_
                  refine lv_aload_n hx hb dX3_step_285 rfl (lv_at hl 0 rfl) ?_
                  refine va_get (D := D) (ci := 3) (v := .int k1_116) (C := RX3) (T := TX3) (N := 28) hx hb hts hinX3 hown hK.1 hP 0 rfl rfl 27 (by decide) hw6 (fun _ h9 => h9) rfl dX3_step_286 ?_
                  have J299 : ∀ (k1_299 : Int32) (H : Heap) (locs : List Loc) (ls : Array Slot), f_X3_step_J299 m0 m1 m4 m5 m6 m10 m11 m12 m13 m14 r2 m26_43 k1_116 r9 r10 k1_299 = some o → va_P D vwCl (wMc cI cJ adm m0 m1 m2 m3 m4 m5 m6 (vp_updL r10 (8 + m26_43).toNatClampNeg k1_116.toInt64) r2 m9 m10 m11 m12 m13 m14 m15 m16 m17 m18 m19 m20 m21 m22 m23 r9.1 r9.2 m26_43 k1_116) H → va_D A (wMc cI cJ adm m0 m1 m2 m3 m4 m5 m6 (vp_updL r10 (8 + m26_43).toNatClampNeg k1_116.toInt64) r2 m9 m10 m11 m12 m13 m14 m15 m16 m17 m18 m19 m20 m21 m22 m23 r9.1 r9.2 m26_43 k1_116) → va_S A s.heap H locs → lv_has ls 12 [(0, .ref (adm 0))] → W p l e (headSpec wsX3_step rmX3_step).room s m ([.ref (adm 0)] : List Value).toArray below meth c H locs 0 0 (MQ below (QI D A (b2i o.1) (wMc cI cJ adm m0 m1 m2 m3 m4 m5 m6 o.2.1 o.2.2.1 m9 o.2.2.2.1 o.2.2.2.2.1 o.2.2.2.2.2.1 o.2.2.2.2.2.2.1 m14 m15 m16 m17 m18 m19 m20 m21 m22 m23 o.2.2.2.2.2.2.2.1 o.2.2.2.2.2.2.2.2.1 o.2.2.2.2.2.2.2.2.2.1 o.2.2.2.2.2.2.2.2.2.2)) ([.ref (adm 0)] : List Value).toArray s 0 0 A) (F0 m 299 ls [.int k1_299, .ref (adm 6)]) := by
                    intro k1_299 H locs ls hf hP hD hS hl
                    unfold f_X3_step_J299 at hf
                    refine lv_aload_n hx hb dX3_step_299 rfl (lv_at hl 0 rfl) ?_
                    refine va_get (D := D) (ci := 3) (v := .int m26_43) (C := RX3) (T := TX3) (N := 28) hx hb hts hinX3 hown hK.1 hP 0 rfl rfl 26 (by decide) hw5 (fun _ h9 => h9) rfl dX3_step_300 ?_
                    refine lv_iadd hx hb dX3_step_303 ?_
                    refine lv_dup2_11 hx hb dX3_step_304 rfl rfl ?_
                    replace hf := gdE hf
                    obtain ⟨h12, hf⟩ := hf
                    refine va_lald hx hb hK.1 hP 6 1 rfl rfl (ib_in h12) dX3_step_305 ?_
                    refine lv_lconst (v := 1) hx hb dX3_step_306 (by decide) ?_
                    refine lv_ladd hx hb dX3_step_307 ?_
                    refine lv_topl (fun v13 ev13 => ?_)
                    replace hf := bndE hf ev13
                    refine va_last hx hb hK.1 hP hD hS 6 1 rfl rfl (ib_in h12) dX3_step_308 (fun H locs hP hD hS => ?_)
                    replace hP : va_P D vwCl (wMc cI cJ adm m0 m1 m2 m3 m4 m5 m6 (vp_updL (vp_updL r10 (8 + m26_43).toNatClampNeg k1_116.toInt64) (k1_299 + m26_43).toNatClampNeg v13) r2 m9 m10 m11 m12 m13 m14 m15 m16 m17 m18 m19 m20 m21 m22 m23 r9.1 r9.2 m26_43 k1_116) H := hP
                    replace hD : va_D A (wMc cI cJ adm m0 m1 m2 m3 m4 m5 m6 (vp_updL (vp_updL r10 (8 + m26_43).toNatClampNeg k1_116.toInt64) (k1_299 + m26_43).toNatClampNeg v13) r2 m9 m10 m11 m12 m13 m14 m15 m16 m17 m18 m19 m20 m21 m22 m23 r9.1 r9.2 m26_43 k1_116) := hD
                    refine lv_aload_n hx hb dX3_step_309 rfl (lv_at hl 0 rfl) ?_
                    refine va_get (D := D) (ci := 3) (v := .ref (adm 6)) (C := RX3) (T := TX3) (N := 28) hx hb hts hinX3 hown hK.1 hP 0 rfl rfl 7 (by decide) hw1 (fun _ h9 => h9) rfl dX3_step_310 ?_
                    refine lv_bipush (v := 30) hx hb dX3_step_313 (by decide) ?_
                    refine lv_dup2_11 hx hb dX3_step_315 rfl rfl ?_
                    replace hf := gdE hf
                    obtain ⟨h14, hf⟩ := hf
                    refine va_lald hx hb hK.1 hP 6 1 rfl rfl (ib_in h14) dX3_step_316 ?_
                    refine lv_lconst (v := 1) hx hb dX3_step_317 (by decide) ?_
                    refine lv_ladd hx hb dX3_step_318 ?_
                    refine lv_topl (fun v15 ev15 => ?_)
                    replace hf := bndE hf ev15
                    refine va_last hx hb hK.1 hP hD hS 6 1 rfl rfl (ib_in h14) dX3_step_319 (fun H locs hP hD hS => ?_)
                    replace hP : va_P D vwCl (wMc cI cJ adm m0 m1 m2 m3 m4 m5 m6 (vp_updL (vp_updL (vp_updL r10 (8 + m26_43).toNatClampNeg k1_116.toInt64) (k1_299 + m26_43).toNatClampNeg v13) (30 : Int32).toNatClampNeg v15) r2 m9 m10 m11 m12 m13 m14 m15 m16 m17 m18 m19 m20 m21 m22 m23 r9.1 r9.2 m26_43 k1_116) H := hP
                    replace hD : va_D A (wMc cI cJ adm m0 m1 m2 m3 m4 m5 m6 (vp_updL (vp_updL (vp_updL r10 (8 + m26_43).toNatClampNeg k1_116.toInt64) (k1_299 + m26_43).toNatClampNeg v13) (30 : Int32).toNatClampNeg v15) r2 m9 m10 m11 m12 m13 m14 m15 m16 m17 m18 m19 m20 m21 m22 m23 r9.1 r9.2 m26_43 k1_116) := hD
                    refine lv_iconst (v := 0) hx hb dX3_step_320 (by decide) ?_
                    refine lv_istore (lv' := [(5, .int 0), (0, .ref (adm 0))]) hx hb dX3_step_321 hl (by decide) rfl (fun ls hl => ?_)
                    have L323 : ∀ (n : Nat) (l5_323 : Int32) (m7_323 : Al) (m24_323 : Int64) (m25_323 : Int64) (H : Heap) (locs : List Loc) (ls : Array Slot), f_X3_step_L323 m0 m1 m4 m5 m6 m10 m11 m12 m13 m14 r2 m26_43 k1_116 n l5_323 m7_323 m24_323 m25_323 = some o → va_P D vwCl (wMc cI cJ adm m0 m1 m2 m3 m4 m5 m6 m7_323 r2 m9 m10 m11 m12 m13 m14 m15 m16 m17 m18 m19 m20 m21 m22 m23 m24_323 m25_323 m26_43 k1_116) H → va_D A (wMc cI cJ adm m0 m1 m2 m3 m4 m5 m6 m7_323 r2 m9 m10 m11 m12 m13 m14 m15 m16 m17 m18 m19 m20 m21 m22 m23 m24_323 m25_323 m26_43 k1_116) → va_S A s.heap H locs → lv_has ls 12 [(0, .ref (adm 0)), (5, .int l5_323)] → W p l e (headSpec wsX3_step rmX3_step).room s m ([.ref (adm 0)] : List Value).toArray below meth c H locs 0 0 (MQ below (QI D A (b2i o.1) (wMc cI cJ adm m0 m1 m2 m3 m4 m5 m6 o.2.1 o.2.2.1 m9 o.2.2.2.1 o.2.2.2.2.1 o.2.2.2.2.2.1 o.2.2.2.2.2.2.1 m14 m15 m16 m17 m18 m19 m20 m21 m22 m23 o.2.2.2.2.2.2.2.1 o.2.2.2.2.2.2.2.2.1 o.2.2.2.2.2.2.2.2.2.1 o.2.2.2.2.2.2.2.2.2.2)) ([.ref (adm 0)] : List Value).toArray s 0 0 A) (F0 m 323 ls []) := by
                      intro n
                      induction n with
                      | zero => intro l5_323 m7_323 m24_323 m25_323 H locs ls hf; cases hf
                      | succ n ih323 =>
                        intro l5_323 m7_323 m24_323 m25_323 H locs ls hf hP hD hS hl
                        replace hf : f_X3_step_B323 m0 m1 m4 m5 m6 m10 m11 m12 m13 m14 r2 m26_43 k1_116 (f_X3_step_L323 m0 m1 m4 m5 m6 m10 m11 m12 m13 m14 r2 m26_43 k1_116 n) l5_323 m7_323 m24_323 m25_323 = some o := hf
                        generalize f_X3_step_L323 m0 m1 m4 m5 m6 m10 m11 m12 m13 m14 r2 m26_43 k1_116 n = rec323 at ih323 hf
                        unfold f_X3_step_B323 at hf
                        refine lv_iload hx hb dX3_step_323 (lv_at hl 1 rfl) ?_
                        refine lv_aload_n hx hb dX3_step_325 rfl (lv_at hl 0 rfl) ?_
                        refine va_get (D := D) (ci := 3) (v := .int m6) (C := RX3) (T := TX3) (N := 28) hx hb hts hinX3 hown hK.1 hP 0 rfl rfl 6 (by decide) hw9 (fun _ h9 => h9) rfl dX3_step_326 ?_
                        refine lv_icmp_ge (tgt := 344) hx hb dX3_step_329 (by decide) (fun q16 => ?_) (fun q16 => ?_)
                        · replace hf := ifT q16 hf
                          refine lv_aload_n hx hb dX3_step_344 rfl (lv_at hl 0 rfl) ?_
                          replace hf := bdE hf
                          obtain ⟨r17, hgr17, hf⟩ := hf
                          refine xIw (va_runV (As := []) (rest := []) ⟨hx, hb, hml, hown, hts⟩ (c_X3_isSpent l D cI cJ cZ adm m0 m1 m2 m3 m4 m5 m6 m7_323 r2 m9 m10 m11 m12 m13 m14 m15 m16 m17 m18 m19 m20 m21 m22 m23 m24_323 m25_323 m26_43 k1_116 r17 hgr17 _) (cwV 0 hts gX3_step_X3_isSpent rfl rfl rfl (by decide +kernel) ⟨Nat.le_of_ble_eq_true rfl, Nat.le_of_ble_eq_true rfl⟩) ⟨PreW.blind, xRecv (q0 := 0) hK hP rfl rfl, (xPrew hK hP hD _)⟩ rfl rfl hl.1 rfl (lv_room (Nat.le_of_ble_eq_true rfl)) dX3_step_345 ⟨Nat.le_of_ble_eq_true rfl, Nat.le_of_ble_eq_true rfl⟩) hD hS hA (fun H locs hP hD hS => ?_)
                          replace hP : va_P D vwCl (wMc cI cJ adm m0 m1 m2 m3 m4 m5 m6 m7_323 r2 m9 m10 m11 m12 m13 m14 m15 m16 m17 m18 m19 m20 m21 m22 m23 m24_323 m25_323 m26_43 k1_116) H := hP
                          replace hD : va_D A (wMc cI cJ adm m0 m1 m2 m3 m4 m5 m6 m7_323 r2 m9 m10 m11 m12 m13 m14 m15 m16 m17 m18 m19 m20 m21 m22 m23 m24_323 m25_323 m26_43 k1_116) := hD
                          refine lv_if_eq (tgt := 364) hx hb dX3_step_348 (by decide) (fun q18 => ?_) (fun q18 => ?_)
                          · replace hf := ifT q18 hf
                            refine lv_aload_n hx hb dX3_step_364 rfl (lv_at hl 0 rfl) ?_
                            refine va_get (D := D) (ci := 3) (v := .int m14) (C := RX3) (T := TX3) (N := 28) hx hb hts hinX3 hown hK.1 hP 0 rfl rfl 14 (by decide) hw10 (fun _ h9 => h9) rfl dX3_step_365 ?_
                            refine lv_if_eq (tgt := 447) hx hb dX3_step_368 (by decide) (fun q19 => ?_) (fun q19 => ?_)
                            · replace hf := ifT q19 hf
                              refine lv_iconst (v := 1) hx hb dX3_step_447 (by decide) ?_
                              obtain rfl := Option.some.inj hf
                              exact retZ true rfl hx hb hr hlocks hP hD hS dX3_step_448
                            · replace hf := ifF q19 hf
                              refine lv_aload_n hx hb dX3_step_371 rfl (lv_at hl 0 rfl) ?_
                              refine va_get (D := D) (ci := 3) (v := .ref (adm 6)) (C := RX3) (T := TX3) (N := 28) hx hb hts hinX3 hown hK.1 hP 0 rfl rfl 7 (by decide) hw1 (fun _ h9 => h9) rfl dX3_step_372 ?_
                              refine lv_bipush (v := 30) hx hb dX3_step_375 (by decide) ?_
                              refine va_lald hx hb hK.1 hP 6 1 rfl rfl (ib_in h14) dX3_step_377 ?_
                              refine lv_ldc2 hx hb hown hw11 dX3_step_378 ?_
                              refine W.lcmp hx hb dX3_step_381 ?_
                              refine lv_if_gt (tgt := 447) hx hb dX3_step_382 (by decide) (fun q20 => ?_) (fun q20 => ?_)
                              · replace hf := ifT q20 hf
                                refine lv_iconst (v := 1) hx hb dX3_step_447 (by decide) ?_
                                obtain rfl := Option.some.inj hf
                                exact retZ true rfl hx hb hr hlocks hP hD hS dX3_step_448
                              · replace hf := ifF q20 hf
                                refine lv_aload_n hx hb dX3_step_385 rfl (lv_at hl 0 rfl) ?_
                                refine va_get (D := D) (ci := 3) (v := .ref (adm 6)) (C := RX3) (T := TX3) (N := 28) hx hb hts hinX3 hown hK.1 hP 0 rfl rfl 7 (by decide) hw1 (fun _ h9 => h9) rfl dX3_step_386 ?_
                                refine lv_bipush (v := 30) hx hb dX3_step_389 (by decide) ?_
                                refine va_lald hx hb hK.1 hP 6 1 rfl rfl (ib_in h14) dX3_step_391 ?_
                                refine lv_l2i hx hb dX3_step_392 rfl ?_
                                refine lv_iconst (v := 1) hx hb dX3_step_393 (by decide) ?_
                                refine lv_isub hx hb dX3_step_394 ?_
                                refine lv_topi (fun v21 ev21 => ?_)
                                replace hf := bndE hf ev21
                                refine lv_istore (lv' := [(5, .int v21), (0, .ref (adm 0))]) hx hb dX3_step_395 hl (by decide) rfl (fun ls hl => ?_)
                                refine lv_aload_n hx hb dX3_step_397 rfl (lv_at hl 1 rfl) ?_
                                refine va_get (D := D) (ci := 3) (v := .ref (adm 9)) (C := RX3) (T := TX3) (N := 28) hx hb hts hinX3 hown hK.1 hP 0 rfl rfl 10 (by decide) hw12 (fun _ h9 => h9) rfl dX3_step_398 ?_
                                refine lv_iload hx hb dX3_step_401 (lv_at hl 0 rfl) ?_
                                refine lv_aload_n hx hb dX3_step_403 rfl (lv_at hl 1 rfl) ?_
                                refine va_get (D := D) (ci := 3) (v := .int m26_43) (C := RX3) (T := TX3) (N := 28) hx hb hts hinX3 hown hK.1 hP 0 rfl rfl 26 (by decide) hw5 (fun _ h9 => h9) rfl dX3_step_404 ?_
                                replace hf := gdE hf
                                obtain ⟨h22, hf⟩ := hf
                                refine va_iast hx hb hK.1 hP hD hS 9 0 rfl rfl (ib_in h22) dX3_step_407 (fun H locs hP hD hS => ?_)
                                replace hP : va_P D vwCl (wMc cI cJ adm m0 m1 m2 m3 m4 m5 m6 m7_323 r2 m9 (upd m10 v21.toNatClampNeg m26_43) m11 m12 m13 m14 m15 m16 m17 m18 m19 m20 m21 m22 m23 m24_323 m25_323 m26_43 k1_116) H := hP
                                replace hD : va_D A (wMc cI cJ adm m0 m1 m2 m3 m4 m5 m6 m7_323 r2 m9 (upd m10 v21.toNatClampNeg m26_43) m11 m12 m13 m14 m15 m16 m17 m18 m19 m20 m21 m22 m23 m24_323 m25_323 m26_43 k1_116) := hD
                                refine lv_aload_n hx hb dX3_step_408 rfl (lv_at hl 1 rfl) ?_
                                refine va_get (D := D) (ci := 3) (v := .ref (adm 10)) (C := RX3) (T := TX3) (N := 28) hx hb hts hinX3 hown hK.1 hP 0 rfl rfl 11 (by decide) hw13 (fun _ h9 => h9) rfl dX3_step_409 ?_
                                refine lv_iload hx hb dX3_step_412 (lv_at hl 0 rfl) ?_
                                refine lv_aload_n hx hb dX3_step_414 rfl (lv_at hl 1 rfl) ?_
                                refine va_get (D := D) (ci := 3) (v := .int k1_116) (C := RX3) (T := TX3) (N := 28) hx hb hts hinX3 hown hK.1 hP 0 rfl rfl 27 (by decide) hw6 (fun _ h9 => h9) rfl dX3_step_415 ?_
                                refine va_iast hx hb hK.1 hP hD hS 10 0 rfl rfl (ib_in h22) dX3_step_418 (fun H locs hP hD hS => ?_)
                                replace hP : va_P D vwCl (wMc cI cJ adm m0 m1 m2 m3 m4 m5 m6 m7_323 r2 m9 (upd m10 v21.toNatClampNeg m26_43) (upd m11 v21.toNatClampNeg k1_116) m12 m13 m14 m15 m16 m17 m18 m19 m20 m21 m22 m23 m24_323 m25_323 m26_43 k1_116) H := hP
                                replace hD : va_D A (wMc cI cJ adm m0 m1 m2 m3 m4 m5 m6 m7_323 r2 m9 (upd m10 v21.toNatClampNeg m26_43) (upd m11 v21.toNatClampNeg k1_116) m12 m13 m14 m15 m16 m17 m18 m19 m20 m21 m22 m23 m24_323 m25_323 m26_43 k1_116) := hD
                                refine lv_aload_n hx hb dX3_step_419 rfl (lv_at hl 1 rfl) ?_
                                refine va_get (D := D) (ci := 3) (v := .ref (adm 11)) (C := RX3) (T := TX3) (N := 28) hx hb hts hinX3 hown hK.1 hP 0 rfl rfl 12 (by decide) hw14 (fun _ h9 => h9) rfl dX3_step_420 ?_
                                refine lv_iload hx hb dX3_step_423 (lv_at hl 0 rfl) ?_
                                refine lv_aload_n hx hb dX3_step_425 rfl (lv_at hl 1 rfl) ?_
                                refine va_get (D := D) (ci := 3) (v := .ref (adm 6)) (C := RX3) (T := TX3) (N := 28) hx hb hts hinX3 hown hK.1 hP 0 rfl rfl 7 (by decide) hw1 (fun _ h9 => h9) rfl dX3_step_426 ?_
                                refine lv_bipush (v := 20) hx hb dX3_step_429 (by decide) ?_
                                refine va_lald hx hb hK.1 hP 6 1 rfl rfl (ib_in h7) dX3_step_431 ?_
                                refine lv_topl (fun v23 ev23 => ?_)
                                replace hf := bndE hf ev23
                                refine va_last hx hb hK.1 hP hD hS 11 1 rfl rfl (ib_in h22) dX3_step_432 (fun H locs hP hD hS => ?_)
                                replace hP : va_P D vwCl (wMc cI cJ adm m0 m1 m2 m3 m4 m5 m6 m7_323 r2 m9 (upd m10 v21.toNatClampNeg m26_43) (upd m11 v21.toNatClampNeg k1_116) (vp_updL m12 v21.toNatClampNeg v23) m13 m14 m15 m16 m17 m18 m19 m20 m21 m22 m23 m24_323 m25_323 m26_43 k1_116) H := hP
                                replace hD : va_D A (wMc cI cJ adm m0 m1 m2 m3 m4 m5 m6 m7_323 r2 m9 (upd m10 v21.toNatClampNeg m26_43) (upd m11 v21.toNatClampNeg k1_116) (vp_updL m12 v21.toNatClampNeg v23) m13 m14 m15 m16 m17 m18 m19 m20 m21 m22 m23 m24_323 m25_323 m26_43 k1_116) := hD
                                refine lv_aload_n hx hb dX3_step_433 rfl (lv_at hl 1 rfl) ?_
                                refine va_get (D := D) (ci := 3) (v := .ref (adm 12)) (C := RX3) (T := TX3) (N := 28) hx hb hts hinX3 hown hK.1 hP 0 rfl rfl 13 (by decide) hw15 (fun _ h9 => h9) rfl dX3_step_434 ?_
                                refine lv_iload hx hb dX3_step_437 (lv_at hl 0 rfl) ?_
                                refine lv_aload_n hx hb dX3_step_439 rfl (lv_at hl 1 rfl) ?_
                                refine va_get (D := D) (ci := 3) (v := .ref (adm 6)) (C := RX3) (T := TX3) (N := 28) hx hb hts hinX3 hown hK.1 hP 0 rfl rfl 7 (by decide) hw1 (fun _ h9 => h9) rfl dX3_step_440 ?_
                                refine lv_bipush (v := 21) hx hb dX3_step_443 (by decide) ?_
                                refine va_lald hx hb hK.1 hP 6 1 rfl rfl (ib_in h8) dX3_step_445 ?_
                                refine lv_topl (fun v24 ev24 => ?_)
                                replace hf := bndE hf ev24
                                refine va_last hx hb hK.1 hP hD hS 12 1 rfl rfl (ib_in h22) dX3_step_446 (fun H locs hP hD hS => ?_)
                                replace hP : va_P D vwCl (wMc cI cJ adm m0 m1 m2 m3 m4 m5 m6 m7_323 r2 m9 (upd m10 v21.toNatClampNeg m26_43) (upd m11 v21.toNatClampNeg k1_116) (vp_updL m12 v21.toNatClampNeg v23) (vp_updL m13 v21.toNatClampNeg v24) m14 m15 m16 m17 m18 m19 m20 m21 m22 m23 m24_323 m25_323 m26_43 k1_116) H := hP
                                replace hD : va_D A (wMc cI cJ adm m0 m1 m2 m3 m4 m5 m6 m7_323 r2 m9 (upd m10 v21.toNatClampNeg m26_43) (upd m11 v21.toNatClampNeg k1_116) (vp_updL m12 v21.toNatClampNeg v23) (vp_updL m13 v21.toNatClampNeg v24) m14 m15 m16 m17 m18 m19 m20 m21 m22 m23 m24_323 m25_323 m26_43 k1_116) := hD
                                refine lv_iconst (v := 1) hx hb dX3_step_447 (by decide) ?_
                                obtain rfl := Option.some.inj hf
                                exact retZ true rfl hx hb hr hlocks hP hD hS dX3_step_448
                          · replace hf := ifF q18 hf
                            refine lv_aload_n hx hb dX3_step_351 rfl (lv_at hl 0 rfl) ?_
                            refine va_get (D := D) (ci := 3) (v := .ref (adm 7)) (C := RX3) (T := TX3) (N := 28) hx hb hts hinX3 hown hK.1 hP 0 rfl rfl 8 (by decide) hw2 (fun _ h9 => h9) rfl dX3_step_352 ?_
                            refine lv_aload_n hx hb dX3_step_355 rfl (lv_at hl 0 rfl) ?_
                            refine va_get (D := D) (ci := 3) (v := .ref (adm 6)) (C := RX3) (T := TX3) (N := 28) hx hb hts hinX3 hown hK.1 hP 0 rfl rfl 7 (by decide) hw1 (fun _ h9 => h9) rfl dX3_step_356 ?_
                            replace hf := bdE hf
                            obtain ⟨r25, hgr25, hf⟩ := hf
                            refine xV (w2 := (wMc cI cJ adm m0 m1 m2 m3 m4 m5 m6 r25 r2 m9 m10 m11 m12 m13 m14 m15 m16 m17 m18 m19 m20 m21 m22 m23 m24_323 m25_323 m26_43 k1_116)) (wr := ([((adm 0), .inr (3, [.ref (adm 1), .ref (adm 2), .ref (adm 3), .ref (adm 4), .int m4, .ref (adm 5), .int m6, .ref (adm 6), .ref (adm 7), .ref (adm 8), .ref (adm 9), .ref (adm 10), .ref (adm 11), .ref (adm 12), .int m14, .ref (adm 13), .int m16, .ref (adm 14), .ref (adm 15), .int m19, .ref (adm 16), .ref (adm 17), .int m22, .int m23, .long m24_323, .long m25_323, .int m26_43, .int k1_116])), ((adm 1), .inl (cI, 4, .inl m0)), ((adm 2), .inl (cI, 4, .inl m1)), ((adm 3), .inl (cI, 4, .inl m2)), ((adm 4), .inl (cI, 4, .inl m3)), ((adm 5), .inl (cI, 48, .inl m5)), ((adm 8), .inl (cJ, 31, .inr (.inl m9))), ((adm 9), .inl (cI, 500, .inl m10)), ((adm 10), .inl (cI, 500, .inl m11)), ((adm 11), .inl (cJ, 500, .inr (.inl m12))), ((adm 12), .inl (cJ, 500, .inr (.inl m13))), ((adm 13), .inl (cJ, 9331, .inr (.inl m15))), ((adm 14), .inl (cJ, 8, .inr (.inl m17))), ((adm 15), .inl (cI, 10, .inl m18)), ((adm 16), .inl (cJ, 8, .inr (.inl m20))), ((adm 17), .inl (cJ, 8, .inr (.inl m21)))])) (va_runS (As := [.ref (adm 7), .ref (adm 6)]) (rest := []) ⟨hx, hb, hml, hown, hts⟩ (c_X3_copy l D cI cJ cZ ((adm 7)) ((adm 6)) r2 m7_323 r25 hgr25 _) (va_cwS 2 hts gX3_step_X3_copy rfl rfl rfl (by decide +kernel) ⟨Nat.le_of_ble_eq_true rfl, Nat.le_of_ble_eq_true rfl⟩) ⟨PreW.blind, (xPre hK hP hD [7, 6] rfl (by decide) _)⟩ rfl rfl hl.1 rfl (lv_room (Nat.le_of_ble_eq_true rfl)) dX3_step_359 ⟨Nat.le_of_ble_eq_true rfl, Nat.le_of_ble_eq_true rfl⟩) hP hD hS hA [7, 6] [0, 1, 2, 3, 4, 5, 8, 9, 10, 11, 12, 13, 14, 15, 16, 17] [0, 1, 2, 3, 4, 5, 17, 16, 6, 7, 8, 9, 10, 11, 12, 13, 14, 15] rfl rfl (by decide) (by decide) rfl (by decide) (fun H locs hP hD hS => ?_)
                            refine lv_iconst (v := 0) hx hb dX3_step_362 (by decide) ?_
                            obtain rfl := Option.some.inj hf
                            exact retZ false rfl hx hb hr hlocks hP hD hS dX3_step_363
                        · replace hf := ifF q16 hf
                          refine lv_aload_n hx hb dX3_step_332 rfl (lv_at hl 0 rfl) ?_
                          refine lv_iload hx hb dX3_step_333 (lv_at hl 1 rfl) ?_
                          replace hf := bdE hf
                          obtain ⟨r26, hgr26, hf⟩ := hf
                          refine xVw (va_runV (As := [.int l5_323]) (rest := []) ⟨hx, hb, hml, hown, hts⟩ (c_X3_act l D cI cJ cZ adm m0 m1 m2 m3 m4 m5 m6 m7_323 r2 m9 m10 m11 m12 m13 m14 m15 m16 m17 m18 m19 m20 m21 m22 m23 m24_323 m25_323 m26_43 k1_116 l5_323 r26 hgr26 _) (cwV 1 hts gX3_step_X3_act rfl rfl rfl (by decide +kernel) ⟨Nat.le_of_ble_eq_true rfl, Nat.le_of_ble_eq_true rfl⟩) ⟨PreW.blind, xRecv (q0 := 0) hK hP rfl rfl, (xPrew hK hP hD _)⟩ rfl rfl hl.1 rfl (lv_room (Nat.le_of_ble_eq_true rfl)) dX3_step_335 ⟨Nat.le_of_ble_eq_true rfl, Nat.le_of_ble_eq_true rfl⟩) hD hS hA (fun H locs hP hD hS => ?_)
                          replace hP : va_P D vwCl (wMc cI cJ adm m0 m1 m2 m3 m4 m5 m6 r26.1 r2 m9 m10 m11 m12 m13 m14 m15 m16 m17 m18 m19 m20 m21 m22 m23 r26.2.1 r26.2.2 m26_43 k1_116) H := hP
                          replace hD : va_D A (wMc cI cJ adm m0 m1 m2 m3 m4 m5 m6 r26.1 r2 m9 m10 m11 m12 m13 m14 m15 m16 m17 m18 m19 m20 m21 m22 m23 r26.2.1 r26.2.2 m26_43 k1_116) := hD
                          refine lv_iinc (v := l5_323 + 1) (lv' := [(5, .int (l5_323 + 1)), (0, .ref (adm 0))]) hx hb dX3_step_338 hl (k := 1) rfl (by rfl) (by decide) rfl (fun ls hl => ?_)
                          refine lv_goto (tgt := 323) hx hb dX3_step_341 (by decide) ?_
                          exact ih323 (l5_323 + 1) r26.1 r26.2.1 r26.2.2 _ _ _ hf hP hD hS (lv_sub hl [1, 0] rfl)
                    exact L323 fuel 0 (vp_updL (vp_updL (vp_updL r10 (8 + m26_43).toNatClampNeg k1_116.toInt64) (k1_299 + m26_43).toNatClampNeg v13) (30 : Int32).toNatClampNeg v15) r9.1 r9.2 _ _ _ hf hP hD hS (lv_sub hl [1, 0] rfl)
                  refine lv_if_ne (tgt := 297) hx hb dX3_step_289 (by decide) (fun q27 => ?_) (fun q27 => ?_)
                  · replace hf := ifT q27 hf
                    refine lv_bipush (v := 26) hx hb dX3_step_297 (by decide) ?_
                    exact J299 26 _ _ _ hf hP hD hS (lv_sub hl [0] rfl)
                  · replace hf := ifN q27 hf
                    refine lv_bipush (v := 22) hx hb dX3_step_292 (by decide) ?_
                    refine lv_goto (tgt := 299) hx hb dX3_step_294 (by decide) ?_
                    exact J299 22 _ _ _ hf hP hD hS (lv_sub hl [0] rfl)
                · replace hf := ifF q6 hf
                  refine lv_aload_n hx hb dX3_step_131 rfl (lv_at hl 0 rfl) ?_
                  refine va_get (D := D) (ci := 3) (v := .ref (adm 6)) (C := RX3) (T := TX3) (N := 28) hx hb hts hinX3 hown hK.1 hP 0 rfl rfl 7 (by decide) hw1 (fun _ h9 => h9) rfl dX3_step_132 ?_
                  refine lv_iconst (v := 0) hx hb dX3_step_135 (by decide) ?_
                  refine lv_iconst (v := 2) hx hb dX3_step_136 (by decide) ?_
                  refine lv_iload hx hb dX3_step_137 (lv_at hl 3 rfl) ?_
                  refine lv_imul hx hb dX3_step_139 ?_
                  refine lv_iadd hx hb dX3_step_140 ?_
                  replace hf := gdE hf
                  obtain ⟨h28, hf⟩ := hf
                  refine va_lald hx hb hK.1 hP 6 1 rfl rfl (ib_in h28) dX3_step_141 ?_
                  refine lv_topl (fun v29 ev29 => ?_)
                  replace hf := bndE hf ev29
                  refine lv_lstore (lv' := [(6, .long v29), (0, .ref (adm 0)), (1, .long l1_43), (3, .long l3_43), (5, .int l5_122)]) hx hb dX3_step_142 hl (by decide) rfl (fun ls hl => ?_)
                  refine lv_aload_n hx hb dX3_step_144 rfl (lv_at hl 1 rfl) ?_
                  refine va_get (D := D) (ci := 3) (v := .ref (adm 6)) (C := RX3) (T := TX3) (N := 28) hx hb hts hinX3 hown hK.1 hP 0 rfl rfl 7 (by decide) hw1 (fun _ h9 => h9) rfl dX3_step_145 ?_
                  refine lv_iconst (v := 0) hx hb dX3_step_148 (by decide) ?_
                  refine lv_iconst (v := 2) hx hb dX3_step_149 (by decide) ?_
                  refine lv_iload hx hb dX3_step_150 (lv_at hl 4 rfl) ?_
                  refine lv_imul hx hb dX3_step_152 ?_
                  refine lv_iadd hx hb dX3_step_153 ?_
                  refine lv_iconst (v := 1) hx hb dX3_step_154 (by decide) ?_
                  refine lv_iadd hx hb dX3_step_155 ?_
                  replace hf := gdE hf
                  obtain ⟨h30, hf⟩ := hf
                  refine va_lald hx hb hK.1 hP 6 1 rfl rfl (ib_in h30) dX3_step_156 ?_
                  refine lv_topl (fun v31 ev31 => ?_)
                  replace hf := bndE hf ev31
                  refine lv_lstore (lv' := [(8, .long v31), (6, .long v29), (0, .ref (adm 0)), (1, .long l1_43), (3, .long l3_43), (5, .int l5_122)]) hx hb dX3_step_157 hl (by decide) rfl (fun ls hl => ?_)
                  refine lv_aload_n hx hb dX3_step_159 rfl (lv_at hl 2 rfl) ?_
                  refine lv_iload hx hb dX3_step_160 (lv_at hl 5 rfl) ?_
                  replace hf := bdE hf
                  obtain ⟨r32, hgr32, hf⟩ := hf
                  refine xIw (va_runV (As := [.int l5_122]) (rest := []) ⟨hx, hb, hml, hown, hts⟩ (c_X3_isFilling l D cI cJ cZ adm m0 m1 m2 m3 m4 m5 m6 m7_122 r2 m9 m10 m11 m12 m13 m14 m15 m16 m17 m18 m19 m20 m21 m22 m23 m24_122 m25_122 m26_43 k1_116 l5_122 r32 hgr32 _) (cwV 1 hts gX3_step_X3_isFilling rfl rfl rfl (by decide +kernel) ⟨Nat.le_of_ble_eq_true rfl, Nat.le_of_ble_eq_true rfl⟩) ⟨PreW.blind, xRecv (q0 := 0) hK hP rfl rfl, (xPrew hK hP hD _)⟩ rfl rfl hl.1 rfl (lv_room (Nat.le_of_ble_eq_true rfl)) dX3_step_162 ⟨Nat.le_of_ble_eq_true rfl, Nat.le_of_ble_eq_true rfl⟩) hD hS hA (fun H locs hP hD hS => ?_)
                  replace hP : va_P D vwCl (wMc cI cJ adm m0 m1 m2 m3 m4 m5 m6 m7_122 r2 m9 m10 m11 m12 m13 m14 m15 m16 m17 m18 m19 m20 m21 m22 m23 m24_122 m25_122 m26_43 k1_116) H := hP
                  replace hD : va_D A (wMc cI cJ adm m0 m1 m2 m3 m4 m5 m6 m7_122 r2 m9 m10 m11 m12 m13 m14 m15 m16 m17 m18 m19 m20 m21 m22 m23 m24_122 m25_122 m26_43 k1_116) := hD
                  have J188 : ∀ (k0_188 : Int64) (H : Heap) (locs : List Loc) (ls : Array Slot), f_X3_step_J188 l1_43 l3_43 l5_122 m7_122 rec122 v29 v31 k0_188 = some o → va_P D vwCl (wMc cI cJ adm m0 m1 m2 m3 m4 m5 m6 m7_122 r2 m9 m10 m11 m12 m13 m14 m15 m16 m17 m18 m19 m20 m21 m22 m23 m24_122 m25_122 m26_43 k1_116) H → va_D A (wMc cI cJ adm m0 m1 m2 m3 m4 m5 m6 m7_122 r2 m9 m10 m11 m12 m13 m14 m15 m16 m17 m18 m19 m20 m21 m22 m23 m24_122 m25_122 m26_43 k1_116) → va_S A s.heap H locs → lv_has ls 12 [(0, .ref (adm 0)), (1, .long l1_43), (3, .long l3_43), (5, .int l5_122), (6, .long v29), (8, .long v31)] → W p l e (headSpec wsX3_step rmX3_step).room s m ([.ref (adm 0)] : List Value).toArray below meth c H locs 0 0 (MQ below (QI D A (b2i o.1) (wMc cI cJ adm m0 m1 m2 m3 m4 m5 m6 o.2.1 o.2.2.1 m9 o.2.2.2.1 o.2.2.2.2.1 o.2.2.2.2.2.1 o.2.2.2.2.2.2.1 m14 m15 m16 m17 m18 m19 m20 m21 m22 m23 o.2.2.2.2.2.2.2.1 o.2.2.2.2.2.2.2.2.1 o.2.2.2.2.2.2.2.2.2.1 o.2.2.2.2.2.2.2.2.2.2)) ([.ref (adm 0)] : List Value).toArray s 0 0 A) (F0 m 188 ls [.long k0_188]) := by
                    intro k0_188 H locs ls hf hP hD hS hl
                    unfold f_X3_step_J188 at hf
                    refine lv_lstore (lv' := [(10, .long k0_188), (0, .ref (adm 0)), (1, .long l1_43), (3, .long l3_43), (5, .int l5_122), (6, .long v29), (8, .long v31)]) hx hb dX3_step_188 hl (by decide) rfl (fun ls hl => ?_)
                    refine lv_aload_n hx hb dX3_step_190 rfl (lv_at hl 1 rfl) ?_
                    refine lv_lload hx hb dX3_step_191 (lv_at hl 5 rfl) ?_
                    refine lv_lload_n hx hb dX3_step_193 rfl (lv_at hl 3 rfl) ?_
                    refine lv_lmul hx hb dX3_step_194 ?_
                    refine lv_lload hx hb dX3_step_195 (lv_at hl 0 rfl) ?_
                    refine lv_lload_n hx hb dX3_step_197 rfl (lv_at hl 2 rfl) ?_
                    refine lv_lmul hx hb dX3_step_198 ?_
                    refine lv_lload hx hb dX3_step_199 (lv_at hl 6 rfl) ?_
                    refine lv_lmul hx hb dX3_step_201 ?_
                    refine lv_ladd hx hb dX3_step_202 ?_
                    refine lv_lload hx hb dX3_step_203 (lv_at hl 6 rfl) ?_
                    refine lv_lload_n hx hb dX3_step_205 rfl (lv_at hl 3 rfl) ?_
                    refine lv_lmul hx hb dX3_step_206 ?_
                    replace hf := bdE hf
                    obtain ⟨r33, hgr33, hf⟩ := hf
                    refine xVw (va_runV (As := [.long ((v29 * l3_43) + ((k0_188 * l1_43) * v31)), .long (v31 * l3_43)]) (rest := []) ⟨hx, hb, hml, hown, hts⟩ (c_X3_make l D cI cJ cZ adm m0 m1 m2 m3 m4 m5 m6 m7_122 r2 m9 m10 m11 m12 m13 m14 m15 m16 m17 m18 m19 m20 m21 m22 m23 m24_122 m25_122 m26_43 k1_116 ((v29 * l3_43) + ((k0_188 * l1_43) * v31)) (v31 * l3_43) r33 hgr33 _) (cwV 2 hts gX3_step_X3_make rfl rfl rfl (by decide +kernel) ⟨Nat.le_of_ble_eq_true rfl, Nat.le_of_ble_eq_true rfl⟩) ⟨PreW.blind, xRecv (q0 := 0) hK hP rfl rfl, (xPrew hK hP hD _)⟩ rfl rfl hl.1 rfl (lv_room (Nat.le_of_ble_eq_true rfl)) dX3_step_207 ⟨Nat.le_of_ble_eq_true rfl, Nat.le_of_ble_eq_true rfl⟩) hD hS hA (fun H locs hP hD hS => ?_)
                    replace hP : va_P D vwCl (wMc cI cJ adm m0 m1 m2 m3 m4 m5 m6 m7_122 r2 m9 m10 m11 m12 m13 m14 m15 m16 m17 m18 m19 m20 m21 m22 m23 r33.1 r33.2 m26_43 k1_116) H := hP
                    replace hD : va_D A (wMc cI cJ adm m0 m1 m2 m3 m4 m5 m6 m7_122 r2 m9 m10 m11 m12 m13 m14 m15 m16 m17 m18 m19 m20 m21 m22 m23 r33.1 r33.2 m26_43 k1_116) := hD
                    refine lv_aload_n hx hb dX3_step_210 rfl (lv_at hl 1 rfl) ?_
                    refine lv_iconst (v := 0) hx hb dX3_step_211 (by decide) ?_
                    refine lv_iconst (v := 2) hx hb dX3_step_212 (by decide) ?_
                    refine lv_iload hx hb dX3_step_213 (lv_at hl 4 rfl) ?_
                    refine lv_imul hx hb dX3_step_215 ?_
                    refine lv_iadd hx hb dX3_step_216 ?_
                    replace hf := bdE hf
                    obtain ⟨r34, hgr34, hf⟩ := hf
                    refine xVw (va_runV (As := [.int (0 + (2 * l5_122))]) (rest := []) ⟨hx, hb, hml, hown, hts⟩ (c_X3_store l D cI cJ cZ adm m0 m1 m2 m3 m4 m5 m6 m7_122 r2 m9 m10 m11 m12 m13 m14 m15 m16 m17 m18 m19 m20 m21 m22 m23 r33.1 r33.2 m26_43 k1_116 (0 + (2 * l5_122)) r34 hgr34 _) (cwV 1 hts gX3_step_X3_store rfl rfl rfl (by decide +kernel) ⟨Nat.le_of_ble_eq_true rfl, Nat.le_of_ble_eq_true rfl⟩) ⟨PreW.blind, xRecv (q0 := 0) hK hP rfl rfl, (xPrew hK hP hD _)⟩ rfl rfl hl.1 rfl (lv_room (Nat.le_of_ble_eq_true rfl)) dX3_step_217 ⟨Nat.le_of_ble_eq_true rfl, Nat.le_of_ble_eq_true rfl⟩) hD hS hA (fun H locs hP hD hS => ?_)
                    replace hP : va_P D vwCl (wMc cI cJ adm m0 m1 m2 m3 m4 m5 m6 r34 r2 m9 m10 m11 m12 m13 m14 m15 m16 m17 m18 m19 m20 m21 m22 m23 r33.1 r33.2 m26_43 k1_116) H := hP
                    replace hD : va_D A (wMc cI cJ adm m0 m1 m2 m3 m4 m5 m6 r34 r2 m9 m10 m11 m12 m13 m14 m15 m16 m17 m18 m19 m20 m21 m22 m23 r33.1 r33.2 m26_43 k1_116) := hD
                    refine lv_iinc (v := l5_122 + 1) (lv' := [(5, .int (l5_122 + 1)), (10, .long k0_188), (0, .ref (adm 0)), (1, .long l1_43), (3, .long l3_43), (6, .long v29), (8, .long v31)]) hx hb dX3_step_220 hl (k := 4) rfl (by rfl) (by decide) rfl (fun ls hl => ?_)
                    refine lv_goto (tgt := 122) hx hb dX3_step_223 (by decide) ?_
                    exact ih122 (l5_122 + 1) r34 r33.1 r33.2 _ _ _ hf hP hD hS (lv_sub hl [2, 3, 4, 0] rfl)
                  refine lv_if_eq (tgt := 179) hx hb dX3_step_165 (by decide) (fun q35 => ?_) (fun q35 => ?_)
                  · replace hf := ifT q35 hf
                    refine lv_aload_n hx hb dX3_step_179 rfl (lv_at hl 2 rfl) ?_
                    refine va_get (D := D) (ci := 3) (v := .ref (adm 4)) (C := RX3) (T := TX3) (N := 28) hx hb hts hinX3 hown hK.1 hP 0 rfl rfl 3 (by decide) hw8 (fun _ h9 => h9) rfl dX3_step_180 ?_
                    refine lv_iload hx hb dX3_step_183 (lv_at hl 5 rfl) ?_
                    replace hf := gdE hf
                    obtain ⟨h36, hf⟩ := hf
                    refine va_iald hx hb hK.1 hP 4 0 rfl rfl (ib_in h36) dX3_step_185 ?_
                    refine lv_ineg hx hb dX3_step_186 ?_
                    refine lv_i2l hx hb dX3_step_187 rfl ?_
                    exact J188 ((-(m3 l5_122.toNatClampNeg)).toInt64) _ _ _ hf hP hD hS (lv_sub hl [2, 3, 4, 5, 1, 0] rfl)
                  · replace hf := ifF q35 hf
                    refine lv_aload_n hx hb dX3_step_168 rfl (lv_at hl 2 rfl) ?_
                    refine va_get (D := D) (ci := 3) (v := .ref (adm 3)) (C := RX3) (T := TX3) (N := 28) hx hb hts hinX3 hown hK.1 hP 0 rfl rfl 2 (by decide) hw7 (fun _ h9 => h9) rfl dX3_step_169 ?_
                    refine lv_iload hx hb dX3_step_172 (lv_at hl 5 rfl) ?_
                    replace hf := gdE hf
                    obtain ⟨h37, hf⟩ := hf
                    refine va_iald hx hb hK.1 hP 3 0 rfl rfl (ib_in h37) dX3_step_174 ?_
                    refine lv_i2l hx hb dX3_step_175 rfl ?_
                    refine lv_goto (tgt := 188) hx hb dX3_step_176 (by decide) ?_
                    exact J188 ((m2 l5_122.toNatClampNeg).toInt64) _ _ _ hf hP hD hS (lv_sub hl [2, 3, 4, 5, 1, 0] rfl)
            exact L122 fuel 0 m7 m24_43 m25_43 _ _ _ hf hP hD hS (lv_sub hl [1, 2, 3, 0] rfl)
          refine lv_if_eq (tgt := 115) hx hb dX3_step_108 (by decide) (fun q38 => ?_) (fun q38 => ?_)
          · replace hf := ifT q38 hf
            refine lv_iconst (v := 1) hx hb dX3_step_115 (by decide) ?_
            exact J116 1 _ _ _ hf hP hD hS (lv_sub hl [0, 1, 2] rfl)
          · replace hf := ifF q38 hf
            refine lv_iconst (v := 0) hx hb dX3_step_111 (by decide) ?_
            refine lv_goto (tgt := 116) hx hb dX3_step_112 (by decide) ?_
            exact J116 0 _ _ _ hf hP hD hS (lv_sub hl [0, 1, 2] rfl)
        · replace hf := ifF q4 hf
          refine lv_aload_n hx hb dX3_step_52 rfl (lv_at hl 0 rfl) ?_
          refine lv_iload hx hb dX3_step_53 (lv_at hl 3 rfl) ?_
          replace hf := bdE hf
          obtain ⟨r39, hgr39, hf⟩ := hf
          refine xVw (va_runV (As := [.int l5_43]) (rest := []) ⟨hx, hb, hml, hown, hts⟩ (c_X3_waitOf l D cI cJ cZ adm m0 m1 m2 m3 m4 m5 m6 m7 r2 m9 m10 m11 m12 m13 m14 m15 m16 m17 m18 m19 m20 m21 m22 m23 m24_43 m25_43 m26_43 m27 l5_43 r39 hgr39 _) (cwV 1 hts gX3_step_X3_waitOf rfl rfl rfl (by decide +kernel) ⟨Nat.le_of_ble_eq_true rfl, Nat.le_of_ble_eq_true rfl⟩) ⟨PreW.blind, xRecv (q0 := 0) hK hP rfl rfl, (xPrew hK hP hD _)⟩ rfl rfl hl.1 rfl (lv_room (Nat.le_of_ble_eq_true rfl)) dX3_step_55 ⟨Nat.le_of_ble_eq_true rfl, Nat.le_of_ble_eq_true rfl⟩) hD hS hA (fun H locs hP hD hS => ?_)
          replace hP : va_P D vwCl (wMc cI cJ adm m0 m1 m2 m3 m4 m5 m6 m7 r2 m9 m10 m11 m12 m13 m14 m15 m16 m17 m18 m19 m20 m21 m22 m23 r39.1 r39.2 m26_43 m27) H := hP
          replace hD : va_D A (wMc cI cJ adm m0 m1 m2 m3 m4 m5 m6 m7 r2 m9 m10 m11 m12 m13 m14 m15 m16 m17 m18 m19 m20 m21 m22 m23 r39.1 r39.2 m26_43 m27) := hD
          refine lv_aload_n hx hb dX3_step_58 rfl (lv_at hl 0 rfl) ?_
          refine va_get (D := D) (ci := 3) (v := .long r39.1) (C := RX3) (T := TX3) (N := 28) hx hb hts hinX3 hown hK.1 hP 0 rfl rfl 24 (by decide) hw3 (fun _ h9 => h9) rfl dX3_step_59 ?_
          refine lv_lload_n hx hb dX3_step_62 rfl (lv_at hl 2 rfl) ?_
          refine lv_lmul hx hb dX3_step_63 ?_
          refine lv_lload_n hx hb dX3_step_64 rfl (lv_at hl 1 rfl) ?_
          refine lv_aload_n hx hb dX3_step_65 rfl (lv_at hl 0 rfl) ?_
          refine va_get (D := D) (ci := 3) (v := .long r39.2) (C := RX3) (T := TX3) (N := 28) hx hb hts hinX3 hown hK.1 hP 0 rfl rfl 25 (by decide) hw4 (fun _ h9 => h9) rfl dX3_step_66 ?_
          refine lv_lmul hx hb dX3_step_69 ?_
          refine W.lcmp hx hb dX3_step_70 ?_
          have J93 : ∀ (l1_93 : Int64) (l3_93 : Int64) (m26_93 : Int32) (H : Heap) (locs : List Loc) (ls : Array Slot), f_X3_step_J93 l5_43 rec43 r39 l1_93 l3_93 m26_93 = some o → va_P D vwCl (wMc cI cJ adm m0 m1 m2 m3 m4 m5 m6 m7 r2 m9 m10 m11 m12 m13 m14 m15 m16 m17 m18 m19 m20 m21 m22 m23 r39.1 r39.2 m26_93 m27) H → va_D A (wMc cI cJ adm m0 m1 m2 m3 m4 m5 m6 m7 r2 m9 m10 m11 m12 m13 m14 m15 m16 m17 m18 m19 m20 m21 m22 m23 r39.1 r39.2 m26_93 m27) → va_S A s.heap H locs → lv_has ls 12 [(0, .ref (adm 0)), (1, .long l1_93), (3, .long l3_93), (5, .int l5_43)] → W p l e (headSpec wsX3_step rmX3_step).room s m ([.ref (adm 0)] : List Value).toArray below meth c H locs 0 0 (MQ below (QI D A (b2i o.1) (wMc cI cJ adm m0 m1 m2 m3 m4 m5 m6 o.2.1 o.2.2.1 m9 o.2.2.2.1 o.2.2.2.2.1 o.2.2.2.2.2.1 o.2.2.2.2.2.2.1 m14 m15 m16 m17 m18 m19 m20 m21 m22 m23 o.2.2.2.2.2.2.2.1 o.2.2.2.2.2.2.2.2.1 o.2.2.2.2.2.2.2.2.2.1 o.2.2.2.2.2.2.2.2.2.2)) ([.ref (adm 0)] : List Value).toArray s 0 0 A) (F0 m 93 ls []) := by
            intro l1_93 l3_93 m26_93 H locs ls hf hP hD hS hl
            unfold f_X3_step_J93 at hf
            refine lv_iinc (v := l5_43 + 1) (lv' := [(5, .int (l5_43 + 1)), (0, .ref (adm 0)), (1, .long l1_93), (3, .long l3_93)]) hx hb dX3_step_93 hl (k := 3) rfl (by rfl) (by decide) rfl (fun ls hl => ?_)
            refine lv_goto (tgt := 43) hx hb dX3_step_96 (by decide) ?_
            exact ih43 l1_93 l3_93 (l5_43 + 1) r39.1 r39.2 m26_93 _ _ _ hf hP hD hS (lv_sub hl [1, 2, 3, 0] rfl)
          refine lv_if_lt (tgt := 77) hx hb dX3_step_71 (by decide) (fun q40 => ?_) (fun q40 => ?_)
          · replace hf := ifT q40 hf
            refine lv_aload_n hx hb dX3_step_77 rfl (lv_at hl 0 rfl) ?_
            refine va_get (D := D) (ci := 3) (v := .long r39.1) (C := RX3) (T := TX3) (N := 28) hx hb hts hinX3 hown hK.1 hP 0 rfl rfl 24 (by decide) hw3 (fun _ h9 => h9) rfl dX3_step_78 ?_
            refine lv_lstore_n (lv' := [(1, .long r39.1), (0, .ref (adm 0)), (3, .long l3_43), (5, .int l5_43)]) hx hb dX3_step_81 rfl hl (by decide) rfl (fun ls hl => ?_)
            refine lv_aload_n hx hb dX3_step_82 rfl (lv_at hl 1 rfl) ?_
            refine va_get (D := D) (ci := 3) (v := .long r39.2) (C := RX3) (T := TX3) (N := 28) hx hb hts hinX3 hown hK.1 hP 0 rfl rfl 25 (by decide) hw4 (fun _ h9 => h9) rfl dX3_step_83 ?_
            refine lv_lstore_n (lv' := [(3, .long r39.2), (1, .long r39.1), (0, .ref (adm 0)), (5, .int l5_43)]) hx hb dX3_step_86 rfl hl (by decide) rfl (fun ls hl => ?_)
            refine lv_aload_n hx hb dX3_step_87 rfl (lv_at hl 2 rfl) ?_
            refine lv_iload hx hb dX3_step_88 (lv_at hl 3 rfl) ?_
            refine va_put (D := D) (ci := 3) (v := .int l5_43) (ty := .int) (C := RX3) (T := TX3) (N := 28) hx hb hts hinX3 tyX3 tyX3_ok nmX3 hown hK.1 hP hD hS 0 rfl rfl 26 (by decide) hw5 (fun _ h9 => h9) rfl (by decide +kernel) rfl rfl (Nat.le_of_ble_eq_true rfl) dX3_step_90 (fun H locs hP hD hS => ?_)
            replace hP : va_P D vwCl (wMc cI cJ adm m0 m1 m2 m3 m4 m5 m6 m7 r2 m9 m10 m11 m12 m13 m14 m15 m16 m17 m18 m19 m20 m21 m22 m23 r39.1 r39.2 l5_43 m27) H := hP
            replace hD : va_D A (wMc cI cJ adm m0 m1 m2 m3 m4 m5 m6 m7 r2 m9 m10 m11 m12 m13 m14 m15 m16 m17 m18 m19 m20 m21 m22 m23 r39.1 r39.2 l5_43 m27) := hD
            exact J93 r39.1 r39.2 l5_43 _ _ _ hf hP hD hS (lv_sub hl [2, 1, 0, 3] rfl)
          · replace hf := ifF q40 hf
            refine lv_goto (tgt := 93) hx hb dX3_step_74 (by decide) ?_
            exact J93 l1_43 l3_43 m26_43 _ _ _ hf hP hD hS (lv_sub hl [0, 1, 2, 3] rfl)
    exact L43 fuel r3.1 r3.2 1 r3.1 r3.2 0 _ _ _ hf hP hD hS (lv_sub hl [3, 2, 1, 0] rfl)
  · replace hf := ifN q1 hf
    refine lv_iconst (v := 0) hx hb dX3_step_7 (by decide) ?_
    obtain rfl := Option.some.inj hf
    exact retZ false rfl hx hb hr hlocks hP hD hS dX3_step_8
