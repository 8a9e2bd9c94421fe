def f_X2_beatTerm_J53 (v5 : Int32) (v6 : Int32) (k0_53 : Int32) : Option Int32 :=
(f_X2_commonOf v5.toInt64 v6.toInt64).bind (fun r7 =>
gd (nzI r7.toInt32) (
some (k0_53 / r7.toInt32)))
def f_X2_beatTerm (gc : Ci) (p1 : Int32) (p2 : Int32) : Option Int32 :=
gd (ib p1 4) (
bnd (gc.2.2.2.1 p1.toNatClampNeg) (fun v2 =>
bnd (gc.2.2.2.2.1 p1.toNatClampNeg) (fun v3 =>
(f_X0_span gc p1).bind (fun r4 =>
bnd (r4 * (v2 + v3)) (fun v5 =>
bnd (v2 * v3) (fun v6 =>
if p2 = 0 then
f_X2_beatTerm_J53 v5 v6 v6
else
f_X2_beatTerm_J53 v5 v6 v5))))))
abbrev rmX2_beatTerm : Room := { frames := 1, cells := 0, slots := 0, locals := 30 }
set_option maxHeartbeats 40000000 in
set_option maxRecDepth 100000 in
theorem c_X2_beatTerm (l : Launch) (D : va_G) (cI cJ cZ : ClassId) (adx : Nat → Nat) (adc : Nat → Nat) (adn : Nat → Nat) (adt : Nat → Nat) (gx : Xo) (gc : Ci) (gn : Sw) (gt : Sw) (p1 : Int32) (p2 : Int32) (o : Int32) (hf : f_X2_beatTerm gc p1 p2 = some o) : CtI l yX2_beatTerm wsX2_beatTerm rmX2_beatTerm D cI cJ cZ [.ref (adx 0), .int p1, .int p2] (wX cI cJ adx adc adn adt gx ++ wCi cI adc gc ++ wSw cI cJ cZ adn gn ++ wSw cI cJ cZ adt gt) (wX cI cJ adx adc adn adt gx ++ wCi cI adc gc ++ wSw cI cJ cZ adn gn ++ wSw cI cJ cZ adt gt) o := by
  intro sz
  refine Met.ofW (cc := cX2_beatTerm) (maxL := 7) (ret := (some .int)) (by decide) rfl ?_
  intro p e s m args below meth c s₁ B hml hv
  obtain ⟨rfl, hsz, hP, hK, hD0⟩ := hv
  have hx := B.exec
  have hb := B.bytes
  have hr := B.returns
  have hts := atoms_spec (ws := wsX2_beatTerm) B.pre
  have hown : s.vm.findClass RX2 = some m.cls := findClass_of_methodNamed B.named
  have hlocks := B.notSynchronized
  subst hsz
  have hD := hD0.self (sz := s.heap.size)
  clear hD0
  generalize hAe : va_A (wX cI cJ adx adc adn adt gx ++ wCi cI adc gc ++ wSw cI cJ cZ adn gn ++ wSw cI cJ cZ adt gt) s.heap.size = A at hD ⊢
  have hA : ∀ q : Nat, s.heap.size ≤ q → A q := fun q h => by rw [← hAe]; exact Or.inr h
  have hS : va_S A s.heap s.heap [] := va_S.rf
  have hinX0 : ∀ w ∈ wsX00, w ∈ wsX2_beatTerm := by decide +kernel
  have hinX2 : ∀ w ∈ wsX20, w ∈ wsX2_beatTerm := by decide +kernel
  have hw0 : (Cond.fieldLink RX2 12 "SwingCircuits" "circuit" "LSwingCircuits$Circuit;").before _ s = true := hts _ (by decide +kernel)
  have hw1 : (Cond.fieldLink RX2 85 "SwingCircuits$Circuit" "rise" "[I").before _ s = true := hts _ (by decide +kernel)
  have hw2 : (Cond.fieldLink RX2 88 "SwingCircuits$Circuit" "fall" "[I").before _ s = true := hts _ (by decide +kernel)
  have hl := lv_entry ([.ref (adx 0), .int p1, .int p2]) (n := 7) (Nat.le_of_ble_eq_true rfl)
  rw [lg_entry_eq]
  generalize (lg_sl ([.ref (adx 0), .int p1, .int p2]) ++ List.replicate (7 - (lg_sl ([.ref (adx 0), .int p1, .int p2])).length) Slot.unset).toArray = ls at hl ⊢
  replace hl : lv_has ls 7 [(0, .ref (adx 0)), (1, .int p1), (2, .int p2)] := hl
  unfold f_X2_beatTerm at hf
  refine lv_aload_n hx hb dX2_beatTerm_0 rfl (lv_at hl 0 rfl) ?_
  refine va_get (D := D) (ci := 2) (v := .ref (adc 0)) (C := RX2) (T := TX2) (N := 17) hx hb hts hinX2 hown hK.1 hP 0 rfl rfl 0 (by decide) hw0 (fun _ h9 => h9) rfl dX2_beatTerm_1 ?_
  refine va_get (D := D) (ci := 0) (v := .ref (adc 3)) (C := RX0) (T := TX0) (N := 12) hx hb hts hinX0 hown hK.1 hP 11 rfl rfl 3 (by decide) hw1 (fun _ h9 => h9) rfl dX2_beatTerm_4 ?_
  refine lv_iload_n hx hb dX2_beatTerm_7 rfl (lv_at hl 1 rfl) ?_
  replace hf := gdE hf
  obtain ⟨h1, hf⟩ := hf
  refine va_iald hx hb hK.1 hP 14 0 rfl rfl (ib_in h1) dX2_beatTerm_8 ?_
  refine lv_topi (fun v2 ev2 => ?_)
  replace hf := bndE hf ev2
  refine lv_istore_n (lv' := [(3, .int v2), (0, .ref (adx 0)), (1, .int p1), (2, .int p2)]) hx hb dX2_beatTerm_9 rfl hl (by decide) rfl (fun ls hl => ?_)
  refine lv_aload_n hx hb dX2_beatTerm_10 rfl (lv_at hl 1 rfl) ?_
  refine va_get (D := D) (ci := 2) (v := .ref (adc 0)) (C := RX2) (T := TX2) (N := 17) hx hb hts hinX2 hown hK.1 hP 0 rfl rfl 0 (by decide) hw0 (fun _ h9 => h9) rfl dX2_beatTerm_11 ?_
  refine va_get (D := D) (ci := 0) (v := .ref (adc 4)) (C := RX0) (T := TX0) (N := 12) hx hb hts hinX0 hown hK.1 hP 11 rfl rfl 4 (by decide) hw2 (fun _ h9 => h9) rfl dX2_beatTerm_14 ?_
  refine lv_iload_n hx hb dX2_beatTerm_17 rfl (lv_at hl 2 rfl) ?_
  refine va_iald hx hb hK.1 hP 15 0 rfl rfl (ib_in h1) dX2_beatTerm_18 ?_
  refine lv_topi (fun v3 ev3 => ?_)
  replace hf := bndE hf ev3
  refine lv_istore (lv' := [(4, .int v3), (3, .int v2), (0, .ref (adx 0)), (1, .int p1), (2, .int p2)]) hx hb dX2_beatTerm_19 hl (by decide) rfl (fun ls hl => ?_)
  refine lv_aload_n hx hb dX2_beatTerm_21 rfl (lv_at hl 2 rfl) ?_
  refine va_get (D := D) (ci := 2) (v := .ref (adc 0)) (C := RX2) (T := TX2) (N := 17) hx hb hts hinX2 hown hK.1 hP 0 rfl rfl 0 (by decide) hw0 (fun _ h9 => h9) rfl dX2_beatTerm_22 ?_
  refine lv_iload_n hx hb dX2_beatTerm_25 rfl (lv_at hl 3 rfl) ?_
  replace hf := bdE hf
  obtain ⟨r4, hgr4, hf⟩ := hf
  refine xI (w2 := (wX cI cJ adx adc adn adt gx ++ wCi cI adc gc ++ wSw cI cJ cZ adn gn ++ wSw cI cJ cZ adt gt)) (wr := (wX cI cJ adx adc adn adt gx ++ wSw cI cJ cZ adn gn ++ wSw cI cJ cZ adt gt)) (va_runV (As := [.int p1]) (rest := []) ⟨hx, hb, hml, hown, hts⟩ (c_X0_span l D cI cJ cZ adc gc p1 r4 hgr4 _) (cwV 1 hts gX2_beatTerm_X0_span rfl rfl rfl (by decide +kernel) ⟨Nat.le_of_ble_eq_true rfl, Nat.le_of_ble_eq_true rfl⟩) ⟨PreW.blind, xRecv (q0 := 11) hK hP rfl rfl, (xPre hK hP hD [11, 12, 13, 14, 15, 16, 17, 18, 19, 20, 21] rfl (by decide) _)⟩ rfl rfl hl.1 rfl (lv_room (Nat.le_of_ble_eq_true rfl)) dX2_beatTerm_26 ⟨Nat.le_of_ble_eq_true rfl, Nat.le_of_ble_eq_true rfl⟩) hP hD hS hA [11, 12, 13, 14, 15, 16, 17, 18, 19, 20, 21] [0, 1, 2, 3, 4, 5, 6, 7, 8, 9, 10, 22, 23, 24, 25, 26, 27, 28, 29, 30, 31] [0, 1, 2, 3, 4, 5, 6, 7, 8, 9, 10, 21, 22, 23, 24, 25, 26, 27, 28, 29, 30, 31, 11, 12, 13, 14, 15, 16, 17, 18, 19, 20] rfl rfl (by decide) (by decide) rfl (by decide) (fun H locs hP hD hS => ?_)
  refine lv_iload_n hx hb dX2_beatTerm_29 rfl (lv_at hl 1 rfl) ?_
  refine lv_iload hx hb dX2_beatTerm_30 (lv_at hl 0 rfl) ?_
  refine lv_iadd hx hb dX2_beatTerm_32 ?_
  refine lv_imul hx hb dX2_beatTerm_33 ?_
  refine lv_topi (fun v5 ev5 => ?_)
  replace hf := bndE hf ev5
  refine lv_istore (lv' := [(5, .int v5), (4, .int v3), (3, .int v2), (0, .ref (adx 0)), (1, .int p1), (2, .int p2)]) hx hb dX2_beatTerm_34 hl (by decide) rfl (fun ls hl => ?_)
  refine lv_iload_n hx hb dX2_beatTerm_36 rfl (lv_at hl 2 rfl) ?_
  refine lv_iload hx hb dX2_beatTerm_37 (lv_at hl 1 rfl) ?_
  refine lv_imul hx hb dX2_beatTerm_39 ?_
  refine lv_topi (fun v6 ev6 => ?_)
  replace hf := bndE hf ev6
  refine lv_istore (lv' := [(6, .int v6), (5, .int v5), (4, .int v3), (3, .int v2), (0, .ref (adx 0)), (1, .int p1), (2, .int p2)]) hx hb dX2_beatTerm_40 hl (by decide) rfl (fun ls hl => ?_)
  refine lv_iload_n hx hb dX2_beatTerm_42 rfl (lv_at hl 6 rfl) ?_
  have J53 : ∀ (k0_53 : Int32) (H : Heap) (locs : List Loc) (ls : Array Slot), f_X2_beatTerm_J53 v5 v6 k0_53 = some o → va_P D vwCl (wX cI cJ adx adc adn adt gx ++ wCi cI adc gc ++ wSw cI cJ cZ adn gn ++ wSw cI cJ cZ adt gt) H → va_D A (wX cI cJ adx adc adn adt gx ++ wCi cI adc gc ++ wSw cI cJ cZ adn gn ++ wSw cI cJ cZ adt gt) → va_S A s.heap H locs → lv_has ls 7 [(5, .int v5), (6, .int v6)] → W p l e (headSpec wsX2_beatTerm rmX2_beatTerm).room s m ([.ref (adx 0), .int p1, .int p2] : List Value).toArray below meth c H locs 0 0 (MQ below (QI D A o (wX cI cJ adx adc adn adt gx ++ wCi cI adc gc ++ wSw cI cJ cZ adn gn ++ wSw cI cJ cZ adt gt)) ([.ref (adx 0), .int p1, .int p2] : List Value).toArray s 0 0 A) (F0 m 53 ls [.int k0_53]) := by
    intro k0_53 H locs ls hf hP hD hS hl
    unfold f_X2_beatTerm_J53 at hf
    refine lv_iload hx hb dX2_beatTerm_53 (lv_at hl 0 rfl) ?_
    refine lv_i2l hx hb dX2_beatTerm_55 rfl ?_
    refine lv_iload hx hb dX2_beatTerm_56 (lv_at hl 1 rfl) ?_
    refine lv_i2l hx hb dX2_beatTerm_58 rfl ?_
    replace hf := bdE hf
    obtain ⟨r7, hgr7, hf⟩ := hf
    refine xL0 (va_runS (As := [.long v5.toInt64, .long v6.toInt64]) (rest := [.int k0_53]) ⟨hx, hb, hml, hown, hts⟩ (c_X2_commonOf l D cI cJ cZ v5.toInt64 v6.toInt64 r7 hgr7 _) (va_cwS 2 hts gX2_beatTerm_X2_commonOf rfl rfl rfl (by decide +kernel) ⟨Nat.le_of_ble_eq_true rfl, Nat.le_of_ble_eq_true rfl⟩) ⟨PreW.blind, (xPre0 hK _)⟩ rfl rfl hl.1 rfl (lv_room (Nat.le_of_ble_eq_true rfl)) dX2_beatTerm_59 ⟨Nat.le_of_ble_eq_true rfl, Nat.le_of_ble_eq_true rfl⟩) hP hS hA (fun H locs hP hS => ?_)
    refine lv_l2i hx hb dX2_beatTerm_62 rfl ?_
    replace hf := gdE hf
    obtain ⟨h8, hf⟩ := hf
    refine lv_idiv hx hb dX2_beatTerm_63 (nzI_ne h8) ?_
    obtain rfl := Option.some.inj hf
    exact retI hx hb hr hlocks hP hD hS dX2_beatTerm_64
  refine lv_if_eq (tgt := 51) hx hb dX2_beatTerm_43 (by decide) (fun q9 => ?_) (fun q9 => ?_)
  · replace hf := ifT q9 hf
    refine lv_iload hx hb dX2_beatTerm_51 (lv_at hl 0 rfl) ?_
    exact J53 v6 _ _ _ hf hP hD hS (lv_sub hl [1, 0] rfl)
  · replace hf := ifF q9 hf
    refine lv_iload hx hb dX2_beatTerm_46 (lv_at hl 1 rfl) ?_
    refine lv_goto (tgt := 53) hx hb dX2_beatTerm_48 (by decide) ?_
    exact J53 v5 _ _ _ hf hP hD hS (lv_sub hl [1, 0] rfl)

def f_X2_findWays_J113 (l8_18 : Int32) (rec18 : (Int32 → Int32 → Ar → Option (Int32 × Ar))) (l6_113 : Int32) (x12_113 : Ar) : Option (Int32 × Ar) :=
rec18 l6_113 (l8_18 + 1) x12_113
def f_X2_findWays_B18 (gx : Xo) (gc : Ci) (p1 : Int32) (p2 : Int64) (p3 : Int64) (l7_6 : Int32) (rec6 : (Int32 → Int32 → Ar → Option (Int32 × Ar))) (rec18 : Int32 → Int32 → Ar → Option (Int32 × Ar)) (l6_18 : Int32) (l8_18 : Int32) (x12_18 : Ar) : Option (Int32 × Ar) :=
if gx.2.2.2.2.2.2.2.2.1 ≤ l8_18 then
rec6 l6_18 (l7_6 + 1) x12_18
else
(f_X0_span gc p1).bind (fun r3 =>
gd (ib l7_6 10) (
gd (ib l8_18 10) (
bnd (r3 * ((gx.2.2.2.2.2.2.2.1 l7_6.toNatClampNeg) + (gx.2.2.2.2.2.2.2.1 l8_18.toNatClampNeg))) (fun v6 =>
bnd ((gx.2.2.2.2.2.2.2.1 l7_6.toNatClampNeg) * (gx.2.2.2.2.2.2.2.1 l8_18.toNatClampNeg)) (fun v7 =>
if ¬ (lg_cmp (v6.toInt64 * p3) (p2 * v7.toInt64)) = 0 then
f_X2_findWays_J113 l8_18 rec18 l6_18 x12_18
else
bnd (((gx.2.2.2.2.2.2.2.1 l7_6.toNatClampNeg) * 100) + (gx.2.2.2.2.2.2.2.1 l8_18.toNatClampNeg)) (fun v9 =>
gd (ib l6_18 100) (
f_X2_findWays_J113 l8_18 rec18 (l6_18 + 1) (upd x12_18 l6_18.toNatClampNeg v9))))))))
def f_X2_findWays_L18 (gx : Xo) (gc : Ci) (p1 : Int32) (p2 : Int64) (p3 : Int64) (l7_6 : Int32) (rec6 : (Int32 → Int32 → Ar → Option (Int32 × Ar))) : Nat → Int32 → Int32 → Ar → Option (Int32 × Ar)
  | 0 => fun _ _ _ => none
  | n + 1 => f_X2_findWays_B18 gx gc p1 p2 p3 l7_6 rec6 (f_X2_findWays_L18 gx gc p1 p2 p3 l7_6 rec6 n)
def f_X2_findWays_B6 (gx : Xo) (gc : Ci) (p1 : Int32) (p2 : Int64) (p3 : Int64) (rec6 : Int32 → Int32 → Ar → Option (Int32 × Ar)) (l6_6 : Int32) (l7_6 : Int32) (x12_6 : Ar) : Option (Int32 × Ar) :=
if gx.2.2.2.2.2.2.2.2.1 ≤ l7_6 then
some (l6_6, x12_6)
else
f_X2_findWays_L18 gx gc p1 p2 p3 l7_6 rec6 fuel l6_6 0 x12_6
def f_X2_findWays_L6 (gx : Xo) (gc : Ci) (p1 : Int32) (p2 : Int64) (p3 : Int64) : Nat → Int32 → Int32 → Ar → Option (Int32 × Ar)
  | 0 => fun _ _ _ => none
  | n + 1 => f_X2_findWays_B6 gx gc p1 p2 p3 (f_X2_findWays_L6 gx gc p1 p2 p3 n)
def f_X2_findWays (gx : Xo) (gc : Ci) (p1 : Int32) (p2 : Int64) (p3 : Int64) : Option (Int32 × Ar) :=
f_X2_findWays_L6 gx gc p1 p2 p3 fuel 0 0 gx.2.2.2.2.2.2.2.2.2.2.2.2.1
abbrev rmX2_findWays : Room := { frames := 1, cells := 0, slots := 0, locals := 21 }
set_option maxHeartbeats 40000000 in
set_option maxRecDepth 100000 in
theorem c_X2_findWays (l : Launch) (D : va_G) (cI cJ cZ : ClassId) (adx : Nat → Nat) (adc : Nat → Nat) (adn : Nat → Nat) (adt : Nat → Nat) (gx : Xo) (gc : Ci) (gn : Sw) (gt : Sw) (p1 : Int32) (p2 : Int64) (p3 : Int64) (o : (Int32 × Ar)) (hf : f_X2_findWays gx gc p1 p2 p3 = some o) : CtI l yX2_findWays wsX2_findWays rmX2_findWays D cI cJ cZ [.ref (adx 0), .int p1, .long p2, .long p3] (wX cI cJ adx adc adn adt gx ++ wCi cI adc gc ++ wSw cI cJ cZ adn gn ++ wSw cI cJ cZ adt gt) (wX cI cJ adx adc adn adt ((gx.1, gx.2.1, gx.2.2.1, gx.2.2.2.1, gx.2.2.2.2.1, gx.2.2.2.2.2.1, gx.2.2.2.2.2.2.1, gx.2.2.2.2.2.2.2.1, gx.2.2.2.2.2.2.2.2.1, gx.2.2.2.2.2.2.2.2.2.1, gx.2.2.2.2.2.2.2.2.2.2.1, gx.2.2.2.2.2.2.2.2.2.2.2.1, o.2, gx.2.2.2.2.2.2.2.2.2.2.2.2.2)) ++ wCi cI adc gc ++ wSw cI cJ cZ adn gn ++ wSw cI cJ cZ adt gt) o.1 := by
  intro sz
  refine Met.ofW (cc := cX2_findWays) (maxL := 11) (ret := (some .int)) (by decide) rfl ?_
  intro p e s m args below meth c s₁ B hml hv
  obtain ⟨rfl, hsz, hP, hK, hD0⟩ := hv
  have hx := B.exec
  have hb := B.bytes
  have hr := B.returns
  have hts := atoms_spec (ws := wsX2_findWays) B.pre
  have hown : s.vm.findClass RX2 = some m.cls := findClass_of_methodNamed B.named
  have hlocks := B.notSynchronized
  subst hsz
  have hD := hD0.self (sz := s.heap.size)
  clear hD0
  generalize hAe : va_A (wX cI cJ adx adc adn adt gx ++ wCi cI adc gc ++ wSw cI cJ cZ adn gn ++ wSw cI cJ cZ adt gt) s.heap.size = A at hD ⊢
  have hA : ∀ q : Nat, s.heap.size ≤ q → A q := fun q h => by rw [← hAe]; exact Or.inr h
  have hS : va_S A s.heap s.heap [] := va_S.rf
  have hinX2 : ∀ w ∈ wsX20, w ∈ wsX2_findWays := by decide +kernel
  have hw0 : (Cond.fieldLink RX2 54 "SwingCircuits" "stocked" "I").before _ s = true := hts _ (by decide +kernel)
  have hw1 : (Cond.fieldLink RX2 12 "SwingCircuits" "circuit" "LSwingCircuits$Circuit;").before _ s = true := hts _ (by decide +kernel)
  have hw2 : (Cond.fieldLink RX2 51 "SwingCircuits" "stock" "[I").before _ s = true := hts _ (by decide +kernel)
  have hw3 : (Cond.fieldLink RX2 66 "SwingCircuits" "waysFound" "[I").before _ s = true := hts _ (by decide +kernel)
  have hl := lv_entry ([.ref (adx 0), .int p1, .long p2, .long p3]) (n := 11) (Nat.le_of_ble_eq_true rfl)
  rw [lg_entry_eq]
  generalize (lg_sl ([.ref (adx 0), .int p1, .long p2, .long p3]) ++ List.replicate (11 - (lg_sl ([.ref (adx 0), .int p1, .long p2, .long p3])).length) Slot.unset).toArray = ls at hl ⊢
  replace hl : lv_has ls 11 [(0, .ref (adx 0)), (1, .int p1), (2, .long p2), (4, .long p3)] := hl
  unfold f_X2_findWays at hf
  refine lv_iconst (v := 0) hx hb dX2_findWays_0 (by decide) ?_
  refine lv_istore (lv' := [(6, .int 0), (0, .ref (adx 0)), (1, .int p1), (2, .long p2), (4, .long p3)]) hx hb dX2_findWays_1 hl (by decide) rfl (fun ls hl => ?_)
  refine lv_iconst (v := 0) hx hb dX2_findWays_3 (by decide) ?_
  refine lv_istore (lv' := [(7, .int 0), (6, .int 0), (0, .ref (adx 0)), (1, .int p1), (2, .long p2), (4, .long p3)]) hx hb dX2_findWays_4 hl (by decide) rfl (fun ls hl => ?_)
  have L6 : ∀ (n : Nat) (l6_6 : Int32) (l7_6 : Int32) (x12_6 : Ar) (H : Heap) (locs : List Loc) (ls : Array Slot), f_X2_findWays_L6 gx gc p1 p2 p3 n l6_6 l7_6 x12_6 = some o → va_P D vwCl (wX cI cJ adx adc adn adt ((gx.1, gx.2.1, gx.2.2.1, gx.2.2.2.1, gx.2.2.2.2.1, gx.2.2.2.2.2.1, gx.2.2.2.2.2.2.1, gx.2.2.2.2.2.2.2.1, gx.2.2.2.2.2.2.2.2.1, gx.2.2.2.2.2.2.2.2.2.1, gx.2.2.2.2.2.2.2.2.2.2.1, gx.2.2.2.2.2.2.2.2.2.2.2.1, x12_6, gx.2.2.2.2.2.2.2.2.2.2.2.2.2)) ++ wCi cI adc gc ++ wSw cI cJ cZ adn gn ++ wSw cI cJ cZ adt gt) H → va_D A (wX cI cJ adx adc adn adt ((gx.1, gx.2.1, gx.2.2.1, gx.2.2.2.1, gx.2.2.2.2.1, gx.2.2.2.2.2.1, gx.2.2.2.2.2.2.1, gx.2.2.2.2.2.2.2.1, gx.2.2.2.2.2.2.2.2.1, gx.2.2.2.2.2.2.2.2.2.1, gx.2.2.2.2.2.2.2.2.2.2.1, gx.2.2.2.2.2.2.2.2.2.2.2.1, x12_6, gx.2.2.2.2.2.2.2.2.2.2.2.2.2)) ++ wCi cI adc gc ++ wSw cI cJ cZ adn gn ++ wSw cI cJ cZ adt gt) → va_S A s.heap H locs → lv_has ls 11 [(0, .ref (adx 0)), (1, .int p1), (2, .long p2), (4, .long p3), (6, .int l6_6), (7, .int l7_6)] → W p l e (headSpec wsX2_findWays rmX2_findWays).room s m ([.ref (adx 0), .int p1, .long p2, .long p3] : List Value).toArray below meth c H locs 0 0 (MQ below (QI D A o.1 (wX cI cJ adx adc adn adt ((gx.1, gx.2.1, gx.2.2.1, gx.2.2.2.1, gx.2.2.2.2.1, gx.2.2.2.2.2.1, gx.2.2.2.2.2.2.1, gx.2.2.2.2.2.2.2.1, gx.2.2.2.2.2.2.2.2.1, gx.2.2.2.2.2.2.2.2.2.1, gx.2.2.2.2.2.2.2.2.2.2.1, gx.2.2.2.2.2.2.2.2.2.2.2.1, o.2, gx.2.2.2.2.2.2.2.2.2.2.2.2.2)) ++ wCi cI adc gc ++ wSw cI cJ cZ adn gn ++ wSw cI cJ cZ adt gt)) ([.ref (adx 0), .int p1, .long p2, .long p3] : List Value).toArray s 0 0 A) (F0 m 6 ls []) := by
    intro n
    induction n with
    | zero => intro l6_6 l7_6 x12_6 H locs ls hf; cases hf
    | succ n ih6 =>
      intro l6_6 l7_6 x12_6 H locs ls hf hP hD hS hl
      replace hf : f_X2_findWays_B6 gx gc p1 p2 p3 (f_X2_findWays_L6 gx gc p1 p2 p3 n) l6_6 l7_6 x12_6 = some o := hf
      generalize f_X2_findWays_L6 gx gc p1 p2 p3 n = rec6 at ih6 hf
      unfold f_X2_findWays_B6 at hf
      refine lv_iload hx hb dX2_findWays_6 (lv_at hl 5 rfl) ?_
      refine lv_aload_n hx hb dX2_findWays_8 rfl (lv_at hl 0 rfl) ?_
      refine va_get (D := D) (ci := 2) (v := .int gx.2.2.2.2.2.2.2.2.1) (C := RX2) (T := TX2) (N := 17) hx hb hts hinX2 hown hK.1 hP 0 rfl rfl 11 (by decide) hw0 (fun _ h9 => h9) rfl dX2_findWays_9 ?_
      refine lv_icmp_ge (tgt := 125) hx hb dX2_findWays_12 (by decide) (fun q1 => ?_) (fun q1 => ?_)
      · replace hf := ifT q1 hf
        refine lv_iload hx hb dX2_findWays_125 (lv_at hl 4 rfl) ?_
        obtain rfl := Option.some.inj hf
        exact retI hx hb hr hlocks hP hD hS dX2_findWays_127
      · replace hf := ifF q1 hf
        refine lv_iconst (v := 0) hx hb dX2_findWays_15 (by decide) ?_
        refine lv_istore (lv' := [(8, .int 0), (0, .ref (adx 0)), (1, .int p1), (2, .long p2), (4, .long p3), (6, .int l6_6), (7, .int l7_6)]) hx hb dX2_findWays_16 hl (by decide) rfl (fun ls hl => ?_)
        have L18 : ∀ (n : Nat) (l6_18 : Int32) (l8_18 : Int32) (x12_18 : Ar) (H : Heap) (locs : List Loc) (ls : Array Slot), f_X2_findWays_L18 gx gc p1 p2 p3 l7_6 rec6 n l6_18 l8_18 x12_18 = some o → va_P D vwCl (wX cI cJ adx adc adn adt ((gx.1, gx.2.1, gx.2.2.1, gx.2.2.2.1, gx.2.2.2.2.1, gx.2.2.2.2.2.1, gx.2.2.2.2.2.2.1, gx.2.2.2.2.2.2.2.1, gx.2.2.2.2.2.2.2.2.1, gx.2.2.2.2.2.2.2.2.2.1, gx.2.2.2.2.2.2.2.2.2.2.1, gx.2.2.2.2.2.2.2.2.2.2.2.1, x12_18, gx.2.2.2.2.2.2.2.2.2.2.2.2.2)) ++ wCi cI adc gc ++ wSw cI cJ cZ adn gn ++ wSw cI cJ cZ adt gt) H → va_D A (wX cI cJ adx adc adn adt ((gx.1, gx.2.1, gx.2.2.1, gx.2.2.2.1, gx.2.2.2.2.1, gx.2.2.2.2.2.1, gx.2.2.2.2.2.2.1, gx.2.2.2.2.2.2.2.1, gx.2.2.2.2.2.2.2.2.1, gx.2.2.2.2.2.2.2.2.2.1, gx.2.2.2.2.2.2.2.2.2.2.1, gx.2.2.2.2.2.2.2.2.2.2.2.1, x12_18, gx.2.2.2.2.2.2.2.2.2.2.2.2.2)) ++ wCi cI adc gc ++ wSw cI cJ cZ adn gn ++ wSw cI cJ cZ adt gt) → va_S A s.heap H locs → lv_has ls 11 [(0, .ref (adx 0)), (1, .int p1), (2, .long p2), (4, .long p3), (6, .int l6_18), (7, .int l7_6), (8, .int l8_18)] → W p l e (headSpec wsX2_findWays rmX2_findWays).room s m ([.ref (adx 0), .int p1, .long p2, .long p3] : List Value).toArray below meth c H locs 0 0 (MQ below (QI D A o.1 (wX cI cJ adx adc adn adt ((gx.1, gx.2.1, gx.2.2.1, gx.2.2.2.1, gx.2.2.2.2.1, gx.2.2.2.2.2.1, gx.2.2.2.2.2.2.1, gx.2.2.2.2.2.2.2.1, gx.2.2.2.2.2.2.2.2.1, gx.2.2.2.2.2.2.2.2.2.1, gx.2.2.2.2.2.2.2.2.2.2.1, gx.2.2.2.2.2.2.2.2.2.2.2.1, o.2, gx.2.2.2.2.2.2.2.2.2.2.2.2.2)) ++ wCi cI adc gc ++ wSw cI cJ cZ adn gn ++ wSw cI cJ cZ adt gt)) ([.ref (adx 0), .int p1, .long p2, .long p3] : List Value).toArray s 0 0 A) (F0 m 18 ls []) := by
          intro n
          induction n with
          | zero => intro l6_18 l8_18 x12_18 H locs ls hf; cases hf
          | succ n ih18 =>
            intro l6_18 l8_18 x12_18 H locs ls hf hP hD hS hl
            replace hf : f_X2_findWays_B18 gx gc p1 p2 p3 l7_6 rec6 (f_X2_findWays_L18 gx gc p1 p2 p3 l7_6 rec6 n) l6_18 l8_18 x12_18 = some o := hf
            generalize f_X2_findWays_L18 gx gc p1 p2 p3 l7_6 rec6 n = rec18 at ih18 hf
            unfold f_X2_findWays_B18 at hf
            refine lv_iload hx hb dX2_findWays_18 (lv_at hl 6 rfl) ?_
            refine lv_aload_n hx hb dX2_findWays_20 rfl (lv_at hl 0 rfl) ?_
            refine va_get (D := D) (ci := 2) (v := .int gx.2.2.2.2.2.2.2.2.1) (C := RX2) (T := TX2) (N := 17) hx hb hts hinX2 hown hK.1 hP 0 rfl rfl 11 (by decide) hw0 (fun _ h9 => h9) rfl dX2_findWays_21 ?_
            refine lv_icmp_ge (tgt := 119) hx hb dX2_findWays_24 (by decide) (fun q2 => ?_) (fun q2 => ?_)
            · replace hf := ifT q2 hf
              refine lv_iinc (v := l7_6 + 1) (lv' := [(7, .int (l7_6 + 1)), (0, .ref (adx 0)), (1, .int p1), (2, .long p2), (4, .long p3), (6, .int l6_18), (8, .int l8_18)]) hx hb dX2_findWays_119 hl (k := 5) rfl (by rfl) (by decide) rfl (fun ls hl => ?_)
              refine lv_goto (tgt := 6) hx hb dX2_findWays_122 (by decide) ?_
              exact ih6 l6_18 (l7_6 + 1) x12_18 _ _ _ hf hP hD hS (lv_sub hl [1, 2, 3, 4, 5, 0] rfl)
            · replace hf := ifF q2 hf
              refine lv_aload_n hx hb dX2_findWays_27 rfl (lv_at hl 0 rfl) ?_
              refine va_get (D := D) (ci := 2) (v := .ref (adc 0)) (C := RX2) (T := TX2) (N := 17) hx hb hts hinX2 hown hK.1 hP 0 rfl rfl 0 (by decide) hw1 (fun _ h9 => h9) rfl dX2_findWays_28 ?_
              refine lv_iload_n hx hb dX2_findWays_31 rfl (lv_at hl 1 rfl) ?_
              replace hf := bdE hf
              obtain ⟨r3, hgr3, hf⟩ := hf
              refine xI (w2 := (wX cI cJ adx adc adn adt ((gx.1, gx.2.1, gx.2.2.1, gx.2.2.2.1, gx.2.2.2.2.1, gx.2.2.2.2.2.1, gx.2.2.2.2.2.2.1, gx.2.2.2.2.2.2.2.1, gx.2.2.2.2.2.2.2.2.1, gx.2.2.2.2.2.2.2.2.2.1, gx.2.2.2.2.2.2.2.2.2.2.1, gx.2.2.2.2.2.2.2.2.2.2.2.1, x12_18, gx.2.2.2.2.2.2.2.2.2.2.2.2.2)) ++ wCi cI adc gc ++ wSw cI cJ cZ adn gn ++ wSw cI cJ cZ adt gt)) (wr := (wX cI cJ adx adc adn adt ((gx.1, gx.2.1, gx.2.2.1, gx.2.2.2.1, gx.2.2.2.2.1, gx.2.2.2.2.2.1, gx.2.2.2.2.2.2.1, gx.2.2.2.2.2.2.2.1, gx.2.2.2.2.2.2.2.2.1, gx.2.2.2.2.2.2.2.2.2.1, gx.2.2.2.2.2.2.2.2.2.2.1, gx.2.2.2.2.2.2.2.2.2.2.2.1, x12_18, gx.2.2.2.2.2.2.2.2.2.2.2.2.2)) ++ wSw cI cJ cZ adn gn ++ wSw cI cJ cZ adt gt)) (va_runV (As := [.int p1]) (rest := []) ⟨hx, hb, hml, hown, hts⟩ (c_X0_span l D cI cJ cZ adc gc p1 r3 hgr3 _) (cwV 1 hts gX2_findWays_X0_span rfl rfl rfl (by decide +kernel) ⟨Nat.le_of_ble_eq_true rfl, Nat.le_of_ble_eq_true rfl⟩) ⟨PreW.blind, xRecv (q0 := 11) hK hP rfl rfl, (xPre hK hP hD [11, 12, 13, 14, 15, 16, 17, 18, 19, 20, 21] rfl (by decide) _)⟩ rfl rfl hl.1 rfl (lv_room (Nat.le_of_ble_eq_true rfl)) dX2_findWays_32 ⟨Nat.le_of_ble_eq_true rfl, Nat.le_of_ble_eq_true rfl⟩) hP hD hS hA [11, 12, 13, 14, 15, 16, 17, 18, 19, 20, 21] [0, 1, 2, 3, 4, 5, 6, 7, 8, 9, 10, 22, 23, 24, 25, 26, 27, 28, 29, 30, 31] [0, 1, 2, 3, 4, 5, 6, 7, 8, 9, 10, 21, 22, 23, 24, 25, 26, 27, 28, 29, 30, 31, 11, 12, 13, 14, 15, 16, 17, 18, 19, 20] rfl rfl (by decide) (by decide) rfl (by decide) (fun H locs hP hD hS => ?_)
              refine lv_aload_n hx hb dX2_findWays_35 rfl (lv_at hl 0 rfl) ?_
              refine va_get (D := D) (ci := 2) (v := .ref (adx 6)) (C := RX2) (T := TX2) (N := 17) hx hb hts hinX2 hown hK.1 hP 0 rfl rfl 10 (by decide) hw2 (fun _ h9 => h9) rfl dX2_findWays_36 ?_
              refine lv_iload hx hb dX2_findWays_39 (lv_at hl 5 rfl) ?_
              replace hf := gdE hf
              obtain ⟨h4, hf⟩ := hf
              refine va_iald hx hb hK.1 hP 6 0 rfl rfl (ib_in h4) dX2_findWays_41 ?_
              refine lv_aload_n hx hb dX2_findWays_42 rfl (lv_at hl 0 rfl) ?_
              refine va_get (D := D) (ci := 2) (v := .ref (adx 6)) (C := RX2) (T := TX2) (N := 17) hx hb hts hinX2 hown hK.1 hP 0 rfl rfl 10 (by decide) hw2 (fun _ h9 => h9) rfl dX2_findWays_43 ?_
              refine lv_iload hx hb dX2_findWays_46 (lv_at hl 6 rfl) ?_
              replace hf := gdE hf
              obtain ⟨h5, hf⟩ := hf
              refine va_iald hx hb hK.1 hP 6 0 rfl rfl (ib_in h5) dX2_findWays_48 ?_
              refine lv_iadd hx hb dX2_findWays_49 ?_
              refine lv_imul hx hb dX2_findWays_50 ?_
              refine lv_topi (fun v6 ev6 => ?_)
              replace hf := bndE hf ev6
              refine lv_istore (lv' := [(9, .int v6), (0, .ref (adx 0)), (1, .int p1), (2, .long p2), (4, .long p3), (6, .int l6_18), (7, .int l7_6), (8, .int l8_18)]) hx hb dX2_findWays_51 hl (by decide) rfl (fun ls hl => ?_)
              refine lv_aload_n hx hb dX2_findWays_53 rfl (lv_at hl 1 rfl) ?_
              refine va_get (D := D) (ci := 2) (v := .ref (adx 6)) (C := RX2) (T := TX2) (N := 17) hx hb hts hinX2 hown hK.1 hP 0 rfl rfl 10 (by decide) hw2 (fun _ h9 => h9) rfl dX2_findWays_54 ?_
              refine lv_iload hx hb dX2_findWays_57 (lv_at hl 6 rfl) ?_
              refine va_iald hx hb hK.1 hP 6 0 rfl rfl (ib_in h4) dX2_findWays_59 ?_
              refine lv_aload_n hx hb dX2_findWays_60 rfl (lv_at hl 1 rfl) ?_
              refine va_get (D := D) (ci := 2) (v := .ref (adx 6)) (C := RX2) (T := TX2) (N := 17) hx hb hts hinX2 hown hK.1 hP 0 rfl rfl 10 (by decide) hw2 (fun _ h9 => h9) rfl dX2_findWays_61 ?_
              refine lv_iload hx hb dX2_findWays_64 (lv_at hl 7 rfl) ?_
              refine va_iald hx hb hK.1 hP 6 0 rfl rfl (ib_in h5) dX2_findWays_66 ?_
              refine lv_imul hx hb dX2_findWays_67 ?_
              refine lv_topi (fun v7 ev7 => ?_)
              replace hf := bndE hf ev7
              refine lv_istore (lv' := [(10, .int v7), (9, .int v6), (0, .ref (adx 0)), (1, .int p1), (2, .long p2), (4, .long p3), (6, .int l6_18), (7, .int l7_6), (8, .int l8_18)]) hx hb dX2_findWays_68 hl (by decide) rfl (fun ls hl => ?_)
              refine lv_iload hx hb dX2_findWays_70 (lv_at hl 1 rfl) ?_
              refine lv_i2l hx hb dX2_findWays_72 rfl ?_
              refine lv_lload hx hb dX2_findWays_73 (lv_at hl 5 rfl) ?_
              refine lv_lmul hx hb dX2_findWays_75 ?_
              refine lv_lload_n hx hb dX2_findWays_76 rfl (lv_at hl 4 rfl) ?_
              refine lv_iload hx hb dX2_findWays_77 (lv_at hl 0 rfl) ?_
              refine lv_i2l hx hb dX2_findWays_79 rfl ?_
              refine lv_lmul hx hb dX2_findWays_80 ?_
              refine W.lcmp hx hb dX2_findWays_81 ?_
              have J113 : ∀ (l6_113 : Int32) (x12_113 : Ar) (H : Heap) (locs : List Loc) (ls : Array Slot), f_X2_findWays_J113 l8_18 rec18 l6_113 x12_113 = some o → va_P D vwCl (wX cI cJ adx adc adn adt ((gx.1, gx.2.1, gx.2.2.1, gx.2.2.2.1, gx.2.2.2.2.1, gx.2.2.2.2.2.1, gx.2.2.2.2.2.2.1, gx.2.2.2.2.2.2.2.1, gx.2.2.2.2.2.2.2.2.1, gx.2.2.2.2.2.2.2.2.2.1, gx.2.2.2.2.2.2.2.2.2.2.1, gx.2.2.2.2.2.2.2.2.2.2.2.1, x12_113, gx.2.2.2.2.2.2.2.2.2.2.2.2.2)) ++ wCi cI adc gc ++ wSw cI cJ cZ adn gn ++ wSw cI cJ cZ adt gt) H → va_D A (wX cI cJ adx adc adn adt ((gx.1, gx.2.1, gx.2.2.1, gx.2.2.2.1, gx.2.2.2.2.1, gx.2.2.2.2.2.1, gx.2.2.2.2.2.2.1, gx.2.2.2.2.2.2.2.1, gx.2.2.2.2.2.2.2.2.1, gx.2.2.2.2.2.2.2.2.2.1, gx.2.2.2.2.2.2.2.2.2.2.1, gx.2.2.2.2.2.2.2.2.2.2.2.1, x12_113, gx.2.2.2.2.2.2.2.2.2.2.2.2.2)) ++ wCi cI adc gc ++ wSw cI cJ cZ adn gn ++ wSw cI cJ cZ adt gt) → va_S A s.heap H locs → lv_has ls 11 [(0, .ref (adx 0)), (1, .int p1), (2, .long p2), (4, .long p3), (6, .int l6_113), (7, .int l7_6), (8, .int l8_18)] → W p l e (headSpec wsX2_findWays rmX2_findWays).room s m ([.ref (adx 0), .int p1, .long p2, .long p3] : List Value).toArray below meth c H locs 0 0 (MQ below (QI D A o.1 (wX cI cJ adx adc adn adt ((gx.1, gx.2.1, gx.2.2.1, gx.2.2.2.1, gx.2.2.2.2.1, gx.2.2.2.2.2.1, gx.2.2.2.2.2.2.1, gx.2.2.2.2.2.2.2.1, gx.2.2.2.2.2.2.2.2.1, gx.2.2.2.2.2.2.2.2.2.1, gx.2.2.2.2.2.2.2.2.2.2.1, gx.2.2.2.2.2.2.2.2.2.2.2.1, o.2, gx.2.2.2.2.2.2.2.2.2.2.2.2.2)) ++ wCi cI adc gc ++ wSw cI cJ cZ adn gn ++ wSw cI cJ cZ adt gt)) ([.ref (adx 0), .int p1, .long p2, .long p3] : List Value).toArray s 0 0 A) (F0 m 113 ls []) := by
                intro l6_113 x12_113 H locs ls hf hP hD hS hl
                unfold f_X2_findWays_J113 at hf
                refine lv_iinc (v := l8_18 + 1) (lv' := [(8, .int (l8_18 + 1)), (0, .ref (adx 0)), (1, .int p1), (2, .long p2), (4, .long p3), (6, .int l6_113), (7, .int l7_6)]) hx hb dX2_findWays_113 hl (k := 6) rfl (by rfl) (by decide) rfl (fun ls hl => ?_)
                refine lv_goto (tgt := 18) hx hb dX2_findWays_116 (by decide) ?_
                exact ih18 l6_113 (l8_18 + 1) x12_113 _ _ _ hf hP hD hS (lv_sub hl [1, 2, 3, 4, 5, 6, 0] rfl)
              refine lv_if_ne (tgt := 113) hx hb dX2_findWays_82 (by decide) (fun q8 => ?_) (fun q8 => ?_)
              · replace hf := ifT q8 hf
                exact J113 l6_18 x12_18 _ _ _ hf hP hD hS (lv_sub hl [2, 3, 4, 5, 6, 7, 8] rfl)
              · replace hf := ifN q8 hf
                refine lv_aload_n hx hb dX2_findWays_85 rfl (lv_at hl 2 rfl) ?_
                refine va_get (D := D) (ci := 2) (v := .ref (adx 9)) (C := RX2) (T := TX2) (N := 17) hx hb hts hinX2 hown hK.1 hP 0 rfl rfl 15 (by decide) hw3 (fun _ h9 => h9) rfl dX2_findWays_86 ?_
                refine lv_iload hx hb dX2_findWays_89 (lv_at hl 6 rfl) ?_
                refine lv_aload_n hx hb dX2_findWays_91 rfl (lv_at hl 2 rfl) ?_
                refine va_get (D := D) (ci := 2) (v := .ref (adx 6)) (C := RX2) (T := TX2) (N := 17) hx hb hts hinX2 hown hK.1 hP 0 rfl rfl 10 (by decide) hw2 (fun _ h9 => h9) rfl dX2_findWays_92 ?_
                refine lv_iload hx hb dX2_findWays_95 (lv_at hl 7 rfl) ?_
                refine va_iald hx hb hK.1 hP 6 0 rfl rfl (ib_in h4) dX2_findWays_97 ?_
                refine lv_bipush (v := 100) hx hb dX2_findWays_98 (by decide) ?_
                refine lv_imul hx hb dX2_findWays_100 ?_
                refine lv_aload_n hx hb dX2_findWays_101 rfl (lv_at hl 2 rfl) ?_
                refine va_get (D := D) (ci := 2) (v := .ref (adx 6)) (C := RX2) (T := TX2) (N := 17) hx hb hts hinX2 hown hK.1 hP 0 rfl rfl 10 (by decide) hw2 (fun _ h9 => h9) rfl dX2_findWays_102 ?_
                refine lv_iload hx hb dX2_findWays_105 (lv_at hl 8 rfl) ?_
                refine va_iald hx hb hK.1 hP 6 0 rfl rfl (ib_in h5) dX2_findWays_107 ?_
                refine lv_iadd hx hb dX2_findWays_108 ?_
                refine lv_topi (fun v9 ev9 => ?_)
                replace hf := bndE hf ev9
                replace hf := gdE hf
                obtain ⟨h10, hf⟩ := hf
                refine va_iast hx hb hK.1 hP hD hS 9 0 rfl rfl (ib_in h10) dX2_findWays_109 (fun H locs hP hD hS => ?_)
                replace hP : va_P D vwCl (wX cI cJ adx adc adn adt ((gx.1, gx.2.1, gx.2.2.1, gx.2.2.2.1, gx.2.2.2.2.1, gx.2.2.2.2.2.1, gx.2.2.2.2.2.2.1, gx.2.2.2.2.2.2.2.1, gx.2.2.2.2.2.2.2.2.1, gx.2.2.2.2.2.2.2.2.2.1, gx.2.2.2.2.2.2.2.2.2.2.1, gx.2.2.2.2.2.2.2.2.2.2.2.1, upd x12_18 l6_18.toNatClampNeg v9, gx.2.2.2.2.2.2.2.2.2.2.2.2.2)) ++ wCi cI adc gc ++ wSw cI cJ cZ adn gn ++ wSw cI cJ cZ adt gt) H := hP
                replace hD : va_D A (wX cI cJ adx adc adn adt ((gx.1, gx.2.1, gx.2.2.1, gx.2.2.2.1, gx.2.2.2.2.1, gx.2.2.2.2.2.1, gx.2.2.2.2.2.2.1, gx.2.2.2.2.2.2.2.1, gx.2.2.2.2.2.2.2.2.1, gx.2.2.2.2.2.2.2.2.2.1, gx.2.2.2.2.2.2.2.2.2.2.1, gx.2.2.2.2.2.2.2.2.2.2.2.1, upd x12_18 l6_18.toNatClampNeg v9, gx.2.2.2.2.2.2.2.2.2.2.2.2.2)) ++ wCi cI adc gc ++ wSw cI cJ cZ adn gn ++ wSw cI cJ cZ adt gt) := hD
                refine lv_iinc (v := l6_18 + 1) (lv' := [(6, .int (l6_18 + 1)), (10, .int v7), (9, .int v6), (0, .ref (adx 0)), (1, .int p1), (2, .long p2), (4, .long p3), (7, .int l7_6), (8, .int l8_18)]) hx hb dX2_findWays_110 hl (k := 6) rfl (by rfl) (by decide) rfl (fun ls hl => ?_)
                exact J113 (l6_18 + 1) (upd x12_18 l6_18.toNatClampNeg v9) _ _ _ hf hP hD hS (lv_sub hl [3, 4, 5, 6, 0, 7, 8] rfl)
        exact L18 fuel l6_6 0 x12_6 _ _ _ hf hP hD hS (lv_sub hl [1, 2, 3, 4, 5, 6, 0] rfl)
  exact L6 fuel 0 0 gx.2.2.2.2.2.2.2.2.2.2.2.2.1 _ _ _ hf hP hD hS (lv_sub hl [2, 3, 4, 5, 1, 0] rfl)

def f_X2_isMeasure (gx : Xo) (p1 : Int32) (p2 : Int64) (p3 : Int64) : Option Bool :=
(f_X2_betweenNum p2 p3).bind (fun r1 =>
gd (ib p1 8) (
(f_X2_betweenDen p2 p3).bind (fun r3 =>
if ¬ (lg_cmp (r1 * ((gx.2.2.2.2.2.2.2.2.2.2.1 p1.toNatClampNeg).toInt64)) (((gx.2.2.2.2.2.2.2.2.2.1 p1.toNatClampNeg).toInt64) * r3)) = 0 then
some false
else
some true)))
abbrev rmX2_isMeasure : Room := { frames := 2, cells := 0, slots := 0, locals := 44 }
set_option maxHeartbeats 40000000 in
set_option maxRecDepth 100000 in
theorem c_X2_isMeasure (l : Launch) (D : va_G) (cI cJ cZ : ClassId) (adx : Nat → Nat) (adc : Nat → Nat) (adn : Nat → Nat) (adt : Nat → Nat) (gx : Xo) (gc : Ci) (gn : Sw) (gt : Sw) (p1 : Int32) (p2 : Int64) (p3 : Int64) (o : Bool) (hf : f_X2_isMeasure gx p1 p2 p3 = some o) : CtI l yX2_isMeasure wsX2_isMeasure rmX2_isMeasure D cI cJ cZ [.ref (adx 0), .int p1, .long p2, .long p3] (wX cI cJ adx adc adn adt gx ++ wCi cI adc gc ++ wSw cI cJ cZ adn gn ++ wSw cI cJ cZ adt gt) (wX cI cJ adx adc adn adt gx ++ wCi cI adc gc ++ wSw cI cJ cZ adn gn ++ wSw cI cJ cZ adt gt) (b2i o) := by
  intro sz
  refine Met.ofW (cc := cX2_isMeasure) (maxL := 6) (ret := (some .boolean)) (by decide) rfl ?_
  intro p e s m args below meth c s₁ B hml hv
  obtain ⟨rfl, hsz, hP, hK, hD0⟩ := hv
  have hx := B.exec
  have hb := B.bytes
  have hr := B.returns
  have hts := atoms_spec (ws := wsX2_isMeasure) B.pre
  have hown : s.vm.findClass RX2 = some m.cls := findClass_of_methodNamed B.named
  have hlocks := B.notSynchronized
  subst hsz
  have hD := hD0.self (sz := s.heap.size)
  clear hD0
  generalize hAe : va_A (wX cI cJ adx adc adn adt gx ++ wCi cI adc gc ++ wSw cI cJ cZ adn gn ++ wSw cI cJ cZ adt gt) s.heap.size = A at hD ⊢
  have hA : ∀ q : Nat, s.heap.size ≤ q → A q := fun q h => by rw [← hAe]; exact Or.inr h
  have hS : va_S A s.heap s.heap [] := va_S.rf
  have hinX2 : ∀ w ∈ wsX20, w ∈ wsX2_isMeasure := by decide +kernel
  have hw0 : (Cond.fieldLink RX2 60 "SwingCircuits" "measuredDen" "[I").before _ s = true := hts _ (by decide +kernel)
  have hw1 : (Cond.fieldLink RX2 57 "SwingCircuits" "measuredNum" "[I").before _ s = true := hts _ (by decide +kernel)
  have hl := lv_entry ([.ref (adx 0), .int p1, .long p2, .long p3]) (n := 6) (Nat.le_of_ble_eq_true rfl)
  rw [lg_entry_eq]
  generalize (lg_sl ([.ref (adx 0), .int p1, .long p2, .long p3]) ++ List.replicate (6 - (lg_sl ([.ref (adx 0), .int p1, .long p2, .long p3])).length) Slot.unset).toArray = ls at hl ⊢
  replace hl : lv_has ls 6 [(0, .ref (adx 0)), (1, .int p1), (2, .long p2), (4, .long p3)] := hl
  unfold f_X2_isMeasure at hf
  refine lv_lload_n hx hb dX2_isMeasure_0 rfl (lv_at hl 2 rfl) ?_
  refine lv_lload hx hb dX2_isMeasure_1 (lv_at hl 3 rfl) ?_
  replace hf := bdE hf
  obtain ⟨r1, hgr1, hf⟩ := hf
  refine xL0 (va_runS (As := [.long p2, .long p3]) (rest := []) ⟨hx, hb, hml, hown, hts⟩ (c_X2_betweenNum l D cI cJ cZ p2 p3 r1 hgr1 _) (va_cwS 2 hts gX2_isMeasure_X2_betweenNum rfl rfl rfl (by decide +kernel) ⟨Nat.le_of_ble_eq_true rfl, Nat.le_of_ble_eq_true rfl⟩) ⟨PreW.blind, (xPre0 hK _)⟩ rfl rfl hl.1 rfl (lv_room (Nat.le_of_ble_eq_true rfl)) dX2_isMeasure_3 ⟨Nat.le_of_ble_eq_true rfl, Nat.le_of_ble_eq_true rfl⟩) hP hS hA (fun H locs hP hS => ?_)
  refine lv_aload_n hx hb dX2_isMeasure_6 rfl (lv_at hl 0 rfl) ?_
  refine va_get (D := D) (ci := 2) (v := .ref (adx 8)) (C := RX2) (T := TX2) (N := 17) hx hb hts hinX2 hown hK.1 hP 0 rfl rfl 13 (by decide) hw0 (fun _ h9 => h9) rfl dX2_isMeasure_7 ?_
  refine lv_iload_n hx hb dX2_isMeasure_10 rfl (lv_at hl 1 rfl) ?_
  replace hf := gdE hf
  obtain ⟨h2, hf⟩ := hf
  refine va_iald hx hb hK.1 hP 8 0 rfl rfl (ib_in h2) dX2_isMeasure_11 ?_
  refine lv_i2l hx hb dX2_isMeasure_12 rfl ?_
  refine lv_lmul hx hb dX2_isMeasure_13 ?_
  refine lv_aload_n hx hb dX2_isMeasure_14 rfl (lv_at hl 0 rfl) ?_
  refine va_get (D := D) (ci := 2) (v := .ref (adx 7)) (C := RX2) (T := TX2) (N := 17) hx hb hts hinX2 hown hK.1 hP 0 rfl rfl 12 (by decide) hw1 (fun _ h9 => h9) rfl dX2_isMeasure_15 ?_
  refine lv_iload_n hx hb dX2_isMeasure_18 rfl (lv_at hl 1 rfl) ?_
  refine va_iald hx hb hK.1 hP 7 0 rfl rfl (ib_in h2) dX2_isMeasure_19 ?_
  refine lv_i2l hx hb dX2_isMeasure_20 rfl ?_
  refine lv_lload_n hx hb dX2_isMeasure_21 rfl (lv_at hl 2 rfl) ?_
  refine lv_lload hx hb dX2_isMeasure_22 (lv_at hl 3 rfl) ?_
  replace hf := bdE hf
  obtain ⟨r3, hgr3, hf⟩ := hf
  refine xL0 (va_runS (As := [.long p2, .long p3]) (rest := [.long ((gx.2.2.2.2.2.2.2.2.2.1 p1.toNatClampNeg).toInt64), .long (r1 * ((gx.2.2.2.2.2.2.2.2.2.2.1 p1.toNatClampNeg).toInt64))]) ⟨hx, hb, hml, hown, hts⟩ (c_X2_betweenDen l D cI cJ cZ p2 p3 r3 hgr3 _) (va_cwS 2 hts gX2_isMeasure_X2_betweenDen rfl rfl rfl (by decide +kernel) ⟨Nat.le_of_ble_eq_true rfl, Nat.le_of_ble_eq_true rfl⟩) ⟨PreW.blind, (xPre0 hK _)⟩ rfl rfl hl.1 rfl (lv_room (Nat.le_of_ble_eq_true rfl)) dX2_isMeasure_24 ⟨Nat.le_of_ble_eq_true rfl, Nat.le_of_ble_eq_true rfl⟩) hP hS hA (fun H locs hP hS => ?_)
  refine lv_lmul hx hb dX2_isMeasure_27 ?_
  refine W.lcmp hx hb dX2_isMeasure_28 ?_
  refine lv_if_ne (tgt := 36) hx hb dX2_isMeasure_29 (by decide) (fun q4 => ?_) (fun q4 => ?_)
  · replace hf := ifT q4 hf
    refine lv_iconst (v := 0) hx hb dX2_isMeasure_36 (by decide) ?_
    obtain rfl := Option.some.inj hf
    exact retZ false rfl hx hb hr hlocks hP hD hS dX2_isMeasure_37
  · replace hf := ifN q4 hf
    refine lv_iconst (v := 1) hx hb dX2_isMeasure_32 (by decide) ?_
    refine lv_goto (tgt := 37) hx hb dX2_isMeasure_33 (by decide) ?_
    obtain rfl := Option.some.inj hf
    exact retZ true rfl hx hb hr hlocks hP hD hS dX2_isMeasure_37

def f_X2_isMeasuredSo_J116 (l5_27 : Int32) (rec27 : (Int32 → Int64 → Int32 → Int64 → Int64 → Al → Al → Ar → Ar → Int32 → Int32 → Int64 → Int64 → Option (Bool × Int64 × Int64 × Al × Al × Ar × Ar × Int32 × Int32 × Int64 × Int64))) (r4 : (Bool × Int64 × Int64 × Al × Al × Ar × Ar × Int32 × Int32 × Int64 × Int64)) (l2_116 : Int32) (l3_116 : Int64) : Option (Bool × Int64 × Int64 × Al × Al × Ar × Ar × Int32 × Int32 × Int64 × Int64) :=
rec27 l2_116 l3_116 (l5_27 + 1) r4.2.1 r4.2.2.1 r4.2.2.2.1 r4.2.2.2.2.1 r4.2.2.2.2.2.1 r4.2.2.2.2.2.2.1 r4.2.2.2.2.2.2.2.1 r4.2.2.2.2.2.2.2.2.1 r4.2.2.2.2.2.2.2.2.2.1 r4.2.2.2.2.2.2.2.2.2.2
def f_X2_isMeasuredSo_J100 (gx : Xo) (l2_27 : Int32) (l5_27 : Int32) (rec27 : (Int32 → Int64 → Int32 → Int64 → Int64 → Al → Al → Ar → Ar → Int32 → Int32 → Int64 → Int64 → Option (Bool × Int64 × Int64 × Al × Al × Ar × Ar × Int32 × Int32 × Int64 × Int64))) (r4 : (Bool × Int64 × Int64 × Al × Al × Ar × Ar × Int32 × Int32 × Int64 × Int64)) (r8 : Int64)  : Option (Bool × Int64 × Int64 × Al × Al × Ar × Ar × Int32 × Int32 × Int64 × Int64) :=
if ¬ l2_27 = gx.2.2.2.2.2.2.2.2.2.2.2.1 then
f_X2_isMeasuredSo_J116 l5_27 rec27 r4 (l2_27 + 1) r8
else
some (true, r4.2.1, r4.2.2.1, r4.2.2.2.1, r4.2.2.2.2.1, r4.2.2.2.2.2.1, r4.2.2.2.2.2.2.1, r4.2.2.2.2.2.2.2.1, r4.2.2.2.2.2.2.2.2.1, r4.2.2.2.2.2.2.2.2.2.1, r4.2.2.2.2.2.2.2.2.2.2)
def f_X2_isMeasuredSo_B27 (gx : Xo) (gc : Ci) (p1 : Int32) (rec27 : Int32 → Int64 → Int32 → Int64 → Int64 → Al → Al → Ar → Ar → Int32 → Int32 → Int64 → Int64 → Option (Bool × Int64 × Int64 × Al × Al × Ar × Ar × Int32 × Int32 × Int64 × Int64)) (l2_27 : Int32) (l3_27 : Int64) (l5_27 : Int32) (t0_27 : Int64) (t1_27 : Int64) (t2_27 : Al) (t3_27 : Al) (t4_27 : Ar) (t5_27 : Ar) (t6_27 : Int32) (t7_27 : Int32) (t8_27 : Int64) (t9_27 : Int64) : Option (Bool × Int64 × Int64 × Al × Al × Ar × Ar × Int32 × Int32 × Int64 × Int64) :=
if (400 : Int32) ≤ l5_27 then
some (false, t0_27, t1_27, t2_27, t3_27, t4_27, t5_27, t6_27, t7_27, t8_27, t9_27)
else
(f_X1_advance ((t0_27, t1_27, t2_27, t3_27, t4_27, t5_27, t6_27, t7_27, t8_27, t9_27)) gc).bind (fun r4 =>
if ¬ (b2i r4.1) = 0 then
if ¬ r4.2.2.2.2.2.2.2.1 = p1 then
f_X2_isMeasuredSo_J116 l5_27 rec27 r4 l2_27 l3_27
else
if ¬ r4.2.2.2.2.2.2.2.2.1 = 0 then
f_X2_isMeasuredSo_J116 l5_27 rec27 r4 l2_27 l3_27
else
(f_X1_packedEvent r4.2).bind (fun r8 =>
if l2_27 ≤ 0 then
f_X2_isMeasuredSo_J100 gx l2_27 l5_27 rec27 r4 r8
else
(f_X2_isMeasure gx (l2_27 - 1) l3_27 r8).bind (fun r11 =>
if ¬ (b2i r11) = 0 then
f_X2_isMeasuredSo_J100 gx l2_27 l5_27 rec27 r4 r8
else
some (false, r4.2.1, r4.2.2.1, r4.2.2.2.1, r4.2.2.2.2.1, r4.2.2.2.2.2.1, r4.2.2.2.2.2.2.1, r4.2.2.2.2.2.2.2.1, r4.2.2.2.2.2.2.2.2.1, r4.2.2.2.2.2.2.2.2.2.1, r4.2.2.2.2.2.2.2.2.2.2)))
else
some (false, r4.2.1, r4.2.2.1, r4.2.2.2.1, r4.2.2.2.2.1, r4.2.2.2.2.2.1, r4.2.2.2.2.2.2.1, r4.2.2.2.2.2.2.2.1, r4.2.2.2.2.2.2.2.2.1, r4.2.2.2.2.2.2.2.2.2.1, r4.2.2.2.2.2.2.2.2.2.2))
def f_X2_isMeasuredSo_L27 (gx : Xo) (gc : Ci) (p1 : Int32) : Nat → Int32 → Int64 → Int32 → Int64 → Int64 → Al → Al → Ar → Ar → Int32 → Int32 → Int64 → Int64 → Option (Bool × Int64 × Int64 × Al × Al × Ar × Ar × Int32 × Int32 × Int64 × Int64)
  | 0 => fun _ _ _ _ _ _ _ _ _ _ _ _ _ => none
  | n + 1 => f_X2_isMeasuredSo_B27 gx gc p1 (f_X2_isMeasuredSo_L27 gx gc p1 n)
def f_X2_isMeasuredSo (gx : Xo) (gc : Ci) (gt : Sw) (p1 : Int32) : Option (Bool × Int64 × Int64 × Al × Al × Ar × Ar × Int32 × Int32 × Int64 × Int64) :=
if ¬ gx.2.2.2.2.2.2.2.2.2.2.2.1 = 0 then
(f_X1_restart gt gc).bind (fun r2 =>
f_X2_isMeasuredSo_L27 gx gc p1 fuel 0 0 0 r2.1 r2.2.1 r2.2.2.1 r2.2.2.2.1 r2.2.2.2.2.1 r2.2.2.2.2.2 gt.2.2.2.2.2.2.1 gt.2.2.2.2.2.2.2.1 gt.2.2.2.2.2.2.2.2.1 gt.2.2.2.2.2.2.2.2.2)
else
some (true, gt.1, gt.2.1, gt.2.2.1, gt.2.2.2.1, gt.2.2.2.2.1, gt.2.2.2.2.2.1, gt.2.2.2.2.2.2.1, gt.2.2.2.2.2.2.2.1, gt.2.2.2.2.2.2.2.2.1, gt.2.2.2.2.2.2.2.2.2)
abbrev rmX2_isMeasuredSo : Room := { frames := 4, cells := 0, slots := 0, locals := 88 }
set_option maxHeartbeats 40000000 in
set_option maxRecDepth 100000 in
theorem c_X2_isMeasuredSo (l : Launch) (D : va_G) (cI cJ cZ : ClassId) (adx : Nat → Nat) (adc : Nat → Nat) (adn : Nat → Nat) (adt : Nat → Nat) (gx : Xo) (gc : Ci) (gn : Sw) (gt : Sw) (p1 : Int32) (o : (Bool × Int64 × Int64 × Al × Al × Ar × Ar × Int32 × Int32 × Int64 × Int64)) (hf : f_X2_isMeasuredSo gx gc gt p1 = some o) : CtI l yX2_isMeasuredSo wsX2_isMeasuredSo rmX2_isMeasuredSo D cI cJ cZ [.ref (adx 0), .int p1] (wX cI cJ adx adc adn adt gx ++ wCi cI adc gc ++ wSw cI cJ cZ adn gn ++ wSw cI cJ cZ adt gt) (wX cI cJ adx adc adn adt gx ++ wCi cI adc gc ++ wSw cI cJ cZ adn gn ++ wSw cI cJ cZ adt o.2) (b2i o.1) := by
  intro sz
  refine Met.ofW (cc := cX2_isMeasuredSo) (maxL := 8) (ret := (some .boolean)) (by decide) rfl ?_
  intro p e s m args below meth c s₁ B hml hv
  obtain ⟨rfl, hsz, hP, hK, hD0⟩ := hv
  have hx := B.exec
  have hb := B.bytes
  have hr := B.returns
  have hts := atoms_spec (ws := wsX2_isMeasuredSo) B.pre
  have hown : s.vm.findClass RX2 = some m.cls := findClass_of_methodNamed B.named
  have hlocks := B.notSynchronized
  subst hsz
  have hD := hD0.self (sz := s.heap.size)
  clear hD0
  generalize hAe : va_A (wX cI cJ adx adc adn adt gx ++ wCi cI adc gc ++ wSw cI cJ cZ adn gn ++ wSw cI cJ cZ adt gt) s.heap.size = A at hD ⊢
  have hA : ∀ q : Nat, s.heap.size ≤ q → A q := fun q h => by rw [← hAe]; exact Or.inr h
  have hS : va_S A s.heap s.heap [] := va_S.rf
  have hinX1 : ∀ w ∈ wsX10, w ∈ wsX2_isMeasuredSo := by decide +kernel
  have hinX2 : ∀ w ∈ wsX20, w ∈ wsX2_isMeasuredSo := by decide +kernel
  have hw0 : (Cond.fieldLink RX2 63 "SwingCircuits" "measures" "I").before _ s = true := hts _ (by decide +kernel)
  have hw1 : (Cond.fieldLink RX2 23 "SwingCircuits" "trial" "LSwingCircuits$Swing;").before _ s = true := hts _ (by decide +kernel)
  have hw2 : (Cond.fieldLink RX2 12 "SwingCircuits" "circuit" "LSwingCircuits$Circuit;").before _ s = true := hts _ (by decide +kernel)
  have hw3 : (Cond.fieldLink RX2 237 "SwingCircuits$Swing" "turned" "I").before _ s = true := hts _ (by decide +kernel)
  have hw4 : (Cond.fieldLink RX2 234 "SwingCircuits$Swing" "side" "I").before _ s = true := hts _ (by decide +kernel)
  have hl := lv_entry ([.ref (adx 0), .int p1]) (n := 8) (Nat.le_of_ble_eq_true rfl)
  rw [lg_entry_eq]
  generalize (lg_sl ([.ref (adx 0), .int p1]) ++ List.replicate (8 - (lg_sl ([.ref (adx 0), .int p1])).length) Slot.unset).toArray = ls at hl ⊢
  replace hl : lv_has ls 8 [(0, .ref (adx 0)), (1, .int p1)] := hl
  unfold f_X2_isMeasuredSo at hf
  refine lv_aload_n hx hb dX2_isMeasuredSo_0 rfl (lv_at hl 0 rfl) ?_
  refine va_get (D := D) (ci := 2) (v := .int gx.2.2.2.2.2.2.2.2.2.2.2.1) (C := RX2) (T := TX2) (N := 17) hx hb hts hinX2 hown hK.1 hP 0 rfl rfl 14 (by decide) hw0 (fun _ h9 => h9) rfl dX2_isMeasuredSo_1 ?_
  refine lv_if_ne (tgt := 9) hx hb dX2_isMeasuredSo_4 (by decide) (fun q1 => ?_) (fun q1 => ?_)
  · replace hf := ifT q1 hf
    refine lv_aload_n hx hb dX2_isMeasuredSo_9 rfl (lv_at hl 0 rfl) ?_
    refine va_get (D := D) (ci := 2) (v := .ref (adt 0)) (C := RX2) (T := TX2) (N := 17) hx hb hts hinX2 hown hK.1 hP 0 rfl rfl 2 (by decide) hw1 (fun _ h9 => h9) rfl dX2_isMeasuredSo_10 ?_
    refine lv_aload_n hx hb dX2_isMeasuredSo_13 rfl (lv_at hl 0 rfl) ?_
    refine va_get (D := D) (ci := 2) (v := .ref (adc 0)) (C := RX2) (T := TX2) (N := 17) hx hb hts hinX2 hown hK.1 hP 0 rfl rfl 0 (by decide) hw2 (fun _ h9 => h9) rfl dX2_isMeasuredSo_14 ?_
    replace hf := bdE hf
    obtain ⟨r2, hgr2, hf⟩ := hf
    refine xV (w2 := (wX cI cJ adx adc adn adt gx ++ wCi cI adc gc ++ wSw cI cJ cZ adn gn ++ wSw cI cJ cZ adt ((r2.1, r2.2.1, r2.2.2.1, r2.2.2.2.1, r2.2.2.2.2.1, r2.2.2.2.2.2, gt.2.2.2.2.2.2)))) (wr := (wX cI cJ adx adc adn adt gx ++ wSw cI cJ cZ adn gn)) (va_runV (As := [.ref (adc 0)]) (rest := []) ⟨hx, hb, hml, hown, hts⟩ (c_X1_restart l D cI cJ cZ adt adc gt gc r2 hgr2 _) (cwV 1 hts gX2_isMeasuredSo_X1_restart rfl rfl rfl (by decide +kernel) ⟨Nat.le_of_ble_eq_true rfl, Nat.le_of_ble_eq_true rfl⟩) ⟨PreW.blind, xRecv (q0 := 27) hK hP rfl rfl, (xPre hK hP hD [27, 28, 29, 30, 31, 11, 12, 13, 14, 15, 16, 17, 18, 19, 20, 21] rfl (by decide) _)⟩ rfl rfl hl.1 rfl (lv_room (Nat.le_of_ble_eq_true rfl)) dX2_isMeasuredSo_17 ⟨Nat.le_of_ble_eq_true rfl, Nat.le_of_ble_eq_true rfl⟩) hP hD hS hA [27, 28, 29, 30, 31, 11, 12, 13, 14, 15, 16, 17, 18, 19, 20, 21] [0, 1, 2, 3, 4, 5, 6, 7, 8, 9, 10, 22, 23, 24, 25, 26] [0, 1, 2, 3, 4, 5, 6, 7, 8, 9, 10, 21, 22, 23, 24, 25, 26, 27, 28, 29, 30, 31, 11, 12, 13, 14, 15, 16, 17, 18, 19, 20] rfl rfl (by decide) (by decide) rfl (by decide) (fun H locs hP hD hS => ?_)
    refine lv_iconst (v := 0) hx hb dX2_isMeasuredSo_20 (by decide) ?_
    refine lv_istore_n (lv' := [(2, .int 0), (0, .ref (adx 0)), (1, .int p1)]) hx hb dX2_isMeasuredSo_21 rfl hl (by decide) rfl (fun ls hl => ?_)
    refine lv_lconst (v := 0) hx hb dX2_isMeasuredSo_22 (by decide) ?_
    refine lv_lstore_n (lv' := [(3, .long 0), (2, .int 0), (0, .ref (adx 0)), (1, .int p1)]) hx hb dX2_isMeasuredSo_23 rfl hl (by decide) rfl (fun ls hl => ?_)
    refine lv_iconst (v := 0) hx hb dX2_isMeasuredSo_24 (by decide) ?_
    refine lv_istore (lv' := [(5, .int 0), (3, .long 0), (2, .int 0), (0, .ref (adx 0)), (1, .int p1)]) hx hb dX2_isMeasuredSo_25 hl (by decide) rfl (fun ls hl => ?_)
    have L27 : ∀ (n : Nat) (l2_27 : Int32) (l3_27 : Int64) (l5_27 : Int32) (t0_27 : Int64) (t1_27 : Int64) (t2_27 : Al) (t3_27 : Al) (t4_27 : Ar) (t5_27 : Ar) (t6_27 : Int32) (t7_27 : Int32) (t8_27 : Int64) (t9_27 : Int64) (H : Heap) (locs : List Loc) (ls : Array Slot), f_X2_isMeasuredSo_L27 gx gc p1 n l2_27 l3_27 l5_27 t0_27 t1_27 t2_27 t3_27 t4_27 t5_27 t6_27 t7_27 t8_27 t9_27 = some o → va_P D vwCl (wX cI cJ adx adc adn adt gx ++ wCi cI adc gc ++ wSw cI cJ cZ adn gn ++ wSw cI cJ cZ adt ((t0_27, t1_27, t2_27, t3_27, t4_27, t5_27, t6_27, t7_27, t8_27, t9_27))) H → va_D A (wX cI cJ adx adc adn adt gx ++ wCi cI adc gc ++ wSw cI cJ cZ adn gn ++ wSw cI cJ cZ adt ((t0_27, t1_27, t2_27, t3_27, t4_27, t5_27, t6_27, t7_27, t8_27, t9_27))) → va_S A s.heap H locs → lv_has ls 8 [(0, .ref (adx 0)), (1, .int p1), (2, .int l2_27), (3, .long l3_27), (5, .int l5_27)] → W p l e (headSpec wsX2_isMeasuredSo rmX2_isMeasuredSo).room s m ([.ref (adx 0), .int p1] : List Value).toArray below meth c H locs 0 0 (MQ below (QI D A (b2i o.1) (wX cI cJ adx adc adn adt gx ++ wCi cI adc gc ++ wSw cI cJ cZ adn gn ++ wSw cI cJ cZ adt o.2)) ([.ref (adx 0), .int p1] : List Value).toArray s 0 0 A) (F0 m 27 ls []) := by
      intro n
      induction n with
      | zero => intro l2_27 l3_27 l5_27 t0_27 t1_27 t2_27 t3_27 t4_27 t5_27 t6_27 t7_27 t8_27 t9_27 H locs ls hf; cases hf
      | succ n ih27 =>
        intro l2_27 l3_27 l5_27 t0_27 t1_27 t2_27 t3_27 t4_27 t5_27 t6_27 t7_27 t8_27 t9_27 H locs ls hf hP hD hS hl
        replace hf : f_X2_isMeasuredSo_B27 gx gc p1 (f_X2_isMeasuredSo_L27 gx gc p1 n) l2_27 l3_27 l5_27 t0_27 t1_27 t2_27 t3_27 t4_27 t5_27 t6_27 t7_27 t8_27 t9_27 = some o := hf
        generalize f_X2_isMeasuredSo_L27 gx gc p1 n = rec27 at ih27 hf
        unfold f_X2_isMeasuredSo_B27 at hf
        refine lv_iload hx hb dX2_isMeasuredSo_27 (lv_at hl 4 rfl) ?_
        refine lv_sipush (v := 400) hx hb dX2_isMeasuredSo_29 (by decide) ?_
        refine lv_icmp_ge (tgt := 122) hx hb dX2_isMeasuredSo_32 (by decide) (fun q3 => ?_) (fun q3 => ?_)
        · replace hf := ifT q3 hf
          refine lv_iconst (v := 0) hx hb dX2_isMeasuredSo_122 (by decide) ?_
          obtain rfl := Option.some.inj hf
          exact retZ false rfl hx hb hr hlocks hP hD hS dX2_isMeasuredSo_123
        · replace hf := ifF q3 hf
          refine lv_aload_n hx hb dX2_isMeasuredSo_35 rfl (lv_at hl 0 rfl) ?_
          refine va_get (D := D) (ci := 2) (v := .ref (adt 0)) (C := RX2) (T := TX2) (N := 17) hx hb hts hinX2 hown hK.1 hP 0 rfl rfl 2 (by decide) hw1 (fun _ h9 => h9) rfl dX2_isMeasuredSo_36 ?_
          refine lv_aload_n hx hb dX2_isMeasuredSo_39 rfl (lv_at hl 0 rfl) ?_
          refine va_get (D := D) (ci := 2) (v := .ref (adc 0)) (C := RX2) (T := TX2) (N := 17) hx hb hts hinX2 hown hK.1 hP 0 rfl rfl 0 (by decide) hw2 (fun _ h9 => h9) rfl dX2_isMeasuredSo_40 ?_
          replace hf := bdE hf
          obtain ⟨r4, hgr4, hf⟩ := hf
          refine xI (w2 := (wX cI cJ adx adc adn adt gx ++ wCi cI adc gc ++ wSw cI cJ cZ adn gn ++ wSw cI cJ cZ adt r4.2)) (wr := (wX cI cJ adx adc adn adt gx ++ wSw cI cJ cZ adn gn)) (va_runV (As := [.ref (adc 0)]) (rest := []) ⟨hx, hb, hml, hown, hts⟩ (c_X1_advance l D cI cJ cZ adt adc ((t0_27, t1_27, t2_27, t3_27, t4_27, t5_27, t6_27, t7_27, t8_27, t9_27)) gc r4 hgr4 _) (cwV 1 hts gX2_isMeasuredSo_X1_advance rfl rfl rfl (by decide +kernel) ⟨Nat.le_of_ble_eq_true rfl, Nat.le_of_ble_eq_true rfl⟩) ⟨PreW.blind, xRecv (q0 := 27) hK hP rfl rfl, (xPre hK hP hD [27, 28, 29, 30, 31, 11, 12, 13, 14, 15, 16, 17, 18, 19, 20, 21] rfl (by decide) _)⟩ rfl rfl hl.1 rfl (lv_room (Nat.le_of_ble_eq_true rfl)) dX2_isMeasuredSo_43 ⟨Nat.le_of_ble_eq_true rfl, Nat.le_of_ble_eq_true rfl⟩) hP hD hS hA [27, 28, 29, 30, 31, 11, 12, 13, 14, 15, 16, 17, 18, 19, 20, 21] [0, 1, 2, 3, 4, 5, 6, 7, 8, 9, 10, 22, 23, 24, 25, 26] [0, 1, 2, 3, 4, 5, 6, 7, 8, 9, 10, 21, 22, 23, 24, 25, 26, 27, 28, 29, 30, 31, 11, 12, 13, 14, 15, 16, 17, 18, 19, 20] rfl rfl (by decide) (by decide) rfl (by decide) (fun H locs hP hD hS => ?_)
          refine lv_if_ne (tgt := 51) hx hb dX2_isMeasuredSo_46 (by decide) (fun q5 => ?_) (fun q5 => ?_)
          · replace hf := ifT q5 hf
            refine lv_aload_n hx hb dX2_isMeasuredSo_51 rfl (lv_at hl 0 rfl) ?_
            refine va_get (D := D) (ci := 2) (v := .ref (adt 0)) (C := RX2) (T := TX2) (N := 17) hx hb hts hinX2 hown hK.1 hP 0 rfl rfl 2 (by decide) hw1 (fun _ h9 => h9) rfl dX2_isMeasuredSo_52 ?_
            refine va_get (D := D) (ci := 1) (v := .int r4.2.2.2.2.2.2.2.1) (C := RX1) (T := TX1) (N := 10) hx hb hts hinX1 hown hK.1 hP 27 rfl rfl 6 (by decide) hw3 (fun _ h9 => h9) rfl dX2_isMeasuredSo_55 ?_
            refine lv_iload_n hx hb dX2_isMeasuredSo_58 rfl (lv_at hl 1 rfl) ?_
            have J116 : ∀ (l2_116 : Int32) (l3_116 : Int64) (H : Heap) (locs : List Loc) (ls : Array Slot), f_X2_isMeasuredSo_J116 l5_27 rec27 r4 l2_116 l3_116 = some o → va_P D vwCl (wX cI cJ adx adc adn adt gx ++ wCi cI adc gc ++ wSw cI cJ cZ adn gn ++ wSw cI cJ cZ adt r4.2) H → va_D A (wX cI cJ adx adc adn adt gx ++ wCi cI adc gc ++ wSw cI cJ cZ adn gn ++ wSw cI cJ cZ adt r4.2) → va_S A s.heap H locs → lv_has ls 8 [(0, .ref (adx 0)), (1, .int p1), (2, .int l2_116), (3, .long l3_116), (5, .int l5_27)] → W p l e (headSpec wsX2_isMeasuredSo rmX2_isMeasuredSo).room s m ([.ref (adx 0), .int p1] : List Value).toArray below meth c H locs 0 0 (MQ below (QI D A (b2i o.1) (wX cI cJ adx adc adn adt gx ++ wCi cI adc gc ++ wSw cI cJ cZ adn gn ++ wSw cI cJ cZ adt o.2)) ([.ref (adx 0), .int p1] : List Value).toArray s 0 0 A) (F0 m 116 ls []) := by
              intro l2_116 l3_116 H locs ls hf hP hD hS hl
              unfold f_X2_isMeasuredSo_J116 at hf
              refine lv_iinc (v := l5_27 + 1) (lv' := [(5, .int (l5_27 + 1)), (0, .ref (adx 0)), (1, .int p1), (2, .int l2_116), (3, .long l3_116)]) hx hb dX2_isMeasuredSo_116 hl (k := 4) rfl (by rfl) (by decide) rfl (fun ls hl => ?_)
              refine lv_goto (tgt := 27) hx hb dX2_isMeasuredSo_119 (by decide) ?_
              exact ih27 l2_116 l3_116 (l5_27 + 1) r4.2.1 r4.2.2.1 r4.2.2.2.1 r4.2.2.2.2.1 r4.2.2.2.2.2.1 r4.2.2.2.2.2.2.1 r4.2.2.2.2.2.2.2.1 r4.2.2.2.2.2.2.2.2.1 r4.2.2.2.2.2.2.2.2.2.1 r4.2.2.2.2.2.2.2.2.2.2 _ _ _ hf hP hD hS (lv_sub hl [1, 2, 3, 4, 0] rfl)
            refine lv_icmp_ne (tgt := 116) hx hb dX2_isMeasuredSo_59 (by decide) (fun q6 => ?_) (fun q6 => ?_)
            · replace hf := ifT q6 hf
              exact J116 l2_27 l3_27 _ _ _ hf hP hD hS (lv_sub hl [0, 1, 2, 3, 4] rfl)
            · replace hf := ifN q6 hf
              refine lv_aload_n hx hb dX2_isMeasuredSo_62 rfl (lv_at hl 0 rfl) ?_
              refine va_get (D := D) (ci := 2) (v := .ref (adt 0)) (C := RX2) (T := TX2) (N := 17) hx hb hts hinX2 hown hK.1 hP 0 rfl rfl 2 (by decide) hw1 (fun _ h9 => h9) rfl dX2_isMeasuredSo_63 ?_
              refine va_get (D := D) (ci := 1) (v := .int r4.2.2.2.2.2.2.2.2.1) (C := RX1) (T := TX1) (N := 10) hx hb hts hinX1 hown hK.1 hP 27 rfl rfl 7 (by decide) hw4 (fun _ h9 => h9) rfl dX2_isMeasuredSo_66 ?_
              refine lv_if_ne (tgt := 116) hx hb dX2_isMeasuredSo_69 (by decide) (fun q7 => ?_) (fun q7 => ?_)
              · replace hf := ifT q7 hf
                exact J116 l2_27 l3_27 _ _ _ hf hP hD hS (lv_sub hl [0, 1, 2, 3, 4] rfl)
              · replace hf := ifN q7 hf
                refine lv_aload_n hx hb dX2_isMeasuredSo_72 rfl (lv_at hl 0 rfl) ?_
                refine va_get (D := D) (ci := 2) (v := .ref (adt 0)) (C := RX2) (T := TX2) (N := 17) hx hb hts hinX2 hown hK.1 hP 0 rfl rfl 2 (by decide) hw1 (fun _ h9 => h9) rfl dX2_isMeasuredSo_73 ?_
                replace hf := bdE hf
                obtain ⟨r8, hgr8, hf⟩ := hf
                refine xL (w2 := (wX cI cJ adx adc adn adt gx ++ wCi cI adc gc ++ wSw cI cJ cZ adn gn ++ wSw cI cJ cZ adt r4.2)) (wr := (wX cI cJ adx adc adn adt gx ++ wCi cI adc gc ++ wSw cI cJ cZ adn gn)) (va_runV (As := []) (rest := []) ⟨hx, hb, hml, hown, hts⟩ (c_X1_packedEvent l D cI cJ cZ adt r4.2 r8 hgr8 _) (cwV 0 hts gX2_isMeasuredSo_X1_packedEvent rfl rfl rfl (by decide +kernel) ⟨Nat.le_of_ble_eq_true rfl, Nat.le_of_ble_eq_true rfl⟩) ⟨PreW.blind, xRecv (q0 := 27) hK hP rfl rfl, (xPre hK hP hD [27, 28, 29, 30, 31] rfl (by decide) _)⟩ rfl rfl hl.1 rfl (lv_room (Nat.le_of_ble_eq_true rfl)) dX2_isMeasuredSo_76 ⟨Nat.le_of_ble_eq_true rfl, Nat.le_of_ble_eq_true rfl⟩) hP hD hS hA [27, 28, 29, 30, 31] [0, 1, 2, 3, 4, 5, 6, 7, 8, 9, 10, 11, 12, 13, 14, 15, 16, 17, 18, 19, 20, 21, 22, 23, 24, 25, 26] [0, 1, 2, 3, 4, 5, 6, 7, 8, 9, 10, 11, 12, 13, 14, 15, 16, 17, 18, 19, 20, 21, 22, 23, 24, 25, 26, 27, 28, 29, 30, 31] rfl rfl (by decide) (by decide) rfl (by decide) (fun H locs hP hD hS => ?_)
                refine lv_lstore (lv' := [(6, .long r8), (0, .ref (adx 0)), (1, .int p1), (2, .int l2_27), (3, .long l3_27), (5, .int l5_27)]) hx hb dX2_isMeasuredSo_79 hl (by decide) rfl (fun ls hl => ?_)
                refine lv_iload_n hx hb dX2_isMeasuredSo_81 rfl (lv_at hl 3 rfl) ?_
                have J100 : ∀  (H : Heap) (locs : List Loc) (ls : Array Slot), f_X2_isMeasuredSo_J100 gx l2_27 l5_27 rec27 r4 r8  = some o → va_P D vwCl (wX cI cJ adx adc adn adt gx ++ wCi cI adc gc ++ wSw cI cJ cZ adn gn ++ wSw cI cJ cZ adt r4.2) H → va_D A (wX cI cJ adx adc adn adt gx ++ wCi cI adc gc ++ wSw cI cJ cZ adn gn ++ wSw cI cJ cZ adt r4.2) → va_S A s.heap H locs → lv_has ls 8 [(0, .ref (adx 0)), (1, .int p1), (2, .int l2_27), (5, .int l5_27), (6, .long r8)] → W p l e (headSpec wsX2_isMeasuredSo rmX2_isMeasuredSo).room s m ([.ref (adx 0), .int p1] : List Value).toArray below meth c H locs 0 0 (MQ below (QI D A (b2i o.1) (wX cI cJ adx adc adn adt gx ++ wCi cI adc gc ++ wSw cI cJ cZ adn gn ++ wSw cI cJ cZ adt o.2)) ([.ref (adx 0), .int p1] : List Value).toArray s 0 0 A) (F0 m 100 ls []) := by
                  intro  H locs ls hf hP hD hS hl
                  unfold f_X2_isMeasuredSo_J100 at hf
                  refine lv_iload_n hx hb dX2_isMeasuredSo_100 rfl (lv_at hl 2 rfl) ?_
                  refine lv_aload_n hx hb dX2_isMeasuredSo_101 rfl (lv_at hl 0 rfl) ?_
                  refine va_get (D := D) (ci := 2) (v := .int gx.2.2.2.2.2.2.2.2.2.2.2.1) (C := RX2) (T := TX2) (N := 17) hx hb hts hinX2 hown hK.1 hP 0 rfl rfl 14 (by decide) hw0 (fun _ h9 => h9) rfl dX2_isMeasuredSo_102 ?_
                  refine lv_icmp_ne (tgt := 110) hx hb dX2_isMeasuredSo_105 (by decide) (fun q9 => ?_) (fun q9 => ?_)
                  · replace hf := ifT q9 hf
                    refine lv_iinc (v := l2_27 + 1) (lv' := [(2, .int (l2_27 + 1)), (0, .ref (adx 0)), (1, .int p1), (5, .int l5_27), (6, .long r8)]) hx hb dX2_isMeasuredSo_110 hl (k := 2) rfl (by rfl) (by decide) rfl (fun ls hl => ?_)
                    refine lv_lload hx hb dX2_isMeasuredSo_113 (lv_at hl 4 rfl) ?_
                    refine lv_lstore_n (lv' := [(3, .long r8), (2, .int (l2_27 + 1)), (0, .ref (adx 0)), (1, .int p1), (5, .int l5_27), (6, .long r8)]) hx hb dX2_isMeasuredSo_115 rfl hl (by decide) rfl (fun ls hl => ?_)
                    exact J116 (l2_27 + 1) r8 _ _ _ hf hP hD hS (lv_sub hl [2, 3, 1, 0, 4] rfl)
                  · replace hf := ifN q9 hf
                    refine lv_iconst (v := 1) hx hb dX2_isMeasuredSo_108 (by decide) ?_
                    obtain rfl := Option.some.inj hf
                    exact retZ true rfl hx hb hr hlocks hP hD hS dX2_isMeasuredSo_109
                refine lv_if_le (tgt := 100) hx hb dX2_isMeasuredSo_82 (by decide) (fun q10 => ?_) (fun q10 => ?_)
                · replace hf := ifT q10 hf
                  exact J100  _ _ _ hf hP hD hS (lv_sub hl [1, 2, 3, 5, 0] rfl)
                · replace hf := ifF q10 hf
                  refine lv_aload_n hx hb dX2_isMeasuredSo_85 rfl (lv_at hl 1 rfl) ?_
                  refine lv_iload_n hx hb dX2_isMeasuredSo_86 rfl (lv_at hl 3 rfl) ?_
                  refine lv_iconst (v := 1) hx hb dX2_isMeasuredSo_87 (by decide) ?_
                  refine lv_isub hx hb dX2_isMeasuredSo_88 ?_
                  refine lv_lload_n hx hb dX2_isMeasuredSo_89 rfl (lv_at hl 4 rfl) ?_
                  refine lv_lload hx hb dX2_isMeasuredSo_90 (lv_at hl 0 rfl) ?_
                  replace hf := bdE hf
                  obtain ⟨r11, hgr11, hf⟩ := hf
                  refine xIw (va_runV (As := [.int (l2_27 - 1), .long l3_27, .long r8]) (rest := []) ⟨hx, hb, hml, hown, hts⟩ (c_X2_isMeasure l D cI cJ cZ adx adc adn adt gx gc gn r4.2 (l2_27 - 1) l3_27 r8 r11 hgr11 _) (cwV 3 hts gX2_isMeasuredSo_X2_isMeasure rfl rfl rfl (by decide +kernel) ⟨Nat.le_of_ble_eq_true rfl, Nat.le_of_ble_eq_true rfl⟩) ⟨PreW.blind, xRecv (q0 := 0) hK hP rfl rfl, (xPrew hK hP hD _)⟩ rfl rfl hl.1 rfl (lv_room (Nat.le_of_ble_eq_true rfl)) dX2_isMeasuredSo_92 ⟨Nat.le_of_ble_eq_true rfl, Nat.le_of_ble_eq_true rfl⟩) hD hS hA (fun H locs hP hD hS => ?_)
                  replace hP : va_P D vwCl (wX cI cJ adx adc adn adt gx ++ wCi cI adc gc ++ wSw cI cJ cZ adn gn ++ wSw cI cJ cZ adt r4.2) H := hP
                  replace hD : va_D A (wX cI cJ adx adc adn adt gx ++ wCi cI adc gc ++ wSw cI cJ cZ adn gn ++ wSw cI cJ cZ adt r4.2) := hD
                  refine lv_if_ne (tgt := 100) hx hb dX2_isMeasuredSo_95 (by decide) (fun q12 => ?_) (fun q12 => ?_)
                  · replace hf := ifT q12 hf
                    exact J100  _ _ _ hf hP hD hS (lv_sub hl [1, 2, 3, 5, 0] rfl)
                  · replace hf := ifN q12 hf
                    refine lv_iconst (v := 0) hx hb dX2_isMeasuredSo_98 (by decide) ?_
                    obtain rfl := Option.some.inj hf
                    exact retZ false rfl hx hb hr hlocks hP hD hS dX2_isMeasuredSo_99
          · replace hf := ifN q5 hf
            refine lv_iconst (v := 0) hx hb dX2_isMeasuredSo_49 (by decide) ?_
            obtain rfl := Option.some.inj hf
            exact retZ false rfl hx hb hr hlocks hP hD hS dX2_isMeasuredSo_50
    exact L27 fuel 0 0 0 r2.1 r2.2.1 r2.2.2.1 r2.2.2.2.1 r2.2.2.2.2.1 r2.2.2.2.2.2 gt.2.2.2.2.2.2.1 gt.2.2.2.2.2.2.2.1 gt.2.2.2.2.2.2.2.2.1 gt.2.2.2.2.2.2.2.2.2 _ _ _ hf hP hD hS (lv_sub hl [3, 4, 2, 1, 0] rfl)
  · replace hf := ifN q1 hf
    refine lv_iconst (v := 1) hx hb dX2_isMeasuredSo_7 (by decide) ?_
    obtain rfl := Option.some.inj hf
    exact retZ true rfl hx hb hr hlocks hP hD hS dX2_isMeasuredSo_8

def f_X2_findFaults_J112r (l3_4 : Int32) (l7_44 : Int32) (c3_44 : Ar) (c4_44 : Ar) (rec44 : (Int32 → Int32 → Ar → Ar → Ar → Int64 → Int64 → Al → Al → Ar → Ar → Int32 → Int32 → Int64 → Int64 → Option (Int32 × Ar × Ar × Ar × Int64 × Int64 × Al × Al × Ar × Ar × Int32 × Int32 × Int64 × Int64))) (v7 : Int32) (l2_112 : Int32) (x13_112 : Ar) (t0_112 : Int64) (t1_112 : Int64) (t2_112 : Al) (t3_112 : Al) (t4_112 : Ar) (t5_112 : Ar) (t6_112 : Int32) (t7_112 : Int32) (t8_112 : Int64) (t9_112 : Int64) : Option (Int32 × Ar × Ar × Ar × Int64 × Int64 × Al × Al × Ar × Ar × Int32 × Int32 × Int64 × Int64) :=
rec44 l2_112 (l7_44 + 1) x13_112 (upd c3_44 l3_4.toNatClampNeg v7) c4_44 t0_112 t1_112 t2_112 t3_112 t4_112 t5_112 t6_112 t7_112 t8_112 t9_112
def f_X2_findFaults_B44r (gx : Xo) (gc : Ci) (p1 : Int32) (l3_4 : Int32) (l4_18 : Int32) (rec18 : (Int32 → Int32 → Ar → Ar → Ar → Int64 → Int64 → Al → Al → Ar → Ar → Int32 → Int32 → Int64 → Int64 → Option (Int32 × Ar × Ar × Ar × Int64 × Int64 × Al × Al × Ar × Ar × Int32 × Int32 × Int64 × Int64))) (v4 : Int32) (rec44 : Int32 → Int32 → Ar → Ar → Ar → Int64 → Int64 → Al → Al → Ar → Ar → Int32 → Int32 → Int64 → Int64 → Option (Int32 × Ar × Ar × Ar × Int64 × Int64 × Al × Al × Ar × Ar × Int32 × Int32 × Int64 × Int64)) (l2_44 : Int32) (l7_44 : Int32) (x13_44 : Ar) (c3_44 : Ar) (c4_44 : Ar) (t0_44 : Int64) (t1_44 : Int64) (t2_44 : Al) (t3_44 : Al) (t4_44 : Ar) (t5_44 : Ar) (t6_44 : Int32) (t7_44 : Int32) (t8_44 : Int64) (t9_44 : Int64) : Option (Int32 × Ar × Ar × Ar × Int64 × Int64 × Al × Al × Ar × Ar × Int32 × Int32 × Int64 × Int64) :=
if gx.2.2.2.2.2.2.2.2.1 ≤ l7_44 then
rec18 l2_44 (l4_18 + 1) x13_44 (upd c3_44 l3_4.toNatClampNeg v4) c4_44 t0_44 t1_44 t2_44 t3_44 t4_44 t5_44 t6_44 t7_44 t8_44 t9_44
else
gd (ib l7_44 10) (
bnd (gx.2.2.2.2.2.2.2.1 l7_44.toNatClampNeg) (fun v7 =>
if (gx.2.2.2.2.2.2.2.1 l7_44.toNatClampNeg) = v4 then
f_X2_findFaults_J112r l3_4 l7_44 c3_44 c4_44 rec44 v7 l2_44 x13_44 t0_44 t1_44 t2_44 t3_44 t4_44 t5_44 t6_44 t7_44 t8_44 t9_44
else
(f_X2_isMeasuredSo ((gx.1, gx.2.1, gx.2.2.1, gx.2.2.2.1, gx.2.2.2.2.1, gx.2.2.2.2.2.1, gx.2.2.2.2.2.2.1, gx.2.2.2.2.2.2.2.1, gx.2.2.2.2.2.2.2.2.1, gx.2.2.2.2.2.2.2.2.2.1, gx.2.2.2.2.2.2.2.2.2.2.1, gx.2.2.2.2.2.2.2.2.2.2.2.1, gx.2.2.2.2.2.2.2.2.2.2.2.2.1, x13_44)) ((gc.1, gc.2.1, gc.2.2.1, upd c3_44 l3_4.toNatClampNeg v7, c4_44, gc.2.2.2.2.2)) ((t0_44, t1_44, t2_44, t3_44, t4_44, t5_44, t6_44, t7_44, t8_44, t9_44)) p1).bind (fun r9 =>
if (b2i r9.1) = 0 then
f_X2_findFaults_J112r l3_4 l7_44 c3_44 c4_44 rec44 v7 l2_44 x13_44 r9.2.1 r9.2.2.1 r9.2.2.2.1 r9.2.2.2.2.1 r9.2.2.2.2.2.1 r9.2.2.2.2.2.2.1 r9.2.2.2.2.2.2.2.1 r9.2.2.2.2.2.2.2.2.1 r9.2.2.2.2.2.2.2.2.2.1 r9.2.2.2.2.2.2.2.2.2.2
else
bnd (((l3_4 * 1000) + (l4_18 * 100)) + (gx.2.2.2.2.2.2.2.1 l7_44.toNatClampNeg)) (fun v11 =>
gd (ib l2_44 80) (
f_X2_findFaults_J112r l3_4 l7_44 c3_44 c4_44 rec44 v7 (l2_44 + 1) (upd x13_44 l2_44.toNatClampNeg v11) r9.2.1 r9.2.2.1 r9.2.2.2.1 r9.2.2.2.2.1 r9.2.2.2.2.2.1 r9.2.2.2.2.2.2.1 r9.2.2.2.2.2.2.2.1 r9.2.2.2.2.2.2.2.2.1 r9.2.2.2.2.2.2.2.2.2.1 r9.2.2.2.2.2.2.2.2.2.2)))))
def f_X2_findFaults_L44r (gx : Xo) (gc : Ci) (p1 : Int32) (l3_4 : Int32) (l4_18 : Int32) (rec18 : (Int32 → Int32 → Ar → Ar → Ar → Int64 → Int64 → Al → Al → Ar → Ar → Int32 → Int32 → Int64 → Int64 → Option (Int32 × Ar × Ar × Ar × Int64 × Int64 × Al × Al × Ar × Ar × Int32 × Int32 × Int64 × Int64))) (v4 : Int32) : Nat → Int32 → Int32 → Ar → Ar → Ar → Int64 → Int64 → Al → Al → Ar → Ar → Int32 → Int32 → Int64 → Int64 → Option (Int32 × Ar × Ar × Ar × Int64 × Int64 × Al × Al × Ar × Ar × Int32 × Int32 × Int64 × Int64)
  | 0 => fun _ _ _ _ _ _ _ _ _ _ _ _ _ _ _ => none
  | n + 1 => f_X2_findFaults_B44r gx gc p1 l3_4 l4_18 rec18 v4 (f_X2_findFaults_L44r gx gc p1 l3_4 l4_18 rec18 v4 n)
def f_X2_findFaults_J112f (l3_4 : Int32) (l7_44 : Int32) (c3_44 : Ar) (c4_44 : Ar) (rec44 : (Int32 → Int32 → Ar → Ar → Ar → Int64 → Int64 → Al → Al → Ar → Ar → Int32 → Int32 → Int64 → Int64 → Option (Int32 × Ar × Ar × Ar × Int64 × Int64 × Al × Al × Ar × Ar × Int32 × Int32 × Int64 × Int64))) (v17 : Int32) (l2_112 : Int32) (x13_112 : Ar) (t0_112 : Int64) (t1_112 : Int64) (t2_112 : Al) (t3_112 : Al) (t4_112 : Ar) (t5_112 : Ar) (t6_112 : Int32) (t7_112 : Int32) (t8_112 : Int64) (t9_112 : Int64) : Option (Int32 × Ar × Ar × Ar × Int64 × Int64 × Al × Al × Ar × Ar × Int32 × Int32 × Int64 × Int64) :=
rec44 l2_112 (l7_44 + 1) x13_112 c3_44 (upd c4_44 l3_4.toNatClampNeg v17) t0_112 t1_112 t2_112 t3_112 t4_112 t5_112 t6_112 t7_112 t8_112 t9_112
def f_X2_findFaults_B44f (gx : Xo) (gc : Ci) (p1 : Int32) (l3_4 : Int32) (l4_18 : Int32) (rec18 : (Int32 → Int32 → Ar → Ar → Ar → Int64 → Int64 → Al → Al → Ar → Ar → Int32 → Int32 → Int64 → Int64 → Option (Int32 × Ar × Ar × Ar × Int64 × Int64 × Al × Al × Ar × Ar × Int32 × Int32 × Int64 × Int64))) (v14 : Int32) (rec44 : Int32 → Int32 → Ar → Ar → Ar → Int64 → Int64 → Al → Al → Ar → Ar → Int32 → Int32 → Int64 → Int64 → Option (Int32 × Ar × Ar × Ar × Int64 × Int64 × Al × Al × Ar × Ar × Int32 × Int32 × Int64 × Int64)) (l2_44 : Int32) (l7_44 : Int32) (x13_44 : Ar) (c3_44 : Ar) (c4_44 : Ar) (t0_44 : Int64) (t1_44 : Int64) (t2_44 : Al) (t3_44 : Al) (t4_44 : Ar) (t5_44 : Ar) (t6_44 : Int32) (t7_44 : Int32) (t8_44 : Int64) (t9_44 : Int64) : Option (Int32 × Ar × Ar × Ar × Int64 × Int64 × Al × Al × Ar × Ar × Int32 × Int32 × Int64 × Int64) :=
if gx.2.2.2.2.2.2.2.2.1 ≤ l7_44 then
rec18 l2_44 (l4_18 + 1) x13_44 c3_44 (upd c4_44 l3_4.toNatClampNeg v14) t0_44 t1_44 t2_44 t3_44 t4_44 t5_44 t6_44 t7_44 t8_44 t9_44
else
gd (ib l7_44 10) (
bnd (gx.2.2.2.2.2.2.2.1 l7_44.toNatClampNeg) (fun v17 =>
if (gx.2.2.2.2.2.2.2.1 l7_44.toNatClampNeg) = v14 then
f_X2_findFaults_J112f l3_4 l7_44 c3_44 c4_44 rec44 v17 l2_44 x13_44 t0_44 t1_44 t2_44 t3_44 t4_44 t5_44 t6_44 t7_44 t8_44 t9_44
else
(f_X2_isMeasuredSo ((gx.1, gx.2.1, gx.2.2.1, gx.2.2.2.1, gx.2.2.2.2.1, gx.2.2.2.2.2.1, gx.2.2.2.2.2.2.1, gx.2.2.2.2.2.2.2.1, gx.2.2.2.2.2.2.2.2.1, gx.2.2.2.2.2.2.2.2.2.1, gx.2.2.2.2.2.2.2.2.2.2.1, gx.2.2.2.2.2.2.2.2.2.2.2.1, gx.2.2.2.2.2.2.2.2.2.2.2.2.1, x13_44)) ((gc.1, gc.2.1, gc.2.2.1, c3_44, upd c4_44 l3_4.toNatClampNeg v17, gc.2.2.2.2.2)) ((t0_44, t1_44, t2_44, t3_44, t4_44, t5_44, t6_44, t7_44, t8_44, t9_44)) p1).bind (fun r19 =>
if (b2i r19.1) = 0 then
f_X2_findFaults_J112f l3_4 l7_44 c3_44 c4_44 rec44 v17 l2_44 x13_44 r19.2.1 r19.2.2.1 r19.2.2.2.1 r19.2.2.2.2.1 r19.2.2.2.2.2.1 r19.2.2.2.2.2.2.1 r19.2.2.2.2.2.2.2.1 r19.2.2.2.2.2.2.2.2.1 r19.2.2.2.2.2.2.2.2.2.1 r19.2.2.2.2.2.2.2.2.2.2
else
bnd (((l3_4 * 1000) + (l4_18 * 100)) + (gx.2.2.2.2.2.2.2.1 l7_44.toNatClampNeg)) (fun v21 =>
gd (ib l2_44 80) (
f_X2_findFaults_J112f l3_4 l7_44 c3_44 c4_44 rec44 v17 (l2_44 + 1) (upd x13_44 l2_44.toNatClampNeg v21) r19.2.1 r19.2.2.1 r19.2.2.2.1 r19.2.2.2.2.1 r19.2.2.2.2.2.1 r19.2.2.2.2.2.2.1 r19.2.2.2.2.2.2.2.1 r19.2.2.2.2.2.2.2.2.1 r19.2.2.2.2.2.2.2.2.2.1 r19.2.2.2.2.2.2.2.2.2.2)))))
def f_X2_findFaults_L44f (gx : Xo) (gc : Ci) (p1 : Int32) (l3_4 : Int32) (l4_18 : Int32) (rec18 : (Int32 → Int32 → Ar → Ar → Ar → Int64 → Int64 → Al → Al → Ar → Ar → Int32 → Int32 → Int64 → Int64 → Option (Int32 × Ar × Ar × Ar × Int64 × Int64 × Al × Al × Ar × Ar × Int32 × Int32 × Int64 × Int64))) (v14 : Int32) : Nat → Int32 → Int32 → Ar → Ar → Ar → Int64 → Int64 → Al → Al → Ar → Ar → Int32 → Int32 → Int64 → Int64 → Option (Int32 × Ar × Ar × Ar × Int64 × Int64 × Al × Al × Ar × Ar × Int32 × Int32 × Int64 × Int64)
  | 0 => fun _ _ _ _ _ _ _ _ _ _ _ _ _ _ _ => none
  | n + 1 => f_X2_findFaults_B44f gx gc p1 l3_4 l4_18 rec18 v14 (f_X2_findFaults_L44f gx gc p1 l3_4 l4_18 rec18 v14 n)
def f_X2_findFaults_B18 (gx : Xo) (gc : Ci) (p1 : Int32) (l3_4 : Int32) (rec4 : (Int32 → Int32 → Ar → Ar → Ar → Int64 → Int64 → Al → Al → Ar → Ar → Int32 → Int32 → Int64 → Int64 → Option (Int32 × Ar × Ar × Ar × Int64 × Int64 × Al × Al × Ar × Ar × Int32 × Int32 × Int64 × Int64))) (rec18 : Int32 → Int32 → Ar → Ar → Ar → Int64 → Int64 → Al → Al → Ar → Ar → Int32 → Int32 → Int64 → Int64 → Option (Int32 × Ar × Ar × Ar × Int64 × Int64 × Al × Al × Ar × Ar × Int32 × Int32 × Int64 × Int64)) (l2_18 : Int32) (l4_18 : Int32) (x13_18 : Ar) (c3_18 : Ar) (c4_18 : Ar) (t0_18 : Int64) (t1_18 : Int64) (t2_18 : Al) (t3_18 : Al) (t4_18 : Ar) (t5_18 : Ar) (t6_18 : Int32) (t7_18 : Int32) (t8_18 : Int64) (t9_18 : Int64) : Option (Int32 × Ar × Ar × Ar × Int64 × Int64 × Al × Al × Ar × Ar × Int32 × Int32 × Int64 × Int64) :=
if (1 : Int32) < l4_18 then
rec4 l2_18 (l3_4 + 1) x13_18 c3_18 c4_18 t0_18 t1_18 t2_18 t3_18 t4_18 t5_18 t6_18 t7_18 t8_18 t9_18
else
if l4_18 = 0 then
gd (ib l3_4 4) (
bnd (c3_18 l3_4.toNatClampNeg) (fun v4 =>
f_X2_findFaults_L44r gx gc p1 l3_4 l4_18 rec18 v4 fuel l2_18 0 x13_18 c3_18 c4_18 t0_18 t1_18 t2_18 t3_18 t4_18 t5_18 t6_18 t7_18 t8_18 t9_18))
else
gd (ib l3_4 4) (
bnd (c4_18 l3_4.toNatClampNeg) (fun v14 =>
f_X2_findFaults_L44f gx gc p1 l3_4 l4_18 rec18 v14 fuel l2_18 0 x13_18 c3_18 c4_18 t0_18 t1_18 t2_18 t3_18 t4_18 t5_18 t6_18 t7_18 t8_18 t9_18))
def f_X2_findFaults_L18 (gx : Xo) (gc : Ci) (p1 : Int32) (l3_4 : Int32) (rec4 : (Int32 → Int32 → Ar → Ar → Ar → Int64 → Int64 → Al → Al → Ar → Ar → Int32 → Int32 → Int64 → Int64 → Option (Int32 × Ar × Ar × Ar × Int64 × Int64 × Al × Al × Ar × Ar × Int32 × Int32 × Int64 × Int64))) : Nat → Int32 → Int32 → Ar → Ar → Ar → Int64 → Int64 → Al → Al → Ar → Ar → Int32 → Int32 → Int64 → Int64 → Option (Int32 × Ar × Ar × Ar × Int64 × Int64 × Al × Al × Ar × Ar × Int32 × Int32 × Int64 × Int64)
  | 0 => fun _ _ _ _ _ _ _ _ _ _ _ _ _ _ _ => none
  | n + 1 => f_X2_findFaults_B18 gx gc p1 l3_4 rec4 (f_X2_findFaults_L18 gx gc p1 l3_4 rec4 n)
def f_X2_findFaults_B4 (gx : Xo) (gc : Ci) (p1 : Int32) (rec4 : Int32 → Int32 → Ar → Ar → Ar → Int64 → Int64 → Al → Al → Ar → Ar → Int32 → Int32 → Int64 → Int64 → Option (Int32 × Ar × Ar × Ar × Int64 × Int64 × Al × Al × Ar × Ar × Int32 × Int32 × Int64 × Int64)) (l2_4 : Int32) (l3_4 : Int32) (x13_4 : Ar) (c3_4 : Ar) (c4_4 : Ar) (t0_4 : Int64) (t1_4 : Int64) (t2_4 : Al) (t3_4 : Al) (t4_4 : Ar) (t5_4 : Ar) (t6_4 : Int32) (t7_4 : Int32) (t8_4 : Int64) (t9_4 : Int64) : Option (Int32 × Ar × Ar × Ar × Int64 × Int64 × Al × Al × Ar × Ar × Int32 × Int32 × Int64 × Int64) :=
if gc.1 ≤ l3_4 then
some (l2_4, x13_4, c3_4, c4_4, t0_4, t1_4, t2_4, t3_4, t4_4, t5_4, t6_4, t7_4, t8_4, t9_4)
else
f_X2_findFaults_L18 gx gc p1 l3_4 rec4 fuel l2_4 0 x13_4 c3_4 c4_4 t0_4 t1_4 t2_4 t3_4 t4_4 t5_4 t6_4 t7_4 t8_4 t9_4
def f_X2_findFaults_L4 (gx : Xo) (gc : Ci) (p1 : Int32) : Nat → Int32 → Int32 → Ar → Ar → Ar → Int64 → Int64 → Al → Al → Ar → Ar → Int32 → Int32 → Int64 → Int64 → Option (Int32 × Ar × Ar × Ar × Int64 × Int64 × Al × Al × Ar × Ar × Int32 × Int32 × Int64 × Int64)
  | 0 => fun _ _ _ _ _ _ _ _ _ _ _ _ _ _ _ => none
  | n + 1 => f_X2_findFaults_B4 gx gc p1 (f_X2_findFaults_L4 gx gc p1 n)
def f_X2_findFaults (gx : Xo) (gc : Ci) (gt : Sw) (p1 : Int32) : Option (Int32 × Ar × Ar × Ar × Int64 × Int64 × Al × Al × Ar × Ar × Int32 × Int32 × Int64 × Int64) :=
f_X2_findFaults_L4 gx gc p1 fuel 0 0 gx.2.2.2.2.2.2.2.2.2.2.2.2.2 gc.2.2.2.1 gc.2.2.2.2.1 gt.1 gt.2.1 gt.2.2.1 gt.2.2.2.1 gt.2.2.2.2.1 gt.2.2.2.2.2.1 gt.2.2.2.2.2.2.1 gt.2.2.2.2.2.2.2.1 gt.2.2.2.2.2.2.2.2.1 gt.2.2.2.2.2.2.2.2.2
abbrev rmX2_findFaults : Room := { frames := 5, cells := 0, slots := 0, locals := 115 }
set_option maxHeartbeats 40000000 in
set_option maxRecDepth 100000 in
theorem c_X2_findFaults (l : Launch) (D : va_G) (cI cJ cZ : ClassId) (adx : Nat → Nat) (adc : Nat → Nat) (adn : Nat → Nat) (adt : Nat → Nat) (gx : Xo) (gc : Ci) (gn : Sw) (gt : Sw) (p1 : Int32) (o : (Int32 × Ar × Ar × Ar × Int64 × Int64 × Al × Al × Ar × Ar × Int32 × Int32 × Int64 × Int64)) (hf : f_X2_findFaults gx gc gt p1 = some o) : CtI l yX2_findFaults wsX2_findFaults rmX2_findFaults D cI cJ cZ [.ref (adx 0), .int p1] (wX cI cJ adx adc adn adt gx ++ wCi cI adc gc ++ wSw cI cJ cZ adn gn ++ wSw cI cJ cZ adt gt) (wX cI cJ adx adc adn adt ((gx.1, gx.2.1, gx.2.2.1, gx.2.2.2.1, gx.2.2.2.2.1, gx.2.2.2.2.2.1, gx.2.2.2.2.2.2.1, gx.2.2.2.2.2.2.2.1, gx.2.2.2.2.2.2.2.2.1, gx.2.2.2.2.2.2.2.2.2.1, gx.2.2.2.2.2.2.2.2.2.2.1, gx.2.2.2.2.2.2.2.2.2.2.2.1, gx.2.2.2.2.2.2.2.2.2.2.2.2.1, o.2.1)) ++ wCi cI adc ((gc.1, gc.2.1, gc.2.2.1, o.2.2.1, o.2.2.2.1, gc.2.2.2.2.2)) ++ wSw cI cJ cZ adn gn ++ wSw cI cJ cZ adt o.2.2.2.2) o.1 := by
  intro sz
  refine Met.ofW (cc := cX2_findFaults) (maxL := 8) (ret := (some .int)) (by decide) rfl ?_
  intro p e s m args below meth c s₁ B hml hv
  obtain ⟨rfl, hsz, hP, hK, hD0⟩ := hv
  have hx := B.exec
  have hb := B.bytes
  have hr := B.returns
  have hts := atoms_spec (ws := wsX2_findFaults) B.pre
  have hown : s.vm.findClass RX2 = some m.cls := findClass_of_methodNamed B.named
  have hlocks := B.notSynchronized
  subst hsz
  have hD := hD0.self (sz := s.heap.size)
  clear hD0
  generalize hAe : va_A (wX cI cJ adx adc adn adt gx ++ wCi cI adc gc ++ wSw cI cJ cZ adn gn ++ wSw cI cJ cZ adt gt) s.heap.size = A at hD ⊢
  have hA : ∀ q : Nat, s.heap.size ≤ q → A q := fun q h => by rw [← hAe]; exact Or.inr h
  have hS : va_S A s.heap s.heap [] := va_S.rf
  have hinX0 : ∀ w ∈ wsX00, w ∈ wsX2_findFaults := by decide +kernel
  have hinX2 : ∀ w ∈ wsX20, w ∈ wsX2_findFaults := by decide +kernel
  have hw0 : (Cond.fieldLink RX2 12 "SwingCircuits" "circuit" "LSwingCircuits$Circuit;").before _ s = true := hts _ (by decide +kernel)
  have hw1 : (Cond.fieldLink RX2 76 "SwingCircuits$Circuit" "cells" "I").before _ s = true := hts _ (by decide +kernel)
  have hw2 : (Cond.fieldLink RX2 54 "SwingCircuits" "stocked" "I").before _ s = true := hts _ (by decide +kernel)
  have hw3 : (Cond.fieldLink RX2 51 "SwingCircuits" "stock" "[I").before _ s = true := hts _ (by decide +kernel)
  have hw4 : (Cond.fieldLink RX2 69 "SwingCircuits" "faultsFound" "[I").before _ s = true := hts _ (by decide +kernel)
  have hl := lv_entry ([.ref (adx 0), .int p1]) (n := 8) (Nat.le_of_ble_eq_true rfl)
  rw [lg_entry_eq]
  generalize (lg_sl ([.ref (adx 0), .int p1]) ++ List.replicate (8 - (lg_sl ([.ref (adx 0), .int p1])).length) Slot.unset).toArray = ls at hl ⊢
  replace hl : lv_has ls 8 [(0, .ref (adx 0)), (1, .int p1)] := hl
  unfold f_X2_findFaults at hf
  refine lv_iconst (v := 0) hx hb dX2_findFaults_0 (by decide) ?_
  refine lv_istore_n (lv' := [(2, .int 0), (0, .ref (adx 0)), (1, .int p1)]) hx hb dX2_findFaults_1 rfl hl (by decide) rfl (fun ls hl => ?_)
  refine lv_iconst (v := 0) hx hb dX2_findFaults_2 (by decide) ?_
  refine lv_istore_n (lv' := [(3, .int 0), (2, .int 0), (0, .ref (adx 0)), (1, .int p1)]) hx hb dX2_findFaults_3 rfl hl (by decide) rfl (fun ls hl => ?_)
  have L4 : ∀ (n : Nat) (l2_4 : Int32) (l3_4 : Int32) (x13_4 : Ar) (c3_4 : Ar) (c4_4 : Ar) (t0_4 : Int64) (t1_4 : Int64) (t2_4 : Al) (t3_4 : Al) (t4_4 : Ar) (t5_4 : Ar) (t6_4 : Int32) (t7_4 : Int32) (t8_4 : Int64) (t9_4 : Int64) (H : Heap) (locs : List Loc) (ls : Array Slot), f_X2_findFaults_L4 gx gc p1 n l2_4 l3_4 x13_4 c3_4 c4_4 t0_4 t1_4 t2_4 t3_4 t4_4 t5_4 t6_4 t7_4 t8_4 t9_4 = some o → va_P D vwCl (wX cI cJ adx adc adn adt ((gx.1, gx.2.1, gx.2.2.1, gx.2.2.2.1, gx.2.2.2.2.1, gx.2.2.2.2.2.1, gx.2.2.2.2.2.2.1, gx.2.2.2.2.2.2.2.1, gx.2.2.2.2.2.2.2.2.1, gx.2.2.2.2.2.2.2.2.2.1, gx.2.2.2.2.2.2.2.2.2.2.1, gx.2.2.2.2.2.2.2.2.2.2.2.1, gx.2.2.2.2.2.2.2.2.2.2.2.2.1, x13_4)) ++ wCi cI adc ((gc.1, gc.2.1, gc.2.2.1, c3_4, c4_4, gc.2.2.2.2.2)) ++ wSw cI cJ cZ adn gn ++ wSw cI cJ cZ adt ((t0_4, t1_4, t2_4, t3_4, t4_4, t5_4, t6_4, t7_4, t8_4, t9_4))) H → va_D A (wX cI cJ adx adc adn adt ((gx.1, gx.2.1, gx.2.2.1, gx.2.2.2.1, gx.2.2.2.2.1, gx.2.2.2.2.2.1, gx.2.2.2.2.2.2.1, gx.2.2.2.2.2.2.2.1, gx.2.2.2.2.2.2.2.2.1, gx.2.2.2.2.2.2.2.2.2.1, gx.2.2.2.2.2.2.2.2.2.2.1, gx.2.2.2.2.2.2.2.2.2.2.2.1, gx.2.2.2.2.2.2.2.2.2.2.2.2.1, x13_4)) ++ wCi cI adc ((gc.1, gc.2.1, gc.2.2.1, c3_4, c4_4, gc.2.2.2.2.2)) ++ wSw cI cJ cZ adn gn ++ wSw cI cJ cZ adt ((t0_4, t1_4, t2_4, t3_4, t4_4, t5_4, t6_4, t7_4, t8_4, t9_4))) → va_S A s.heap H locs → lv_has ls 8 [(0, .ref (adx 0)), (1, .int p1), (2, .int l2_4), (3, .int l3_4)] → W p l e (headSpec wsX2_findFaults rmX2_findFaults).room s m ([.ref (adx 0), .int p1] : List Value).toArray below meth c H locs 0 0 (MQ below (QI D A o.1 (wX cI cJ adx adc adn adt ((gx.1, gx.2.1, gx.2.2.1, gx.2.2.2.1, gx.2.2.2.2.1, gx.2.2.2.2.2.1, gx.2.2.2.2.2.2.1, gx.2.2.2.2.2.2.2.1, gx.2.2.2.2.2.2.2.2.1, gx.2.2.2.2.2.2.2.2.2.1, gx.2.2.2.2.2.2.2.2.2.2.1, gx.2.2.2.2.2.2.2.2.2.2.2.1, gx.2.2.2.2.2.2.2.2.2.2.2.2.1, o.2.1)) ++ wCi cI adc ((gc.1, gc.2.1, gc.2.2.1, o.2.2.1, o.2.2.2.1, gc.2.2.2.2.2)) ++ wSw cI cJ cZ adn gn ++ wSw cI cJ cZ adt o.2.2.2.2)) ([.ref (adx 0), .int p1] : List Value).toArray s 0 0 A) (F0 m 4 ls []) := by
    intro n
    induction n with
    | zero => intro l2_4 l3_4 x13_4 c3_4 c4_4 t0_4 t1_4 t2_4 t3_4 t4_4 t5_4 t6_4 t7_4 t8_4 t9_4 H locs ls hf; cases hf
    | succ n ih4 =>
      intro l2_4 l3_4 x13_4 c3_4 c4_4 t0_4 t1_4 t2_4 t3_4 t4_4 t5_4 t6_4 t7_4 t8_4 t9_4 H locs ls hf hP hD hS hl
      replace hf : f_X2_findFaults_B4 gx gc p1 (f_X2_findFaults_L4 gx gc p1 n) l2_4 l3_4 x13_4 c3_4 c4_4 t0_4 t1_4 t2_4 t3_4 t4_4 t5_4 t6_4 t7_4 t8_4 t9_4 = some o := hf
      generalize f_X2_findFaults_L4 gx gc p1 n = rec4 at ih4 hf
      unfold f_X2_findFaults_B4 at hf
      refine lv_iload_n hx hb dX2_findFaults_4 rfl (lv_at hl 3 rfl) ?_
      refine lv_aload_n hx hb dX2_findFaults_5 rfl (lv_at hl 0 rfl) ?_
      refine va_get (D := D) (ci := 2) (v := .ref (adc 0)) (C := RX2) (T := TX2) (N := 17) hx hb hts hinX2 hown hK.1 hP 0 rfl rfl 0 (by decide) hw0 (fun _ h9 => h9) rfl dX2_findFaults_6 ?_
      refine va_get (D := D) (ci := 0) (v := .int gc.1) (C := RX0) (T := TX0) (N := 12) hx hb hts hinX0 hown hK.1 hP 11 rfl rfl 0 (by decide) hw1 (fun _ h9 => h9) rfl dX2_findFaults_9 ?_
      refine lv_icmp_ge (tgt := 136) hx hb dX2_findFaults_12 (by decide) (fun q1 => ?_) (fun q1 => ?_)
      · replace hf := ifT q1 hf
        refine lv_iload_n hx hb dX2_findFaults_136 rfl (lv_at hl 2 rfl) ?_
        obtain rfl := Option.some.inj hf
        exact retI hx hb hr hlocks hP hD hS dX2_findFaults_137
      · replace hf := ifF q1 hf
        refine lv_iconst (v := 0) hx hb dX2_findFaults_15 (by decide) ?_
        refine lv_istore (lv' := [(4, .int 0), (0, .ref (adx 0)), (1, .int p1), (2, .int l2_4), (3, .int l3_4)]) hx hb dX2_findFaults_16 hl (by decide) rfl (fun ls hl => ?_)
        have L18 : ∀ (n : Nat) (l2_18 : Int32) (l4_18 : Int32) (x13_18 : Ar) (c3_18 : Ar) (c4_18 : Ar) (t0_18 : Int64) (t1_18 : Int64) (t2_18 : Al) (t3_18 : Al) (t4_18 : Ar) (t5_18 : Ar) (t6_18 : Int32) (t7_18 : Int32) (t8_18 : Int64) (t9_18 : Int64) (H : Heap) (locs : List Loc) (ls : Array Slot), f_X2_findFaults_L18 gx gc p1 l3_4 rec4 n l2_18 l4_18 x13_18 c3_18 c4_18 t0_18 t1_18 t2_18 t3_18 t4_18 t5_18 t6_18 t7_18 t8_18 t9_18 = some o → va_P D vwCl (wX cI cJ adx adc adn adt ((gx.1, gx.2.1, gx.2.2.1, gx.2.2.2.1, gx.2.2.2.2.1, gx.2.2.2.2.2.1, gx.2.2.2.2.2.2.1, gx.2.2.2.2.2.2.2.1, gx.2.2.2.2.2.2.2.2.1, gx.2.2.2.2.2.2.2.2.2.1, gx.2.2.2.2.2.2.2.2.2.2.1, gx.2.2.2.2.2.2.2.2.2.2.2.1, gx.2.2.2.2.2.2.2.2.2.2.2.2.1, x13_18)) ++ wCi cI adc ((gc.1, gc.2.1, gc.2.2.1, c3_18, c4_18, gc.2.2.2.2.2)) ++ wSw cI cJ cZ adn gn ++ wSw cI cJ cZ adt ((t0_18, t1_18, t2_18, t3_18, t4_18, t5_18, t6_18, t7_18, t8_18, t9_18))) H → va_D A (wX cI cJ adx adc adn adt ((gx.1, gx.2.1, gx.2.2.1, gx.2.2.2.1, gx.2.2.2.2.1, gx.2.2.2.2.2.1, gx.2.2.2.2.2.2.1, gx.2.2.2.2.2.2.2.1, gx.2.2.2.2.2.2.2.2.1, gx.2.2.2.2.2.2.2.2.2.1, gx.2.2.2.2.2.2.2.2.2.2.1, gx.2.2.2.2.2.2.2.2.2.2.2.1, gx.2.2.2.2.2.2.2.2.2.2.2.2.1, x13_18)) ++ wCi cI adc ((gc.1, gc.2.1, gc.2.2.1, c3_18, c4_18, gc.2.2.2.2.2)) ++ wSw cI cJ cZ adn gn ++ wSw cI cJ cZ adt ((t0_18, t1_18, t2_18, t3_18, t4_18, t5_18, t6_18, t7_18, t8_18, t9_18))) → va_S A s.heap H locs → lv_has ls 8 [(0, .ref (adx 0)), (1, .int p1), (2, .int l2_18), (3, .int l3_4), (4, .int l4_18)] → W p l e (headSpec wsX2_findFaults rmX2_findFaults).room s m ([.ref (adx 0), .int p1] : List Value).toArray below meth c H locs 0 0 (MQ below (QI D A o.1 (wX cI cJ adx adc adn adt ((gx.1, gx.2.1, gx.2.2.1, gx.2.2.2.1, gx.2.2.2.2.1, gx.2.2.2.2.2.1, gx.2.2.2.2.2.2.1, gx.2.2.2.2.2.2.2.1, gx.2.2.2.2.2.2.2.2.1, gx.2.2.2.2.2.2.2.2.2.1, gx.2.2.2.2.2.2.2.2.2.2.1, gx.2.2.2.2.2.2.2.2.2.2.2.1, gx.2.2.2.2.2.2.2.2.2.2.2.2.1, o.2.1)) ++ wCi cI adc ((gc.1, gc.2.1, gc.2.2.1, o.2.2.1, o.2.2.2.1, gc.2.2.2.2.2)) ++ wSw cI cJ cZ adn gn ++ wSw cI cJ cZ adt o.2.2.2.2)) ([.ref (adx 0), .int p1] : List Value).toArray s 0 0 A) (F0 m 18 ls []) := by
          intro n
          induction n with
          | zero => intro l2_18 l4_18 x13_18 c3_18 c4_18 t0_18 t1_18 t2_18 t3_18 t4_18 t5_18 t6_18 t7_18 t8_18 t9_18 H locs ls hf; cases hf
          | succ n ih18 =>
            intro l2_18 l4_18 x13_18 c3_18 c4_18 t0_18 t1_18 t2_18 t3_18 t4_18 t5_18 t6_18 t7_18 t8_18 t9_18 H locs ls hf hP hD hS hl
            replace hf : f_X2_findFaults_B18 gx gc p1 l3_4 rec4 (f_X2_findFaults_L18 gx gc p1 l3_4 rec4 n) l2_18 l4_18 x13_18 c3_18 c4_18 t0_18 t1_18 t2_18 t3_18 t4_18 t5_18 t6_18 t7_18 t8_18 t9_18 = some o := hf
            generalize f_X2_findFaults_L18 gx gc p1 l3_4 rec4 n = rec18 at ih18 hf
            unfold f_X2_findFaults_B18 at hf
            refine lv_iload hx hb dX2_findFaults_18 (lv_at hl 4 rfl) ?_
            refine lv_iconst (v := 1) hx hb dX2_findFaults_20 (by decide) ?_
            refine lv_icmp_gt (tgt := 130) hx hb dX2_findFaults_21 (by decide) (fun q2 => ?_) (fun q2 => ?_)
            · replace hf := ifT q2 hf
              refine lv_iinc (v := l3_4 + 1) (lv' := [(3, .int (l3_4 + 1)), (0, .ref (adx 0)), (1, .int p1), (2, .int l2_18), (4, .int l4_18)]) hx hb dX2_findFaults_130 hl (k := 3) rfl (by rfl) (by decide) rfl (fun ls hl => ?_)
              refine lv_goto (tgt := 4) hx hb dX2_findFaults_133 (by decide) ?_
              exact ih4 l2_18 (l3_4 + 1) x13_18 c3_18 c4_18 t0_18 t1_18 t2_18 t3_18 t4_18 t5_18 t6_18 t7_18 t8_18 t9_18 _ _ _ hf hP hD hS (lv_sub hl [1, 2, 3, 0] rfl)
            · replace hf := ifF q2 hf
              refine lv_aload_n hx hb dX2_findFaults_24 rfl (lv_at hl 0 rfl) ?_
              refine va_get (D := D) (ci := 2) (v := .ref (adc 0)) (C := RX2) (T := TX2) (N := 17) hx hb hts hinX2 hown hK.1 hP 0 rfl rfl 0 (by decide) hw0 (fun _ h9 => h9) rfl dX2_findFaults_25 ?_
              refine lv_iload hx hb dX2_findFaults_28 (lv_at hl 4 rfl) ?_
              by_cases hz30 : l4_18 = 0
              · replace hf := ifT hz30 hf
                refine xR (w2 := (wX cI cJ adx adc adn adt ((gx.1, gx.2.1, gx.2.2.1, gx.2.2.2.1, gx.2.2.2.2.1, gx.2.2.2.2.2.1, gx.2.2.2.2.2.2.1, gx.2.2.2.2.2.2.2.1, gx.2.2.2.2.2.2.2.2.1, gx.2.2.2.2.2.2.2.2.2.1, gx.2.2.2.2.2.2.2.2.2.2.1, gx.2.2.2.2.2.2.2.2.2.2.2.1, gx.2.2.2.2.2.2.2.2.2.2.2.2.1, x13_18)) ++ wCi cI adc ((gc.1, gc.2.1, gc.2.2.1, c3_18, c4_18, gc.2.2.2.2.2)) ++ wSw cI cJ cZ adn gn ++ wSw cI cJ cZ adt ((t0_18, t1_18, t2_18, t3_18, t4_18, t5_18, t6_18, t7_18, t8_18, t9_18)))) (wr := (wX cI cJ adx adc adn adt ((gx.1, gx.2.1, gx.2.2.1, gx.2.2.2.1, gx.2.2.2.2.1, gx.2.2.2.2.2.1, gx.2.2.2.2.2.2.1, gx.2.2.2.2.2.2.2.1, gx.2.2.2.2.2.2.2.2.1, gx.2.2.2.2.2.2.2.2.2.1, gx.2.2.2.2.2.2.2.2.2.2.1, gx.2.2.2.2.2.2.2.2.2.2.2.1, gx.2.2.2.2.2.2.2.2.2.2.2.2.1, x13_18)) ++ wSw cI cJ cZ adn gn ++ wSw cI cJ cZ adt ((t0_18, t1_18, t2_18, t3_18, t4_18, t5_18, t6_18, t7_18, t8_18, t9_18)))) (va_runV (As := [.int l4_18]) (rest := []) ⟨hx, hb, hml, hown, hts⟩ (c_X0_ratesOf_r l D cI cJ cZ adc ((gc.1, gc.2.1, gc.2.2.1, c3_18, c4_18, gc.2.2.2.2.2)) l4_18 hz30 _) (cwV 1 hts gX2_findFaults_X0_ratesOf rfl rfl rfl (by decide +kernel) ⟨Nat.le_of_ble_eq_true rfl, Nat.le_of_ble_eq_true rfl⟩) ⟨PreW.blind, xRecv (q0 := 11) hK hP rfl rfl, (xPre hK hP hD [11, 12, 13, 14, 15, 16, 17, 18, 19, 20, 21] rfl (by decide) _)⟩ rfl rfl hl.1 rfl (lv_room (Nat.le_of_ble_eq_true rfl)) dX2_findFaults_30 ⟨Nat.le_of_ble_eq_true rfl, Nat.le_of_ble_eq_true rfl⟩) hP hD hS hA [11, 12, 13, 14, 15, 16, 17, 18, 19, 20, 21] [0, 1, 2, 3, 4, 5, 6, 7, 8, 9, 10, 22, 23, 24, 25, 26, 27, 28, 29, 30, 31] [0, 1, 2, 3, 4, 5, 6, 7, 8, 9, 10, 21, 22, 23, 24, 25, 26, 27, 28, 29, 30, 31, 11, 12, 13, 14, 15, 16, 17, 18, 19, 20] rfl rfl (by decide) (by decide) rfl (by decide) (fun H locs hP hD hS => ?_)
                refine lv_astore (lv' := [(5, .ref (adc 3)), (0, .ref (adx 0)), (1, .int p1), (2, .int l2_18), (3, .int l3_4), (4, .int l4_18)]) hx hb dX2_findFaults_33 hl (by decide) rfl (fun ls hl => ?_)
                refine lv_aload hx hb dX2_findFaults_35 (lv_at hl 0 rfl) ?_
                refine lv_iload_n hx hb dX2_findFaults_37 rfl (lv_at hl 4 rfl) ?_
                replace hf := gdE hf
                obtain ⟨h3, hf⟩ := hf
                refine va_iald hx hb hK.1 hP 14 0 rfl rfl (ib_in h3) dX2_findFaults_38 ?_
                refine lv_topi (fun v4 ev4 => ?_)
                replace hf := bndE hf ev4
                refine lv_istore (lv' := [(6, .int v4), (5, .ref (adc 3)), (0, .ref (adx 0)), (1, .int p1), (2, .int l2_18), (3, .int l3_4), (4, .int l4_18)]) hx hb dX2_findFaults_39 hl (by decide) rfl (fun ls hl => ?_)
                refine lv_iconst (v := 0) hx hb dX2_findFaults_41 (by decide) ?_
                refine lv_istore (lv' := [(7, .int 0), (6, .int v4), (5, .ref (adc 3)), (0, .ref (adx 0)), (1, .int p1), (2, .int l2_18), (3, .int l3_4), (4, .int l4_18)]) hx hb dX2_findFaults_42 hl (by decide) rfl (fun ls hl => ?_)
                have L44 : ∀ (n : Nat) (l2_44 : Int32) (l7_44 : Int32) (x13_44 : Ar) (c3_44 : Ar) (c4_44 : Ar) (t0_44 : Int64) (t1_44 : Int64) (t2_44 : Al) (t3_44 : Al) (t4_44 : Ar) (t5_44 : Ar) (t6_44 : Int32) (t7_44 : Int32) (t8_44 : Int64) (t9_44 : Int64) (H : Heap) (locs : List Loc) (ls : Array Slot), f_X2_findFaults_L44r gx gc p1 l3_4 l4_18 rec18 v4 n l2_44 l7_44 x13_44 c3_44 c4_44 t0_44 t1_44 t2_44 t3_44 t4_44 t5_44 t6_44 t7_44 t8_44 t9_44 = some o → va_P D vwCl (wX cI cJ adx adc adn adt ((gx.1, gx.2.1, gx.2.2.1, gx.2.2.2.1, gx.2.2.2.2.1, gx.2.2.2.2.2.1, gx.2.2.2.2.2.2.1, gx.2.2.2.2.2.2.2.1, gx.2.2.2.2.2.2.2.2.1, gx.2.2.2.2.2.2.2.2.2.1, gx.2.2.2.2.2.2.2.2.2.2.1, gx.2.2.2.2.2.2.2.2.2.2.2.1, gx.2.2.2.2.2.2.2.2.2.2.2.2.1, x13_44)) ++ wCi cI adc ((gc.1, gc.2.1, gc.2.2.1, c3_44, c4_44, gc.2.2.2.2.2)) ++ wSw cI cJ cZ adn gn ++ wSw cI cJ cZ adt ((t0_44, t1_44, t2_44, t3_44, t4_44, t5_44, t6_44, t7_44, t8_44, t9_44))) H → va_D A (wX cI cJ adx adc adn adt ((gx.1, gx.2.1, gx.2.2.1, gx.2.2.2.1, gx.2.2.2.2.1, gx.2.2.2.2.2.1, gx.2.2.2.2.2.2.1, gx.2.2.2.2.2.2.2.1, gx.2.2.2.2.2.2.2.2.1, gx.2.2.2.2.2.2.2.2.2.1, gx.2.2.2.2.2.2.2.2.2.2.1, gx.2.2.2.2.2.2.2.2.2.2.2.1, gx.2.2.2.2.2.2.2.2.2.2.2.2.1, x13_44)) ++ wCi cI adc ((gc.1, gc.2.1, gc.2.2.1, c3_44, c4_44, gc.2.2.2.2.2)) ++ wSw cI cJ cZ adn gn ++ wSw cI cJ cZ adt ((t0_44, t1_44, t2_44, t3_44, t4_44, t5_44, t6_44, t7_44, t8_44, t9_44))) → va_S A s.heap H locs → lv_has ls 8 [(0, .ref (adx 0)), (1, .int p1), (2, .int l2_44), (3, .int l3_4), (4, .int l4_18), (5, .ref (adc 3)), (6, .int v4), (7, .int l7_44)] → W p l e (headSpec wsX2_findFaults rmX2_findFaults).room s m ([.ref (adx 0), .int p1] : List Value).toArray below meth c H locs 0 0 (MQ below (QI D A o.1 (wX cI cJ adx adc adn adt ((gx.1, gx.2.1, gx.2.2.1, gx.2.2.2.1, gx.2.2.2.2.1, gx.2.2.2.2.2.1, gx.2.2.2.2.2.2.1, gx.2.2.2.2.2.2.2.1, gx.2.2.2.2.2.2.2.2.1, gx.2.2.2.2.2.2.2.2.2.1, gx.2.2.2.2.2.2.2.2.2.2.1, gx.2.2.2.2.2.2.2.2.2.2.2.1, gx.2.2.2.2.2.2.2.2.2.2.2.2.1, o.2.1)) ++ wCi cI adc ((gc.1, gc.2.1, gc.2.2.1, o.2.2.1, o.2.2.2.1, gc.2.2.2.2.2)) ++ wSw cI cJ cZ adn gn ++ wSw cI cJ cZ adt o.2.2.2.2)) ([.ref (adx 0), .int p1] : List Value).toArray s 0 0 A) (F0 m 44 ls []) := by
                  intro n
                  induction n with
                  | zero => intro l2_44 l7_44 x13_44 c3_44 c4_44 t0_44 t1_44 t2_44 t3_44 t4_44 t5_44 t6_44 t7_44 t8_44 t9_44 H locs ls hf; cases hf
                  | succ n ih44 =>
                    intro l2_44 l7_44 x13_44 c3_44 c4_44 t0_44 t1_44 t2_44 t3_44 t4_44 t5_44 t6_44 t7_44 t8_44 t9_44 H locs ls hf hP hD hS hl
                    replace hf : f_X2_findFaults_B44r gx gc p1 l3_4 l4_18 rec18 v4 (f_X2_findFaults_L44r gx gc p1 l3_4 l4_18 rec18 v4 n) l2_44 l7_44 x13_44 c3_44 c4_44 t0_44 t1_44 t2_44 t3_44 t4_44 t5_44 t6_44 t7_44 t8_44 t9_44 = some o := hf
                    generalize f_X2_findFaults_L44r gx gc p1 l3_4 l4_18 rec18 v4 n = rec44 at ih44 hf
                    unfold f_X2_findFaults_B44r at hf
                    refine lv_iload hx hb dX2_findFaults_44 (lv_at hl 7 rfl) ?_
                    refine lv_aload_n hx hb dX2_findFaults_46 rfl (lv_at hl 0 rfl) ?_
                    refine va_get (D := D) (ci := 2) (v := .int gx.2.2.2.2.2.2.2.2.1) (C := RX2) (T := TX2) (N := 17) hx hb hts hinX2 hown hK.1 hP 0 rfl rfl 11 (by decide) hw2 (fun _ h9 => h9) rfl dX2_findFaults_47 ?_
                    refine lv_icmp_ge (tgt := 118) hx hb dX2_findFaults_50 (by decide) (fun q5 => ?_) (fun q5 => ?_)
                    · replace hf := ifT q5 hf
                      refine lv_aload hx hb dX2_findFaults_118 (lv_at hl 5 rfl) ?_
                      refine lv_iload_n hx hb dX2_findFaults_120 rfl (lv_at hl 3 rfl) ?_
                      refine lv_iload hx hb dX2_findFaults_121 (lv_at hl 6 rfl) ?_
                      refine va_iast hx hb hK.1 hP hD hS 14 0 rfl rfl (ib_in h3) dX2_findFaults_123 (fun H locs hP hD hS => ?_)
                      replace hP : va_P D vwCl (wX cI cJ adx adc adn adt ((gx.1, gx.2.1, gx.2.2.1, gx.2.2.2.1, gx.2.2.2.2.1, gx.2.2.2.2.2.1, gx.2.2.2.2.2.2.1, gx.2.2.2.2.2.2.2.1, gx.2.2.2.2.2.2.2.2.1, gx.2.2.2.2.2.2.2.2.2.1, gx.2.2.2.2.2.2.2.2.2.2.1, gx.2.2.2.2.2.2.2.2.2.2.2.1, gx.2.2.2.2.2.2.2.2.2.2.2.2.1, x13_44)) ++ wCi cI adc ((gc.1, gc.2.1, gc.2.2.1, upd c3_44 l3_4.toNatClampNeg v4, c4_44, gc.2.2.2.2.2)) ++ wSw cI cJ cZ adn gn ++ wSw cI cJ cZ adt ((t0_44, t1_44, t2_44, t3_44, t4_44, t5_44, t6_44, t7_44, t8_44, t9_44))) H := hP
                      replace hD : va_D A (wX cI cJ adx adc adn adt ((gx.1, gx.2.1, gx.2.2.1, gx.2.2.2.1, gx.2.2.2.2.1, gx.2.2.2.2.2.1, gx.2.2.2.2.2.2.1, gx.2.2.2.2.2.2.2.1, gx.2.2.2.2.2.2.2.2.1, gx.2.2.2.2.2.2.2.2.2.1, gx.2.2.2.2.2.2.2.2.2.2.1, gx.2.2.2.2.2.2.2.2.2.2.2.1, gx.2.2.2.2.2.2.2.2.2.2.2.2.1, x13_44)) ++ wCi cI adc ((gc.1, gc.2.1, gc.2.2.1, upd c3_44 l3_4.toNatClampNeg v4, c4_44, gc.2.2.2.2.2)) ++ wSw cI cJ cZ adn gn ++ wSw cI cJ cZ adt ((t0_44, t1_44, t2_44, t3_44, t4_44, t5_44, t6_44, t7_44, t8_44, t9_44))) := hD
                      refine lv_iinc (v := l4_18 + 1) (lv' := [(4, .int (l4_18 + 1)), (0, .ref (adx 0)), (1, .int p1), (2, .int l2_44), (3, .int l3_4), (5, .ref (adc 3)), (6, .int v4), (7, .int l7_44)]) hx hb dX2_findFaults_124 hl (k := 4) rfl (by rfl) (by decide) rfl (fun ls hl => ?_)
                      refine lv_goto (tgt := 18) hx hb dX2_findFaults_127 (by decide) ?_
                      exact ih18 l2_44 (l4_18 + 1) x13_44 (upd c3_44 l3_4.toNatClampNeg v4) c4_44 t0_44 t1_44 t2_44 t3_44 t4_44 t5_44 t6_44 t7_44 t8_44 t9_44 _ _ _ hf hP hD hS (lv_sub hl [1, 2, 3, 4, 0] rfl)
                    · replace hf := ifF q5 hf
                      refine lv_aload hx hb dX2_findFaults_53 (lv_at hl 5 rfl) ?_
                      refine lv_iload_n hx hb dX2_findFaults_55 rfl (lv_at hl 3 rfl) ?_
                      refine lv_aload_n hx hb dX2_findFaults_56 rfl (lv_at hl 0 rfl) ?_
                      refine va_get (D := D) (ci := 2) (v := .ref (adx 6)) (C := RX2) (T := TX2) (N := 17) hx hb hts hinX2 hown hK.1 hP 0 rfl rfl 10 (by decide) hw3 (fun _ h9 => h9) rfl dX2_findFaults_57 ?_
                      refine lv_iload hx hb dX2_findFaults_60 (lv_at hl 7 rfl) ?_
                      replace hf := gdE hf
                      obtain ⟨h6, hf⟩ := hf
                      refine va_iald hx hb hK.1 hP 6 0 rfl rfl (ib_in h6) dX2_findFaults_62 ?_
                      refine lv_topi (fun v7 ev7 => ?_)
                      replace hf := bndE hf ev7
                      refine va_iast hx hb hK.1 hP hD hS 14 0 rfl rfl (ib_in h3) dX2_findFaults_63 (fun H locs hP hD hS => ?_)
                      replace hP : va_P D vwCl (wX cI cJ adx adc adn adt ((gx.1, gx.2.1, gx.2.2.1, gx.2.2.2.1, gx.2.2.2.2.1, gx.2.2.2.2.2.1, gx.2.2.2.2.2.2.1, gx.2.2.2.2.2.2.2.1, gx.2.2.2.2.2.2.2.2.1, gx.2.2.2.2.2.2.2.2.2.1, gx.2.2.2.2.2.2.2.2.2.2.1, gx.2.2.2.2.2.2.2.2.2.2.2.1, gx.2.2.2.2.2.2.2.2.2.2.2.2.1, x13_44)) ++ wCi cI adc ((gc.1, gc.2.1, gc.2.2.1, upd c3_44 l3_4.toNatClampNeg v7, c4_44, gc.2.2.2.2.2)) ++ wSw cI cJ cZ adn gn ++ wSw cI cJ cZ adt ((t0_44, t1_44, t2_44, t3_44, t4_44, t5_44, t6_44, t7_44, t8_44, t9_44))) H := hP
                      replace hD : va_D A (wX cI cJ adx adc adn adt ((gx.1, gx.2.1, gx.2.2.1, gx.2.2.2.1, gx.2.2.2.2.1, gx.2.2.2.2.2.1, gx.2.2.2.2.2.2.1, gx.2.2.2.2.2.2.2.1, gx.2.2.2.2.2.2.2.2.1, gx.2.2.2.2.2.2.2.2.2.1, gx.2.2.2.2.2.2.2.2.2.2.1, gx.2.2.2.2.2.2.2.2.2.2.2.1, gx.2.2.2.2.2.2.2.2.2.2.2.2.1, x13_44)) ++ wCi cI adc ((gc.1, gc.2.1, gc.2.2.1, upd c3_44 l3_4.toNatClampNeg v7, c4_44, gc.2.2.2.2.2)) ++ wSw cI cJ cZ adn gn ++ wSw cI cJ cZ adt ((t0_44, t1_44, t2_44, t3_44, t4_44, t5_44, t6_44, t7_44, t8_44, t9_44))) := hD
                      refine lv_aload_n hx hb dX2_findFaults_64 rfl (lv_at hl 0 rfl) ?_
                      refine va_get (D := D) (ci := 2) (v := .ref (adx 6)) (C := RX2) (T := TX2) (N := 17) hx hb hts hinX2 hown hK.1 hP 0 rfl rfl 10 (by decide) hw3 (fun _ h9 => h9) rfl dX2_findFaults_65 ?_
                      refine lv_iload hx hb dX2_findFaults_68 (lv_at hl 7 rfl) ?_
                      refine va_iald hx hb hK.1 hP 6 0 rfl rfl (ib_in h6) dX2_findFaults_70 ?_
                      refine lv_iload hx hb dX2_findFaults_71 (lv_at hl 6 rfl) ?_
                      have J112 : ∀ (l2_112 : Int32) (x13_112 : Ar) (t0_112 : Int64) (t1_112 : Int64) (t2_112 : Al) (t3_112 : Al) (t4_112 : Ar) (t5_112 : Ar) (t6_112 : Int32) (t7_112 : Int32) (t8_112 : Int64) (t9_112 : Int64) (H : Heap) (locs : List Loc) (ls : Array Slot), f_X2_findFaults_J112r l3_4 l7_44 c3_44 c4_44 rec44 v7 l2_112 x13_112 t0_112 t1_112 t2_112 t3_112 t4_112 t5_112 t6_112 t7_112 t8_112 t9_112 = some o → va_P D vwCl (wX cI cJ adx adc adn adt ((gx.1, gx.2.1, gx.2.2.1, gx.2.2.2.1, gx.2.2.2.2.1, gx.2.2.2.2.2.1, gx.2.2.2.2.2.2.1, gx.2.2.2.2.2.2.2.1, gx.2.2.2.2.2.2.2.2.1, gx.2.2.2.2.2.2.2.2.2.1, gx.2.2.2.2.2.2.2.2.2.2.1, gx.2.2.2.2.2.2.2.2.2.2.2.1, gx.2.2.2.2.2.2.2.2.2.2.2.2.1, x13_112)) ++ wCi cI adc ((gc.1, gc.2.1, gc.2.2.1, upd c3_44 l3_4.toNatClampNeg v7, c4_44, gc.2.2.2.2.2)) ++ wSw cI cJ cZ adn gn ++ wSw cI cJ cZ adt ((t0_112, t1_112, t2_112, t3_112, t4_112, t5_112, t6_112, t7_112, t8_112, t9_112))) H → va_D A (wX cI cJ adx adc adn adt ((gx.1, gx.2.1, gx.2.2.1, gx.2.2.2.1, gx.2.2.2.2.1, gx.2.2.2.2.2.1, gx.2.2.2.2.2.2.1, gx.2.2.2.2.2.2.2.1, gx.2.2.2.2.2.2.2.2.1, gx.2.2.2.2.2.2.2.2.2.1, gx.2.2.2.2.2.2.2.2.2.2.1, gx.2.2.2.2.2.2.2.2.2.2.2.1, gx.2.2.2.2.2.2.2.2.2.2.2.2.1, x13_112)) ++ wCi cI adc ((gc.1, gc.2.1, gc.2.2.1, upd c3_44 l3_4.toNatClampNeg v7, c4_44, gc.2.2.2.2.2)) ++ wSw cI cJ cZ adn gn ++ wSw cI cJ cZ adt ((t0_112, t1_112, t2_112, t3_112, t4_112, t5_112, t6_112, t7_112, t8_112, t9_112))) → va_S A s.heap H locs → lv_has ls 8 [(0, .ref (adx 0)), (1, .int p1), (2, .int l2_112), (3, .int l3_4), (4, .int l4_18), (5, .ref (adc 3)), (6, .int v4), (7, .int l7_44)] → W p l e (headSpec wsX2_findFaults rmX2_findFaults).room s m ([.ref (adx 0), .int p1] : List Value).toArray below meth c H locs 0 0 (MQ below (QI D A o.1 (wX cI cJ adx adc adn adt ((gx.1, gx.2.1, gx.2.2.1, gx.2.2.2.1, gx.2.2.2.2.1, gx.2.2.2.2.2.1, gx.2.2.2.2.2.2.1, gx.2.2.2.2.2.2.2.1, gx.2.2.2.2.2.2.2.2.1, gx.2.2.2.2.2.2.2.2.2.1, gx.2.2.2.2.2.2.2.2.2.2.1, gx.2.2.2.2.2.2.2.2.2.2.2.1, gx.2.2.2.2.2.2.2.2.2.2.2.2.1, o.2.1)) ++ wCi cI adc ((gc.1, gc.2.1, gc.2.2.1, o.2.2.1, o.2.2.2.1, gc.2.2.2.2.2)) ++ wSw cI cJ cZ adn gn ++ wSw cI cJ cZ adt o.2.2.2.2)) ([.ref (adx 0), .int p1] : List Value).toArray s 0 0 A) (F0 m 112 ls []) := by
                        intro l2_112 x13_112 t0_112 t1_112 t2_112 t3_112 t4_112 t5_112 t6_112 t7_112 t8_112 t9_112 H locs ls hf hP hD hS hl
                        unfold f_X2_findFaults_J112r at hf
                        refine lv_iinc (v := l7_44 + 1) (lv' := [(7, .int (l7_44 + 1)), (0, .ref (adx 0)), (1, .int p1), (2, .int l2_112), (3, .int l3_4), (4, .int l4_18), (5, .ref (adc 3)), (6, .int v4)]) hx hb dX2_findFaults_112 hl (k := 7) rfl (by rfl) (by decide) rfl (fun ls hl => ?_)
                        refine lv_goto (tgt := 44) hx hb dX2_findFaults_115 (by decide) ?_
                        exact ih44 l2_112 (l7_44 + 1) x13_112 (upd c3_44 l3_4.toNatClampNeg v7) c4_44 t0_112 t1_112 t2_112 t3_112 t4_112 t5_112 t6_112 t7_112 t8_112 t9_112 _ _ _ hf hP hD hS (lv_sub hl [1, 2, 3, 4, 5, 6, 7, 0] rfl)
                      refine lv_icmp_eq (tgt := 112) hx hb dX2_findFaults_73 (by decide) (fun q8 => ?_) (fun q8 => ?_)
                      · replace hf := ifT q8 hf
                        exact J112 l2_44 x13_44 t0_44 t1_44 t2_44 t3_44 t4_44 t5_44 t6_44 t7_44 t8_44 t9_44 _ _ _ hf hP hD hS (lv_sub hl [0, 1, 2, 3, 4, 5, 6, 7] rfl)
                      · replace hf := ifF q8 hf
                        refine lv_aload_n hx hb dX2_findFaults_76 rfl (lv_at hl 0 rfl) ?_
                        refine lv_iload_n hx hb dX2_findFaults_77 rfl (lv_at hl 1 rfl) ?_
                        replace hf := bdE hf
                        obtain ⟨r9, hgr9, hf⟩ := hf
                        refine xIw (va_runV (As := [.int p1]) (rest := []) ⟨hx, hb, hml, hown, hts⟩ (c_X2_isMeasuredSo l D cI cJ cZ adx adc adn adt ((gx.1, gx.2.1, gx.2.2.1, gx.2.2.2.1, gx.2.2.2.2.1, gx.2.2.2.2.2.1, gx.2.2.2.2.2.2.1, gx.2.2.2.2.2.2.2.1, gx.2.2.2.2.2.2.2.2.1, gx.2.2.2.2.2.2.2.2.2.1, gx.2.2.2.2.2.2.2.2.2.2.1, gx.2.2.2.2.2.2.2.2.2.2.2.1, gx.2.2.2.2.2.2.2.2.2.2.2.2.1, x13_44)) ((gc.1, gc.2.1, gc.2.2.1, upd c3_44 l3_4.toNatClampNeg v7, c4_44, gc.2.2.2.2.2)) gn ((t0_44, t1_44, t2_44, t3_44, t4_44, t5_44, t6_44, t7_44, t8_44, t9_44)) p1 r9 hgr9 _) (cwV 1 hts gX2_findFaults_X2_isMeasuredSo rfl rfl rfl (by decide +kernel) ⟨Nat.le_of_ble_eq_true rfl, Nat.le_of_ble_eq_true rfl⟩) ⟨PreW.blind, xRecv (q0 := 0) hK hP rfl rfl, (xPrew hK hP hD _)⟩ rfl rfl hl.1 rfl (lv_room (Nat.le_of_ble_eq_true rfl)) dX2_findFaults_78 ⟨Nat.le_of_ble_eq_true rfl, Nat.le_of_ble_eq_true rfl⟩) hD hS hA (fun H locs hP hD hS => ?_)
                        replace hP : va_P D vwCl (wX cI cJ adx adc adn adt ((gx.1, gx.2.1, gx.2.2.1, gx.2.2.2.1, gx.2.2.2.2.1, gx.2.2.2.2.2.1, gx.2.2.2.2.2.2.1, gx.2.2.2.2.2.2.2.1, gx.2.2.2.2.2.2.2.2.1, gx.2.2.2.2.2.2.2.2.2.1, gx.2.2.2.2.2.2.2.2.2.2.1, gx.2.2.2.2.2.2.2.2.2.2.2.1, gx.2.2.2.2.2.2.2.2.2.2.2.2.1, x13_44)) ++ wCi cI adc ((gc.1, gc.2.1, gc.2.2.1, upd c3_44 l3_4.toNatClampNeg v7, c4_44, gc.2.2.2.2.2)) ++ wSw cI cJ cZ adn gn ++ wSw cI cJ cZ adt r9.2) H := hP
                        replace hD : va_D A (wX cI cJ adx adc adn adt ((gx.1, gx.2.1, gx.2.2.1, gx.2.2.2.1, gx.2.2.2.2.1, gx.2.2.2.2.2.1, gx.2.2.2.2.2.2.1, gx.2.2.2.2.2.2.2.1, gx.2.2.2.2.2.2.2.2.1, gx.2.2.2.2.2.2.2.2.2.1, gx.2.2.2.2.2.2.2.2.2.2.1, gx.2.2.2.2.2.2.2.2.2.2.2.1, gx.2.2.2.2.2.2.2.2.2.2.2.2.1, x13_44)) ++ wCi cI adc ((gc.1, gc.2.1, gc.2.2.1, upd c3_44 l3_4.toNatClampNeg v7, c4_44, gc.2.2.2.2.2)) ++ wSw cI cJ cZ adn gn ++ wSw cI cJ cZ adt r9.2) := hD
                        refine lv_if_eq (tgt := 112) hx hb dX2_findFaults_81 (by decide) (fun q10 => ?_) (fun q10 => ?_)
                        · replace hf := ifT q10 hf
                          exact J112 l2_44 x13_44 r9.2.1 r9.2.2.1 r9.2.2.2.1 r9.2.2.2.2.1 r9.2.2.2.2.2.1 r9.2.2.2.2.2.2.1 r9.2.2.2.2.2.2.2.1 r9.2.2.2.2.2.2.2.2.1 r9.2.2.2.2.2.2.2.2.2.1 r9.2.2.2.2.2.2.2.2.2.2 _ _ _ hf hP hD hS (lv_sub hl [0, 1, 2, 3, 4, 5, 6, 7] rfl)
                        · replace hf := ifF q10 hf
                          refine lv_aload_n hx hb dX2_findFaults_84 rfl (lv_at hl 0 rfl) ?_
                          refine va_get (D := D) (ci := 2) (v := .ref (adx 10)) (C := RX2) (T := TX2) (N := 17) hx hb hts hinX2 hown hK.1 hP 0 rfl rfl 16 (by decide) hw4 (fun _ h9 => h9) rfl dX2_findFaults_85 ?_
                          refine lv_iload_n hx hb dX2_findFaults_88 rfl (lv_at hl 2 rfl) ?_
                          refine lv_iload_n hx hb dX2_findFaults_89 rfl (lv_at hl 3 rfl) ?_
                          refine lv_sipush (v := 1000) hx hb dX2_findFaults_90 (by decide) ?_
                          refine lv_imul hx hb dX2_findFaults_93 ?_
                          refine lv_iload hx hb dX2_findFaults_94 (lv_at hl 4 rfl) ?_
                          refine lv_bipush (v := 100) hx hb dX2_findFaults_96 (by decide) ?_
                          refine lv_imul hx hb dX2_findFaults_98 ?_
                          refine lv_iadd hx hb dX2_findFaults_99 ?_
                          refine lv_aload_n hx hb dX2_findFaults_100 rfl (lv_at hl 0 rfl) ?_
                          refine va_get (D := D) (ci := 2) (v := .ref (adx 6)) (C := RX2) (T := TX2) (N := 17) hx hb hts hinX2 hown hK.1 hP 0 rfl rfl 10 (by decide) hw3 (fun _ h9 => h9) rfl dX2_findFaults_101 ?_
                          refine lv_iload hx hb dX2_findFaults_104 (lv_at hl 7 rfl) ?_
                          refine va_iald hx hb hK.1 hP 6 0 rfl rfl (ib_in h6) dX2_findFaults_106 ?_
                          refine lv_iadd hx hb dX2_findFaults_107 ?_
                          refine lv_topi (fun v11 ev11 => ?_)
                          replace hf := bndE hf ev11
                          replace hf := gdE hf
                          obtain ⟨h12, hf⟩ := hf
                          refine va_iast hx hb hK.1 hP hD hS 10 0 rfl rfl (ib_in h12) dX2_findFaults_108 (fun H locs hP hD hS => ?_)
                          replace hP : va_P D vwCl (wX cI cJ adx adc adn adt ((gx.1, gx.2.1, gx.2.2.1, gx.2.2.2.1, gx.2.2.2.2.1, gx.2.2.2.2.2.1, gx.2.2.2.2.2.2.1, gx.2.2.2.2.2.2.2.1, gx.2.2.2.2.2.2.2.2.1, gx.2.2.2.2.2.2.2.2.2.1, gx.2.2.2.2.2.2.2.2.2.2.1, gx.2.2.2.2.2.2.2.2.2.2.2.1, gx.2.2.2.2.2.2.2.2.2.2.2.2.1, upd x13_44 l2_44.toNatClampNeg v11)) ++ wCi cI adc ((gc.1, gc.2.1, gc.2.2.1, upd c3_44 l3_4.toNatClampNeg v7, c4_44, gc.2.2.2.2.2)) ++ wSw cI cJ cZ adn gn ++ wSw cI cJ cZ adt r9.2) H := hP
                          replace hD : va_D A (wX cI cJ adx adc adn adt ((gx.1, gx.2.1, gx.2.2.1, gx.2.2.2.1, gx.2.2.2.2.1, gx.2.2.2.2.2.1, gx.2.2.2.2.2.2.1, gx.2.2.2.2.2.2.2.1, gx.2.2.2.2.2.2.2.2.1, gx.2.2.2.2.2.2.2.2.2.1, gx.2.2.2.2.2.2.2.2.2.2.1, gx.2.2.2.2.2.2.2.2.2.2.2.1, gx.2.2.2.2.2.2.2.2.2.2.2.2.1, upd x13_44 l2_44.toNatClampNeg v11)) ++ wCi cI adc ((gc.1, gc.2.1, gc.2.2.1, upd c3_44 l3_4.toNatClampNeg v7, c4_44, gc.2.2.2.2.2)) ++ wSw cI cJ cZ adn gn ++ wSw cI cJ cZ adt r9.2) := hD
                          refine lv_iinc (v := l2_44 + 1) (lv' := [(2, .int (l2_44 + 1)), (0, .ref (adx 0)), (1, .int p1), (3, .int l3_4), (4, .int l4_18), (5, .ref (adc 3)), (6, .int v4), (7, .int l7_44)]) hx hb dX2_findFaults_109 hl (k := 2) rfl (by rfl) (by decide) rfl (fun ls hl => ?_)
                          exact J112 (l2_44 + 1) (upd x13_44 l2_44.toNatClampNeg v11) r9.2.1 r9.2.2.1 r9.2.2.2.1 r9.2.2.2.2.1 r9.2.2.2.2.2.1 r9.2.2.2.2.2.2.1 r9.2.2.2.2.2.2.2.1 r9.2.2.2.2.2.2.2.2.1 r9.2.2.2.2.2.2.2.2.2.1 r9.2.2.2.2.2.2.2.2.2.2 _ _ _ hf hP hD hS (lv_sub hl [1, 2, 0, 3, 4, 5, 6, 7] rfl)
                exact L44 fuel l2_18 0 x13_18 c3_18 c4_18 t0_18 t1_18 t2_18 t3_18 t4_18 t5_18 t6_18 t7_18 t8_18 t9_18 _ _ _ hf hP hD hS (lv_sub hl [3, 4, 5, 6, 7, 2, 1, 0] rfl)
              · replace hf := ifF hz30 hf
                refine xR (w2 := (wX cI cJ adx adc adn adt ((gx.1, gx.2.1, gx.2.2.1, gx.2.2.2.1, gx.2.2.2.2.1, gx.2.2.2.2.2.1, gx.2.2.2.2.2.2.1, gx.2.2.2.2.2.2.2.1, gx.2.2.2.2.2.2.2.2.1, gx.2.2.2.2.2.2.2.2.2.1, gx.2.2.2.2.2.2.2.2.2.2.1, gx.2.2.2.2.2.2.2.2.2.2.2.1, gx.2.2.2.2.2.2.2.2.2.2.2.2.1, x13_18)) ++ wCi cI adc ((gc.1, gc.2.1, gc.2.2.1, c3_18, c4_18, gc.2.2.2.2.2)) ++ wSw cI cJ cZ adn gn ++ wSw cI cJ cZ adt ((t0_18, t1_18, t2_18, t3_18, t4_18, t5_18, t6_18, t7_18, t8_18, t9_18)))) (wr := (wX cI cJ adx adc adn adt ((gx.1, gx.2.1, gx.2.2.1, gx.2.2.2.1, gx.2.2.2.2.1, gx.2.2.2.2.2.1, gx.2.2.2.2.2.2.1, gx.2.2.2.2.2.2.2.1, gx.2.2.2.2.2.2.2.2.1, gx.2.2.2.2.2.2.2.2.2.1, gx.2.2.2.2.2.2.2.2.2.2.1, gx.2.2.2.2.2.2.2.2.2.2.2.1, gx.2.2.2.2.2.2.2.2.2.2.2.2.1, x13_18)) ++ wSw cI cJ cZ adn gn ++ wSw cI cJ cZ adt ((t0_18, t1_18, t2_18, t3_18, t4_18, t5_18, t6_18, t7_18, t8_18, t9_18)))) (va_runV (As := [.int l4_18]) (rest := []) ⟨hx, hb, hml, hown, hts⟩ (c_X0_ratesOf_f l D cI cJ cZ adc ((gc.1, gc.2.1, gc.2.2.1, c3_18, c4_18, gc.2.2.2.2.2)) l4_18 hz30 _) (cwV 1 hts gX2_findFaults_X0_ratesOf rfl rfl rfl (by decide +kernel) ⟨Nat.le_of_ble_eq_true rfl, Nat.le_of_ble_eq_true rfl⟩) ⟨PreW.blind, xRecv (q0 := 11) hK hP rfl rfl, (xPre hK hP hD [11, 12, 13, 14, 15, 16, 17, 18, 19, 20, 21] rfl (by decide) _)⟩ rfl rfl hl.1 rfl (lv_room (Nat.le_of_ble_eq_true rfl)) dX2_findFaults_30 ⟨Nat.le_of_ble_eq_true rfl, Nat.le_of_ble_eq_true rfl⟩) hP hD hS hA [11, 12, 13, 14, 15, 16, 17, 18, 19, 20, 21] [0, 1, 2, 3, 4, 5, 6, 7, 8, 9, 10, 22, 23, 24, 25, 26, 27, 28, 29, 30, 31] [0, 1, 2, 3, 4, 5, 6, 7, 8, 9, 10, 21, 22, 23, 24, 25, 26, 27, 28, 29, 30, 31, 11, 12, 13, 14, 15, 16, 17, 18, 19, 20] rfl rfl (by decide) (by decide) rfl (by decide) (fun H locs hP hD hS => ?_)
                refine lv_astore (lv' := [(5, .ref (adc 4)), (0, .ref (adx 0)), (1, .int p1), (2, .int l2_18), (3, .int l3_4), (4, .int l4_18)]) hx hb dX2_findFaults_33 hl (by decide) rfl (fun ls hl => ?_)
                refine lv_aload hx hb dX2_findFaults_35 (lv_at hl 0 rfl) ?_
                refine lv_iload_n hx hb dX2_findFaults_37 rfl (lv_at hl 4 rfl) ?_
                replace hf := gdE hf
                obtain ⟨h13, hf⟩ := hf
                refine va_iald hx hb hK.1 hP 15 0 rfl rfl (ib_in h13) dX2_findFaults_38 ?_
                refine lv_topi (fun v14 ev14 => ?_)
                replace hf := bndE hf ev14
                refine lv_istore (lv' := [(6, .int v14), (5, .ref (adc 4)), (0, .ref (adx 0)), (1, .int p1), (2, .int l2_18), (3, .int l3_4), (4, .int l4_18)]) hx hb dX2_findFaults_39 hl (by decide) rfl (fun ls hl => ?_)
                refine lv_iconst (v := 0) hx hb dX2_findFaults_41 (by decide) ?_
                refine lv_istore (lv' := [(7, .int 0), (6, .int v14), (5, .ref (adc 4)), (0, .ref (adx 0)), (1, .int p1), (2, .int l2_18), (3, .int l3_4), (4, .int l4_18)]) hx hb dX2_findFaults_42 hl (by decide) rfl (fun ls hl => ?_)
                have L44 : ∀ (n : Nat) (l2_44 : Int32) (l7_44 : Int32) (x13_44 : Ar) (c3_44 : Ar) (c4_44 : Ar) (t0_44 : Int64) (t1_44 : Int64) (t2_44 : Al) (t3_44 : Al) (t4_44 : Ar) (t5_44 : Ar) (t6_44 : Int32) (t7_44 : Int32) (t8_44 : Int64) (t9_44 : Int64) (H : Heap) (locs : List Loc) (ls : Array Slot), f_X2_findFaults_L44f gx gc p1 l3_4 l4_18 rec18 v14 n l2_44 l7_44 x13_44 c3_44 c4_44 t0_44 t1_44 t2_44 t3_44 t4_44 t5_44 t6_44 t7_44 t8_44 t9_44 = some o → va_P D vwCl (wX cI cJ adx adc adn adt ((gx.1, gx.2.1, gx.2.2.1, gx.2.2.2.1, gx.2.2.2.2.1, gx.2.2.2.2.2.1, gx.2.2.2.2.2.2.1, gx.2.2.2.2.2.2.2.1, gx.2.2.2.2.2.2.2.2.1, gx.2.2.2.2.2.2.2.2.2.1, gx.2.2.2.2.2.2.2.2.2.2.1, gx.2.2.2.2.2.2.2.2.2.2.2.1, gx.2.2.2.2.2.2.2.2.2.2.2.2.1, x13_44)) ++ wCi cI adc ((gc.1, gc.2.1, gc.2.2.1, c3_44, c4_44, gc.2.2.2.2.2)) ++ wSw cI cJ cZ adn gn ++ wSw cI cJ cZ adt ((t0_44, t1_44, t2_44, t3_44, t4_44, t5_44, t6_44, t7_44, t8_44, t9_44))) H → va_D A (wX cI cJ adx adc adn adt ((gx.1, gx.2.1, gx.2.2.1, gx.2.2.2.1, gx.2.2.2.2.1, gx.2.2.2.2.2.1, gx.2.2.2.2.2.2.1, gx.2.2.2.2.2.2.2.1, gx.2.2.2.2.2.2.2.2.1, gx.2.2.2.2.2.2.2.2.2.1, gx.2.2.2.2.2.2.2.2.2.2.1, gx.2.2.2.2.2.2.2.2.2.2.2.1, gx.2.2.2.2.2.2.2.2.2.2.2.2.1, x13_44)) ++ wCi cI adc ((gc.1, gc.2.1, gc.2.2.1, c3_44, c4_44, gc.2.2.2.2.2)) ++ wSw cI cJ cZ adn gn ++ wSw cI cJ cZ adt ((t0_44, t1_44, t2_44, t3_44, t4_44, t5_44, t6_44, t7_44, t8_44, t9_44))) → va_S A s.heap H locs → lv_has ls 8 [(0, .ref (adx 0)), (1, .int p1), (2, .int l2_44), (3, .int l3_4), (4, .int l4_18), (5, .ref (adc 4)), (6, .int v14), (7, .int l7_44)] → W p l e (headSpec wsX2_findFaults rmX2_findFaults).room s m ([.ref (adx 0), .int p1] : List Value).toArray below meth c H locs 0 0 (MQ below (QI D A o.1 (wX cI cJ adx adc adn adt ((gx.1, gx.2.1, gx.2.2.1, gx.2.2.2.1, gx.2.2.2.2.1, gx.2.2.2.2.2.1, gx.2.2.2.2.2.2.1, gx.2.2.2.2.2.2.2.1, gx.2.2.2.2.2.2.2.2.1, gx.2.2.2.2.2.2.2.2.2.1, gx.2.2.2.2.2.2.2.2.2.2.1, gx.2.2.2.2.2.2.2.2.2.2.2.1, gx.2.2.2.2.2.2.2.2.2.2.2.2.1, o.2.1)) ++ wCi cI adc ((gc.1, gc.2.1, gc.2.2.1, o.2.2.1, o.2.2.2.1, gc.2.2.2.2.2)) ++ wSw cI cJ cZ adn gn ++ wSw cI cJ cZ adt o.2.2.2.2)) ([.ref (adx 0), .int p1] : List Value).toArray s 0 0 A) (F0 m 44 ls []) := by
                  intro n
                  induction n with
                  | zero => intro l2_44 l7_44 x13_44 c3_44 c4_44 t0_44 t1_44 t2_44 t3_44 t4_44 t5_44 t6_44 t7_44 t8_44 t9_44 H locs ls hf; cases hf
                  | succ n ih44 =>
                    intro l2_44 l7_44 x13_44 c3_44 c4_44 t0_44 t1_44 t2_44 t3_44 t4_44 t5_44 t6_44 t7_44 t8_44 t9_44 H locs ls hf hP hD hS hl
                    replace hf : f_X2_findFaults_B44f gx gc p1 l3_4 l4_18 rec18 v14 (f_X2_findFaults_L44f gx gc p1 l3_4 l4_18 rec18 v14 n) l2_44 l7_44 x13_44 c3_44 c4_44 t0_44 t1_44 t2_44 t3_44 t4_44 t5_44 t6_44 t7_44 t8_44 t9_44 = some o := hf
                    generalize f_X2_findFaults_L44f gx gc p1 l3_4 l4_18 rec18 v14 n = rec44 at ih44 hf
                    unfold f_X2_findFaults_B44f at hf
                    refine lv_iload hx hb dX2_findFaults_44 (lv_at hl 7 rfl) ?_
                    refine lv_aload_n hx hb dX2_findFaults_46 rfl (lv_at hl 0 rfl) ?_
                    refine va_get (D := D) (ci := 2) (v := .int gx.2.2.2.2.2.2.2.2.1) (C := RX2) (T := TX2) (N := 17) hx hb hts hinX2 hown hK.1 hP 0 rfl rfl 11 (by decide) hw2 (fun _ h9 => h9) rfl dX2_findFaults_47 ?_
                    refine lv_icmp_ge (tgt := 118) hx hb dX2_findFaults_50 (by decide) (fun q15 => ?_) (fun q15 => ?_)
                    · replace hf := ifT q15 hf
                      refine lv_aload hx hb dX2_findFaults_118 (lv_at hl 5 rfl) ?_
                      refine lv_iload_n hx hb dX2_findFaults_120 rfl (lv_at hl 3 rfl) ?_
                      refine lv_iload hx hb dX2_findFaults_121 (lv_at hl 6 rfl) ?_
                      refine va_iast hx hb hK.1 hP hD hS 15 0 rfl rfl (ib_in h13) dX2_findFaults_123 (fun H locs hP hD hS => ?_)
                      replace hP : va_P D vwCl (wX cI cJ adx adc adn adt ((gx.1, gx.2.1, gx.2.2.1, gx.2.2.2.1, gx.2.2.2.2.1, gx.2.2.2.2.2.1, gx.2.2.2.2.2.2.1, gx.2.2.2.2.2.2.2.1, gx.2.2.2.2.2.2.2.2.1, gx.2.2.2.2.2.2.2.2.2.1, gx.2.2.2.2.2.2.2.2.2.2.1, gx.2.2.2.2.2.2.2.2.2.2.2.1, gx.2.2.2.2.2.2.2.2.2.2.2.2.1, x13_44)) ++ wCi cI adc ((gc.1, gc.2.1, gc.2.2.1, c3_44, upd c4_44 l3_4.toNatClampNeg v14, gc.2.2.2.2.2)) ++ wSw cI cJ cZ adn gn ++ wSw cI cJ cZ adt ((t0_44, t1_44, t2_44, t3_44, t4_44, t5_44, t6_44, t7_44, t8_44, t9_44))) H := hP
                      replace hD : va_D A (wX cI cJ adx adc adn adt ((gx.1, gx.2.1, gx.2.2.1, gx.2.2.2.1, gx.2.2.2.2.1, gx.2.2.2.2.2.1, gx.2.2.2.2.2.2.1, gx.2.2.2.2.2.2.2.1, gx.2.2.2.2.2.2.2.2.1, gx.2.2.2.2.2.2.2.2.2.1, gx.2.2.2.2.2.2.2.2.2.2.1, gx.2.2.2.2.2.2.2.2.2.2.2.1, gx.2.2.2.2.2.2.2.2.2.2.2.2.1, x13_44)) ++ wCi cI adc ((gc.1, gc.2.1, gc.2.2.1, c3_44, upd c4_44 l3_4.toNatClampNeg v14, gc.2.2.2.2.2)) ++ wSw cI cJ cZ adn gn ++ wSw cI cJ cZ adt ((t0_44, t1_44, t2_44, t3_44, t4_44, t5_44, t6_44, t7_44, t8_44, t9_44))) := hD
                      refine lv_iinc (v := l4_18 + 1) (lv' := [(4, .int (l4_18 + 1)), (0, .ref (adx 0)), (1, .int p1), (2, .int l2_44), (3, .int l3_4), (5, .ref (adc 4)), (6, .int v14), (7, .int l7_44)]) hx hb dX2_findFaults_124 hl (k := 4) rfl (by rfl) (by decide) rfl (fun ls hl => ?_)
                      refine lv_goto (tgt := 18) hx hb dX2_findFaults_127 (by decide) ?_
                      exact ih18 l2_44 (l4_18 + 1) x13_44 c3_44 (upd c4_44 l3_4.toNatClampNeg v14) t0_44 t1_44 t2_44 t3_44 t4_44 t5_44 t6_44 t7_44 t8_44 t9_44 _ _ _ hf hP hD hS (lv_sub hl [1, 2, 3, 4, 0] rfl)
                    · replace hf := ifF q15 hf
                      refine lv_aload hx hb dX2_findFaults_53 (lv_at hl 5 rfl) ?_
                      refine lv_iload_n hx hb dX2_findFaults_55 rfl (lv_at hl 3 rfl) ?_
                      refine lv_aload_n hx hb dX2_findFaults_56 rfl (lv_at hl 0 rfl) ?_
                      refine va_get (D := D) (ci := 2) (v := .ref (adx 6)) (C := RX2) (T := TX2) (N := 17) hx hb hts hinX2 hown hK.1 hP 0 rfl rfl 10 (by decide) hw3 (fun _ h9 => h9) rfl dX2_findFaults_57 ?_
                      refine lv_iload hx hb dX2_findFaults_60 (lv_at hl 7 rfl) ?_
                      replace hf := gdE hf
                      obtain ⟨h16, hf⟩ := hf
                      refine va_iald hx hb hK.1 hP 6 0 rfl rfl (ib_in h16) dX2_findFaults_62 ?_
                      refine lv_topi (fun v17 ev17 => ?_)
                      replace hf := bndE hf ev17
                      refine va_iast hx hb hK.1 hP hD hS 15 0 rfl rfl (ib_in h13) dX2_findFaults_63 (fun H locs hP hD hS => ?_)
                      replace hP : va_P D vwCl (wX cI cJ adx adc adn adt ((gx.1, gx.2.1, gx.2.2.1, gx.2.2.2.1, gx.2.2.2.2.1, gx.2.2.2.2.2.1, gx.2.2.2.2.2.2.1, gx.2.2.2.2.2.2.2.1, gx.2.2.2.2.2.2.2.2.1, gx.2.2.2.2.2.2.2.2.2.1, gx.2.2.2.2.2.2.2.2.2.2.1, gx.2.2.2.2.2.2.2.2.2.2.2.1, gx.2.2.2.2.2.2.2.2.2.2.2.2.1, x13_44)) ++ wCi cI adc ((gc.1, gc.2.1, gc.2.2.1, c3_44, upd c4_44 l3_4.toNatClampNeg v17, gc.2.2.2.2.2)) ++ wSw cI cJ cZ adn gn ++ wSw cI cJ cZ adt ((t0_44, t1_44, t2_44, t3_44, t4_44, t5_44, t6_44, t7_44, t8_44, t9_44))) H := hP
                      replace hD : va_D A (wX cI cJ adx adc adn adt ((gx.1, gx.2.1, gx.2.2.1, gx.2.2.2.1, gx.2.2.2.2.1, gx.2.2.2.2.2.1, gx.2.2.2.2.2.2.1, gx.2.2.2.2.2.2.2.1, gx.2.2.2.2.2.2.2.2.1, gx.2.2.2.2.2.2.2.2.2.1, gx.2.2.2.2.2.2.2.2.2.2.1, gx.2.2.2.2.2.2.2.2.2.2.2.1, gx.2.2.2.2.2.2.2.2.2.2.2.2.1, x13_44)) ++ wCi cI adc ((gc.1, gc.2.1, gc.2.2.1, c3_44, upd c4_44 l3_4.toNatClampNeg v17, gc.2.2.2.2.2)) ++ wSw cI cJ cZ adn gn ++ wSw cI cJ cZ adt ((t0_44, t1_44, t2_44, t3_44, t4_44, t5_44, t6_44, t7_44, t8_44, t9_44))) := hD
                      refine lv_aload_n hx hb dX2_findFaults_64 rfl (lv_at hl 0 rfl) ?_
                      refine va_get (D := D) (ci := 2) (v := .ref (adx 6)) (C := RX2) (T := TX2) (N := 17) hx hb hts hinX2 hown hK.1 hP 0 rfl rfl 10 (by decide) hw3 (fun _ h9 => h9) rfl dX2_findFaults_65 ?_
                      refine lv_iload hx hb dX2_findFaults_68 (lv_at hl 7 rfl) ?_
                      refine va_iald hx hb hK.1 hP 6 0 rfl rfl (ib_in h16) dX2_findFaults_70 ?_
                      refine lv_iload hx hb dX2_findFaults_71 (lv_at hl 6 rfl) ?_
                      have J112 : ∀ (l2_112 : Int32) (x13_112 : Ar) (t0_112 : Int64) (t1_112 : Int64) (t2_112 : Al) (t3_112 : Al) (t4_112 : Ar) (t5_112 : Ar) (t6_112 : Int32) (t7_112 : Int32) (t8_112 : Int64) (t9_112 : Int64) (H : Heap) (locs : List Loc) (ls : Array Slot), f_X2_findFaults_J112f l3_4 l7_44 c3_44 c4_44 rec44 v17 l2_112 x13_112 t0_112 t1_112 t2_112 t3_112 t4_112 t5_112 t6_112 t7_112 t8_112 t9_112 = some o → va_P D vwCl (wX cI cJ adx adc adn adt ((gx.1, gx.2.1, gx.2.2.1, gx.2.2.2.1, gx.2.2.2.2.1, gx.2.2.2.2.2.1, gx.2.2.2.2.2.2.1, gx.2.2.2.2.2.2.2.1, gx.2.2.2.2.2.2.2.2.1, gx.2.2.2.2.2.2.2.2.2.1, gx.2.2.2.2.2.2.2.2.2.2.1, gx.2.2.2.2.2.2.2.2.2.2.2.1, gx.2.2.2.2.2.2.2.2.2.2.2.2.1, x13_112)) ++ wCi cI adc ((gc.1, gc.2.1, gc.2.2.1, c3_44, upd c4_44 l3_4.toNatClampNeg v17, gc.2.2.2.2.2)) ++ wSw cI cJ cZ adn gn ++ wSw cI cJ cZ adt ((t0_112, t1_112, t2_112, t3_112, t4_112, t5_112, t6_112, t7_112, t8_112, t9_112))) H → va_D A (wX cI cJ adx adc adn adt ((gx.1, gx.2.1, gx.2.2.1, gx.2.2.2.1, gx.2.2.2.2.1, gx.2.2.2.2.2.1, gx.2.2.2.2.2.2.1, gx.2.2.2.2.2.2.2.1, gx.2.2.2.2.2.2.2.2.1, gx.2.2.2.2.2.2.2.2.2.1, gx.2.2.2.2.2.2.2.2.2.2.1, gx.2.2.2.2.2.2.2.2.2.2.2.1, gx.2.2.2.2.2.2.2.2.2.2.2.2.1, x13_112)) ++ wCi cI adc ((gc.1, gc.2.1, gc.2.2.1, c3_44, upd c4_44 l3_4.toNatClampNeg v17, gc.2.2.2.2.2)) ++ wSw cI cJ cZ adn gn ++ wSw cI cJ cZ adt ((t0_112, t1_112, t2_112, t3_112, t4_112, t5_112, t6_112, t7_112, t8_112, t9_112))) → va_S A s.heap H locs → lv_has ls 8 [(0, .ref (adx 0)), (1, .int p1), (2, .int l2_112), (3, .int l3_4), (4, .int l4_18), (5, .ref (adc 4)), (6, .int v14), (7, .int l7_44)] → W p l e (headSpec wsX2_findFaults rmX2_findFaults).room s m ([.ref (adx 0), .int p1] : List Value).toArray below meth c H locs 0 0 (MQ below (QI D A o.1 (wX cI cJ adx adc adn adt ((gx.1, gx.2.1, gx.2.2.1, gx.2.2.2.1, gx.2.2.2.2.1, gx.2.2.2.2.2.1, gx.2.2.2.2.2.2.1, gx.2.2.2.2.2.2.2.1, gx.2.2.2.2.2.2.2.2.1, gx.2.2.2.2.2.2.2.2.2.1, gx.2.2.2.2.2.2.2.2.2.2.1, gx.2.2.2.2.2.2.2.2.2.2.2.1, gx.2.2.2.2.2.2.2.2.2.2.2.2.1, o.2.1)) ++ wCi cI adc ((gc.1, gc.2.1, gc.2.2.1, o.2.2.1, o.2.2.2.1, gc.2.2.2.2.2)) ++ wSw cI cJ cZ adn gn ++ wSw cI cJ cZ adt o.2.2.2.2)) ([.ref (adx 0), .int p1] : List Value).toArray s 0 0 A) (F0 m 112 ls []) := by
                        intro l2_112 x13_112 t0_112 t1_112 t2_112 t3_112 t4_112 t5_112 t6_112 t7_112 t8_112 t9_112 H locs ls hf hP hD hS hl
                        unfold f_X2_findFaults_J112f at hf
                        refine lv_iinc (v := l7_44 + 1) (lv' := [(7, .int (l7_44 + 1)), (0, .ref (adx 0)), (1, .int p1), (2, .int l2_112), (3, .int l3_4), (4, .int l4_18), (5, .ref (adc 4)), (6, .int v14)]) hx hb dX2_findFaults_112 hl (k := 7) rfl (by rfl) (by decide) rfl (fun ls hl => ?_)
                        refine lv_goto (tgt := 44) hx hb dX2_findFaults_115 (by decide) ?_
                        exact ih44 l2_112 (l7_44 + 1) x13_112 c3_44 (upd c4_44 l3_4.toNatClampNeg v17) t0_112 t1_112 t2_112 t3_112 t4_112 t5_112 t6_112 t7_112 t8_112 t9_112 _ _ _ hf hP hD hS (lv_sub hl [1, 2, 3, 4, 5, 6, 7, 0] rfl)
                      refine lv_icmp_eq (tgt := 112) hx hb dX2_findFaults_73 (by decide) (fun q18 => ?_) (fun q18 => ?_)
                      · replace hf := ifT q18 hf
                        exact J112 l2_44 x13_44 t0_44 t1_44 t2_44 t3_44 t4_44 t5_44 t6_44 t7_44 t8_44 t9_44 _ _ _ hf hP hD hS (lv_sub hl [0, 1, 2, 3, 4, 5, 6, 7] rfl)
                      · replace hf := ifF q18 hf
                        refine lv_aload_n hx hb dX2_findFaults_76 rfl (lv_at hl 0 rfl) ?_
                        refine lv_iload_n hx hb dX2_findFaults_77 rfl (lv_at hl 1 rfl) ?_
                        replace hf := bdE hf
                        obtain ⟨r19, hgr19, hf⟩ := hf
                        refine xIw (va_runV (As := [.int p1]) (rest := []) ⟨hx, hb, hml, hown, hts⟩ (c_X2_isMeasuredSo l D cI cJ cZ adx adc adn adt ((gx.1, gx.2.1, gx.2.2.1, gx.2.2.2.1, gx.2.2.2.2.1, gx.2.2.2.2.2.1, gx.2.2.2.2.2.2.1, gx.2.2.2.2.2.2.2.1, gx.2.2.2.2.2.2.2.2.1, gx.2.2.2.2.2.2.2.2.2.1, gx.2.2.2.2.2.2.2.2.2.2.1, gx.2.2.2.2.2.2.2.2.2.2.2.1, gx.2.2.2.2.2.2.2.2.2.2.2.2.1, x13_44)) ((gc.1, gc.2.1, gc.2.2.1, c3_44, upd c4_44 l3_4.toNatClampNeg v17, gc.2.2.2.2.2)) gn ((t0_44, t1_44, t2_44, t3_44, t4_44, t5_44, t6_44, t7_44, t8_44, t9_44)) p1 r19 hgr19 _) (cwV 1 hts gX2_findFaults_X2_isMeasuredSo rfl rfl rfl (by decide +kernel) ⟨Nat.le_of_ble_eq_true rfl, Nat.le_of_ble_eq_true rfl⟩) ⟨PreW.blind, xRecv (q0 := 0) hK hP rfl rfl, (xPrew hK hP hD _)⟩ rfl rfl hl.1 rfl (lv_room (Nat.le_of_ble_eq_true rfl)) dX2_findFaults_78 ⟨Nat.le_of_ble_eq_true rfl, Nat.le_of_ble_eq_true rfl⟩) hD hS hA (fun H locs hP hD hS => ?_)
                        replace hP : va_P D vwCl (wX cI cJ adx adc adn adt ((gx.1, gx.2.1, gx.2.2.1, gx.2.2.2.1, gx.2.2.2.2.1, gx.2.2.2.2.2.1, gx.2.2.2.2.2.2.1, gx.2.2.2.2.2.2.2.1, gx.2.2.2.2.2.2.2.2.1, gx.2.2.2.2.2.2.2.2.2.1, gx.2.2.2.2.2.2.2.2.2.2.1, gx.2.2.2.2.2.2.2.2.2.2.2.1, gx.2.2.2.2.2.2.2.2.2.2.2.2.1, x13_44)) ++ wCi cI adc ((gc.1, gc.2.1, gc.2.2.1, c3_44, upd c4_44 l3_4.toNatClampNeg v17, gc.2.2.2.2.2)) ++ wSw cI cJ cZ adn gn ++ wSw cI cJ cZ adt r19.2) H := hP
                        replace hD : va_D A (wX cI cJ adx adc adn adt ((gx.1, gx.2.1, gx.2.2.1, gx.2.2.2.1, gx.2.2.2.2.1, gx.2.2.2.2.2.1, gx.2.2.2.2.2.2.1, gx.2.2.2.2.2.2.2.1, gx.2.2.2.2.2.2.2.2.1, gx.2.2.2.2.2.2.2.2.2.1, gx.2.2.2.2.2.2.2.2.2.2.1, gx.2.2.2.2.2.2.2.2.2.2.2.1, gx.2.2.2.2.2.2.2.2.2.2.2.2.1, x13_44)) ++ wCi cI adc ((gc.1, gc.2.1, gc.2.2.1, c3_44, upd c4_44 l3_4.toNatClampNeg v17, gc.2.2.2.2.2)) ++ wSw cI cJ cZ adn gn ++ wSw cI cJ cZ adt r19.2) := hD
                        refine lv_if_eq (tgt := 112) hx hb dX2_findFaults_81 (by decide) (fun q20 => ?_) (fun q20 => ?_)
                        · replace hf := ifT q20 hf
                          exact J112 l2_44 x13_44 r19.2.1 r19.2.2.1 r19.2.2.2.1 r19.2.2.2.2.1 r19.2.2.2.2.2.1 r19.2.2.2.2.2.2.1 r19.2.2.2.2.2.2.2.1 r19.2.2.2.2.2.2.2.2.1 r19.2.2.2.2.2.2.2.2.2.1 r19.2.2.2.2.2.2.2.2.2.2 _ _ _ hf hP hD hS (lv_sub hl [0, 1, 2, 3, 4, 5, 6, 7] rfl)
                        · replace hf := ifF q20 hf
                          refine lv_aload_n hx hb dX2_findFaults_84 rfl (lv_at hl 0 rfl) ?_
                          refine va_get (D := D) (ci := 2) (v := .ref (adx 10)) (C := RX2) (T := TX2) (N := 17) hx hb hts hinX2 hown hK.1 hP 0 rfl rfl 16 (by decide) hw4 (fun _ h9 => h9) rfl dX2_findFaults_85 ?_
                          refine lv_iload_n hx hb dX2_findFaults_88 rfl (lv_at hl 2 rfl) ?_
                          refine lv_iload_n hx hb dX2_findFaults_89 rfl (lv_at hl 3 rfl) ?_
                          refine lv_sipush (v := 1000) hx hb dX2_findFaults_90 (by decide) ?_
                          refine lv_imul hx hb dX2_findFaults_93 ?_
                          refine lv_iload hx hb dX2_findFaults_94 (lv_at hl 4 rfl) ?_
                          refine lv_bipush (v := 100) hx hb dX2_findFaults_96 (by decide) ?_
                          refine lv_imul hx hb dX2_findFaults_98 ?_
                          refine lv_iadd hx hb dX2_findFaults_99 ?_
                          refine lv_aload_n hx hb dX2_findFaults_100 rfl (lv_at hl 0 rfl) ?_
                          refine va_get (D := D) (ci := 2) (v := .ref (adx 6)) (C := RX2) (T := TX2) (N := 17) hx hb hts hinX2 hown hK.1 hP 0 rfl rfl 10 (by decide) hw3 (fun _ h9 => h9) rfl dX2_findFaults_101 ?_
                          refine lv_iload hx hb dX2_findFaults_104 (lv_at hl 7 rfl) ?_
                          refine va_iald hx hb hK.1 hP 6 0 rfl rfl (ib_in h16) dX2_findFaults_106 ?_
                          refine lv_iadd hx hb dX2_findFaults_107 ?_
                          refine lv_topi (fun v21 ev21 => ?_)
                          replace hf := bndE hf ev21
                          replace hf := gdE hf
                          obtain ⟨h22, hf⟩ := hf
                          refine va_iast hx hb hK.1 hP hD hS 10 0 rfl rfl (ib_in h22) dX2_findFaults_108 (fun H locs hP hD hS => ?_)
                          replace hP : va_P D vwCl (wX cI cJ adx adc adn adt ((gx.1, gx.2.1, gx.2.2.1, gx.2.2.2.1, gx.2.2.2.2.1, gx.2.2.2.2.2.1, gx.2.2.2.2.2.2.1, gx.2.2.2.2.2.2.2.1, gx.2.2.2.2.2.2.2.2.1, gx.2.2.2.2.2.2.2.2.2.1, gx.2.2.2.2.2.2.2.2.2.2.1, gx.2.2.2.2.2.2.2.2.2.2.2.1, gx.2.2.2.2.2.2.2.2.2.2.2.2.1, upd x13_44 l2_44.toNatClampNeg v21)) ++ wCi cI adc ((gc.1, gc.2.1, gc.2.2.1, c3_44, upd c4_44 l3_4.toNatClampNeg v17, gc.2.2.2.2.2)) ++ wSw cI cJ cZ adn gn ++ wSw cI cJ cZ adt r19.2) H := hP
                          replace hD : va_D A (wX cI cJ adx adc adn adt ((gx.1, gx.2.1, gx.2.2.1, gx.2.2.2.1, gx.2.2.2.2.1, gx.2.2.2.2.2.1, gx.2.2.2.2.2.2.1, gx.2.2.2.2.2.2.2.1, gx.2.2.2.2.2.2.2.2.1, gx.2.2.2.2.2.2.2.2.2.1, gx.2.2.2.2.2.2.2.2.2.2.1, gx.2.2.2.2.2.2.2.2.2.2.2.1, gx.2.2.2.2.2.2.2.2.2.2.2.2.1, upd x13_44 l2_44.toNatClampNeg v21)) ++ wCi cI adc ((gc.1, gc.2.1, gc.2.2.1, c3_44, upd c4_44 l3_4.toNatClampNeg v17, gc.2.2.2.2.2)) ++ wSw cI cJ cZ adn gn ++ wSw cI cJ cZ adt r19.2) := hD
                          refine lv_iinc (v := l2_44 + 1) (lv' := [(2, .int (l2_44 + 1)), (0, .ref (adx 0)), (1, .int p1), (3, .int l3_4), (4, .int l4_18), (5, .ref (adc 4)), (6, .int v14), (7, .int l7_44)]) hx hb dX2_findFaults_109 hl (k := 2) rfl (by rfl) (by decide) rfl (fun ls hl => ?_)
                          exact J112 (l2_44 + 1) (upd x13_44 l2_44.toNatClampNeg v21) r19.2.1 r19.2.2.1 r19.2.2.2.1 r19.2.2.2.2.1 r19.2.2.2.2.2.1 r19.2.2.2.2.2.2.1 r19.2.2.2.2.2.2.2.1 r19.2.2.2.2.2.2.2.2.1 r19.2.2.2.2.2.2.2.2.2.1 r19.2.2.2.2.2.2.2.2.2.2 _ _ _ hf hP hD hS (lv_sub hl [1, 2, 0, 3, 4, 5, 6, 7] rfl)
                exact L44 fuel l2_18 0 x13_18 c3_18 c4_18 t0_18 t1_18 t2_18 t3_18 t4_18 t5_18 t6_18 t7_18 t8_18 t9_18 _ _ _ hf hP hD hS (lv_sub hl [3, 4, 5, 6, 7, 2, 1, 0] rfl)
        exact L18 fuel l2_4 0 x13_4 c3_4 c4_4 t0_4 t1_4 t2_4 t3_4 t4_4 t5_4 t6_4 t7_4 t8_4 t9_4 _ _ _ hf hP hD hS (lv_sub hl [1, 2, 3, 4, 0] rfl)
  exact L4 fuel 0 0 gx.2.2.2.2.2.2.2.2.2.2.2.2.2 gc.2.2.2.1 gc.2.2.2.2.1 gt.1 gt.2.1 gt.2.2.1 gt.2.2.2.1 gt.2.2.2.2.1 gt.2.2.2.2.2.1 gt.2.2.2.2.2.2.1 gt.2.2.2.2.2.2.2.1 gt.2.2.2.2.2.2.2.2.1 gt.2.2.2.2.2.2.2.2.2 _ _ _ hf hP hD hS (lv_sub hl [2, 3, 1, 0] rfl)

def f_X2_parts (gx : Xo) (gc : Ci) (p1 : Int32) (p2 : Int32) (p3 : Int32) : Option (Int32 × Ar) :=
(f_X2_isCell gc p1).bind (fun r1 =>
if (b2i r1) = 0 then
some ((-1), gx.2.2.2.2.2.2.2.2.2.2.2.2.1)
else
(f_X2_isTerm p2).bind (fun r3 =>
if (b2i r3) = 0 then
some ((-1), gx.2.2.2.2.2.2.2.2.2.2.2.2.1)
else
(f_X2_isTerm p3).bind (fun r5 =>
if (b2i r5) = 0 then
some ((-1), gx.2.2.2.2.2.2.2.2.2.2.2.2.1)
else
(f_X2_findWays gx gc p1 p2.toInt64 p3.toInt64).bind (fun r7 =>
some (r7.1, r7.2)))))
abbrev rmX2_parts : Room := { frames := 2, cells := 0, slots := 0, locals := 51 }
set_option maxHeartbeats 40000000 in
set_option maxRecDepth 100000 in
theorem c_X2_parts (l : Launch) (D : va_G) (cI cJ cZ : ClassId) (adx : Nat → Nat) (adc : Nat → Nat) (adn : Nat → Nat) (adt : Nat → Nat) (gx : Xo) (gc : Ci) (gn : Sw) (gt : Sw) (p1 : Int32) (p2 : Int32) (p3 : Int32) (o : (Int32 × Ar)) (hf : f_X2_parts gx gc p1 p2 p3 = some o) : CtI l yX2_parts wsX2_parts rmX2_parts D cI cJ cZ [.ref (adx 0), .int p1, .int p2, .int p3] (wX cI cJ adx adc adn adt gx ++ wCi cI adc gc ++ wSw cI cJ cZ adn gn ++ wSw cI cJ cZ adt gt) (wX cI cJ adx adc adn adt ((gx.1, gx.2.1, gx.2.2.1, gx.2.2.2.1, gx.2.2.2.2.1, gx.2.2.2.2.2.1, gx.2.2.2.2.2.2.1, gx.2.2.2.2.2.2.2.1, gx.2.2.2.2.2.2.2.2.1, gx.2.2.2.2.2.2.2.2.2.1, gx.2.2.2.2.2.2.2.2.2.2.1, gx.2.2.2.2.2.2.2.2.2.2.2.1, o.2, gx.2.2.2.2.2.2.2.2.2.2.2.2.2)) ++ wCi cI adc gc ++ wSw cI cJ cZ adn gn ++ wSw cI cJ cZ adt gt) o.1 := by
  intro sz
  refine Met.ofW (cc := cX2_parts) (maxL := 4) (ret := (some .int)) (by decide) rfl ?_
  intro p e s m args below meth c s₁ B hml hv
  obtain ⟨rfl, hsz, hP, hK, hD0⟩ := hv
  have hx := B.exec
  have hb := B.bytes
  have hr := B.returns
  have hts := atoms_spec (ws := wsX2_parts) B.pre
  have hown : s.vm.findClass RX2 = some m.cls := findClass_of_methodNamed B.named
  have hlocks := B.notSynchronized
  subst hsz
  have hD := hD0.self (sz := s.heap.size)
  clear hD0
  generalize hAe : va_A (wX cI cJ adx adc adn adt gx ++ wCi cI adc gc ++ wSw cI cJ cZ adn gn ++ wSw cI cJ cZ adt gt) s.heap.size = A at hD ⊢
  have hA : ∀ q : Nat, s.heap.size ≤ q → A q := fun q h => by rw [← hAe]; exact Or.inr h
  have hS : va_S A s.heap s.heap [] := va_S.rf
  have hl := lv_entry ([.ref (adx 0), .int p1, .int p2, .int p3]) (n := 4) (Nat.le_of_ble_eq_true rfl)
  rw [lg_entry_eq]
  generalize (lg_sl ([.ref (adx 0), .int p1, .int p2, .int p3]) ++ List.replicate (4 - (lg_sl ([.ref (adx 0), .int p1, .int p2, .int p3])).length) Slot.unset).toArray = ls at hl ⊢
  replace hl : lv_has ls 4 [(0, .ref (adx 0)), (1, .int p1), (2, .int p2), (3, .int p3)] := hl
  unfold f_X2_parts at hf
  refine lv_aload_n hx hb dX2_parts_0 rfl (lv_at hl 0 rfl) ?_
  refine lv_iload_n hx hb dX2_parts_1 rfl (lv_at hl 1 rfl) ?_
  replace hf := bdE hf
  obtain ⟨r1, hgr1, hf⟩ := hf
  refine xIw (va_runV (As := [.int p1]) (rest := []) ⟨hx, hb, hml, hown, hts⟩ (c_X2_isCell l D cI cJ cZ adx adc adn adt gx gc gn gt p1 r1 hgr1 _) (cwV 1 hts gX2_parts_X2_isCell rfl rfl rfl (by decide +kernel) ⟨Nat.le_of_ble_eq_true rfl, Nat.le_of_ble_eq_true rfl⟩) ⟨PreW.blind, xRecv (q0 := 0) hK hP rfl rfl, (xPrew hK hP hD _)⟩ rfl rfl hl.1 rfl (lv_room (Nat.le_of_ble_eq_true rfl)) dX2_parts_2 ⟨Nat.le_of_ble_eq_true rfl, Nat.le_of_ble_eq_true rfl⟩) hD hS hA (fun H locs hP hD hS => ?_)
  replace hP : va_P D vwCl (wX cI cJ adx adc adn adt gx ++ wCi cI adc gc ++ wSw cI cJ cZ adn gn ++ wSw cI cJ cZ adt gt) H := hP
  replace hD : va_D A (wX cI cJ adx adc adn adt gx ++ wCi cI adc gc ++ wSw cI cJ cZ adn gn ++ wSw cI cJ cZ adt gt) := hD
  refine lv_if_eq (tgt := 34) hx hb dX2_parts_5 (by decide) (fun q2 => ?_) (fun q2 => ?_)
  · replace hf := ifT q2 hf
    refine lv_iconst (v := (-1)) hx hb dX2_parts_34 (by decide) ?_
    obtain rfl := Option.some.inj hf
    exact retI hx hb hr hlocks hP hD hS dX2_parts_35
  · replace hf := ifF q2 hf
    refine lv_iload_n hx hb dX2_parts_8 rfl (lv_at hl 2 rfl) ?_
    replace hf := bdE hf
    obtain ⟨r3, hgr3, hf⟩ := hf
    refine xI0 (va_runS (As := [.int p2]) (rest := []) ⟨hx, hb, hml, hown, hts⟩ (c_X2_isTerm l D cI cJ cZ p2 r3 hgr3 _) (va_cwS 1 hts gX2_parts_X2_isTerm rfl rfl rfl (by decide +kernel) ⟨Nat.le_of_ble_eq_true rfl, Nat.le_of_ble_eq_true rfl⟩) ⟨PreW.blind, (xPre0 hK _)⟩ rfl rfl hl.1 rfl (lv_room (Nat.le_of_ble_eq_true rfl)) dX2_parts_9 ⟨Nat.le_of_ble_eq_true rfl, Nat.le_of_ble_eq_true rfl⟩) hP hS hA (fun H locs hP hS => ?_)
    refine lv_if_eq (tgt := 34) hx hb dX2_parts_12 (by decide) (fun q4 => ?_) (fun q4 => ?_)
    · replace hf := ifT q4 hf
      refine lv_iconst (v := (-1)) hx hb dX2_parts_34 (by decide) ?_
      obtain rfl := Option.some.inj hf
      exact retI hx hb hr hlocks hP hD hS dX2_parts_35
    · replace hf := ifF q4 hf
      refine lv_iload_n hx hb dX2_parts_15 rfl (lv_at hl 3 rfl) ?_
      replace hf := bdE hf
      obtain ⟨r5, hgr5, hf⟩ := hf
      refine xI0 (va_runS (As := [.int p3]) (rest := []) ⟨hx, hb, hml, hown, hts⟩ (c_X2_isTerm l D cI cJ cZ p3 r5 hgr5 _) (va_cwS 1 hts gX2_parts_X2_isTerm rfl rfl rfl (by decide +kernel) ⟨Nat.le_of_ble_eq_true rfl, Nat.le_of_ble_eq_true rfl⟩) ⟨PreW.blind, (xPre0 hK _)⟩ rfl rfl hl.1 rfl (lv_room (Nat.le_of_ble_eq_true rfl)) dX2_parts_16 ⟨Nat.le_of_ble_eq_true rfl, Nat.le_of_ble_eq_true rfl⟩) hP hS hA (fun H locs hP hS => ?_)
      refine lv_if_eq (tgt := 34) hx hb dX2_parts_19 (by decide) (fun q6 => ?_) (fun q6 => ?_)
      · replace hf := ifT q6 hf
        refine lv_iconst (v := (-1)) hx hb dX2_parts_34 (by decide) ?_
        obtain rfl := Option.some.inj hf
        exact retI hx hb hr hlocks hP hD hS dX2_parts_35
      · replace hf := ifF q6 hf
        refine lv_aload_n hx hb dX2_parts_22 rfl (lv_at hl 0 rfl) ?_
        refine lv_iload_n hx hb dX2_parts_23 rfl (lv_at hl 1 rfl) ?_
        refine lv_iload_n hx hb dX2_parts_24 rfl (lv_at hl 2 rfl) ?_
        refine lv_i2l hx hb dX2_parts_25 rfl ?_
        refine lv_iload_n hx hb dX2_parts_26 rfl (lv_at hl 3 rfl) ?_
        refine lv_i2l hx hb dX2_parts_27 rfl ?_
        replace hf := bdE hf
        obtain ⟨r7, hgr7, hf⟩ := hf
        refine xIw (va_runV (As := [.int p1, .long p2.toInt64, .long p3.toInt64]) (rest := []) ⟨hx, hb, hml, hown, hts⟩ (c_X2_findWays l D cI cJ cZ adx adc adn adt gx gc gn gt p1 p2.toInt64 p3.toInt64 r7 hgr7 _) (cwV 3 hts gX2_parts_X2_findWays rfl rfl rfl (by decide +kernel) ⟨Nat.le_of_ble_eq_true rfl, Nat.le_of_ble_eq_true rfl⟩) ⟨PreW.blind, xRecv (q0 := 0) hK hP rfl rfl, (xPrew hK hP hD _)⟩ rfl rfl hl.1 rfl (lv_room (Nat.le_of_ble_eq_true rfl)) dX2_parts_28 ⟨Nat.le_of_ble_eq_true rfl, Nat.le_of_ble_eq_true rfl⟩) hD hS hA (fun H locs hP hD hS => ?_)
        replace hP : va_P D vwCl (wX cI cJ adx adc adn adt ((gx.1, gx.2.1, gx.2.2.1, gx.2.2.2.1, gx.2.2.2.2.1, gx.2.2.2.2.2.1, gx.2.2.2.2.2.2.1, gx.2.2.2.2.2.2.2.1, gx.2.2.2.2.2.2.2.2.1, gx.2.2.2.2.2.2.2.2.2.1, gx.2.2.2.2.2.2.2.2.2.2.1, gx.2.2.2.2.2.2.2.2.2.2.2.1, r7.2, gx.2.2.2.2.2.2.2.2.2.2.2.2.2)) ++ wCi cI adc gc ++ wSw cI cJ cZ adn gn ++ wSw cI cJ cZ adt gt) H := hP
        replace hD : va_D A (wX cI cJ adx adc adn adt ((gx.1, gx.2.1, gx.2.2.1, gx.2.2.2.1, gx.2.2.2.2.1, gx.2.2.2.2.2.1, gx.2.2.2.2.2.2.1, gx.2.2.2.2.2.2.2.1, gx.2.2.2.2.2.2.2.2.1, gx.2.2.2.2.2.2.2.2.2.1, gx.2.2.2.2.2.2.2.2.2.2.1, gx.2.2.2.2.2.2.2.2.2.2.2.1, r7.2, gx.2.2.2.2.2.2.2.2.2.2.2.2.2)) ++ wCi cI adc gc ++ wSw cI cJ cZ adn gn ++ wSw cI cJ cZ adt gt) := hD
        refine lv_goto (tgt := 35) hx hb dX2_parts_31 (by decide) ?_
        obtain rfl := Option.some.inj hf
        exact retI hx hb hr hlocks hP hD hS dX2_parts_35

def f_X2_part (gx : Xo) (gc : Ci) (p1 : Int32) (p2 : Int32) (p3 : Int32) (p4 : Int32) : Option (Int32 × Ar) :=
(f_X2_parts gx gc p1 p2 p3).bind (fun r1 =>
if p4 < 0 then
some ((-1), r1.2)
else
if r1.1 ≤ p4 then
some ((-1), r1.2)
else
gd (ib p4 100) (
some (r1.2 p4.toNatClampNeg, r1.2)))
abbrev rmX2_part : Room := { frames := 3, cells := 0, slots := 0, locals := 74 }
set_option maxHeartbeats 40000000 in
set_option maxRecDepth 100000 in
theorem c_X2_part (l : Launch) (D : va_G) (cI cJ cZ : ClassId) (adx : Nat → Nat) (adc : Nat → Nat) (adn : Nat → Nat) (adt : Nat → Nat) (gx : Xo) (gc : Ci) (gn : Sw) (gt : Sw) (p1 : Int32) (p2 : Int32) (p3 : Int32) (p4 : Int32) (o : (Int32 × Ar)) (hf : f_X2_part gx gc p1 p2 p3 p4 = some o) : CtI l yX2_part wsX2_part rmX2_part D cI cJ cZ [.ref (adx 0), .int p1, .int p2, .int p3, .int p4] (wX cI cJ adx adc adn adt gx ++ wCi cI adc gc ++ wSw cI cJ cZ adn gn ++ wSw cI cJ cZ adt gt) (wX cI cJ adx adc adn adt ((gx.1, gx.2.1, gx.2.2.1, gx.2.2.2.1, gx.2.2.2.2.1, gx.2.2.2.2.2.1, gx.2.2.2.2.2.2.1, gx.2.2.2.2.2.2.2.1, gx.2.2.2.2.2.2.2.2.1, gx.2.2.2.2.2.2.2.2.2.1, gx.2.2.2.2.2.2.2.2.2.2.1, gx.2.2.2.2.2.2.2.2.2.2.2.1, o.2, gx.2.2.2.2.2.2.2.2.2.2.2.2.2)) ++ wCi cI adc gc ++ wSw cI cJ cZ adn gn ++ wSw cI cJ cZ adt gt) o.1 := by
  intro sz
  refine Met.ofW (cc := cX2_part) (maxL := 6) (ret := (some .int)) (by decide) rfl ?_
  intro p e s m args below meth c s₁ B hml hv
  obtain ⟨rfl, hsz, hP, hK, hD0⟩ := hv
  have hx := B.exec
  have hb := B.bytes
  have hr := B.returns
  have hts := atoms_spec (ws := wsX2_part) B.pre
  have hown : s.vm.findClass RX2 = some m.cls := findClass_of_methodNamed B.named
  have hlocks := B.notSynchronized
  subst hsz
  have hD := hD0.self (sz := s.heap.size)
  clear hD0
  generalize hAe : va_A (wX cI cJ adx adc adn adt gx ++ wCi cI adc gc ++ wSw cI cJ cZ adn gn ++ wSw cI cJ cZ adt gt) s.heap.size = A at hD ⊢
  have hA : ∀ q : Nat, s.heap.size ≤ q → A q := fun q h => by rw [← hAe]; exact Or.inr h
  have hS : va_S A s.heap s.heap [] := va_S.rf
  have hinX2 : ∀ w ∈ wsX20, w ∈ wsX2_part := by decide +kernel
  have hw0 : (Cond.fieldLink RX2 66 "SwingCircuits" "waysFound" "[I").before _ s = true := hts _ (by decide +kernel)
  have hl := lv_entry ([.ref (adx 0), .int p1, .int p2, .int p3, .int p4]) (n := 6) (Nat.le_of_ble_eq_true rfl)
  rw [lg_entry_eq]
  generalize (lg_sl ([.ref (adx 0), .int p1, .int p2, .int p3, .int p4]) ++ List.replicate (6 - (lg_sl ([.ref (adx 0), .int p1, .int p2, .int p3, .int p4])).length) Slot.unset).toArray = ls at hl ⊢
  replace hl : lv_has ls 6 [(0, .ref (adx 0)), (1, .int p1), (2, .int p2), (3, .int p3), (4, .int p4)] := hl
  unfold f_X2_part at hf
  refine lv_aload_n hx hb dX2_part_0 rfl (lv_at hl 0 rfl) ?_
  refine lv_iload_n hx hb dX2_part_1 rfl (lv_at hl 1 rfl) ?_
  refine lv_iload_n hx hb dX2_part_2 rfl (lv_at hl 2 rfl) ?_
  refine lv_iload_n hx hb dX2_part_3 rfl (lv_at hl 3 rfl) ?_
  replace hf := bdE hf
  obtain ⟨r1, hgr1, hf⟩ := hf
  refine xIw (va_runV (As := [.int p1, .int p2, .int p3]) (rest := []) ⟨hx, hb, hml, hown, hts⟩ (c_X2_parts l D cI cJ cZ adx adc adn adt gx gc gn gt p1 p2 p3 r1 hgr1 _) (cwV 3 hts gX2_part_X2_parts rfl rfl rfl (by decide +kernel) ⟨Nat.le_of_ble_eq_true rfl, Nat.le_of_ble_eq_true rfl⟩) ⟨PreW.blind, xRecv (q0 := 0) hK hP rfl rfl, (xPrew hK hP hD _)⟩ rfl rfl hl.1 rfl (lv_room (Nat.le_of_ble_eq_true rfl)) dX2_part_4 ⟨Nat.le_of_ble_eq_true rfl, Nat.le_of_ble_eq_true rfl⟩) hD hS hA (fun H locs hP hD hS => ?_)
  replace hP : va_P D vwCl (wX cI cJ adx adc adn adt ((gx.1, gx.2.1, gx.2.2.1, gx.2.2.2.1, gx.2.2.2.2.1, gx.2.2.2.2.2.1, gx.2.2.2.2.2.2.1, gx.2.2.2.2.2.2.2.1, gx.2.2.2.2.2.2.2.2.1, gx.2.2.2.2.2.2.2.2.2.1, gx.2.2.2.2.2.2.2.2.2.2.1, gx.2.2.2.2.2.2.2.2.2.2.2.1, r1.2, gx.2.2.2.2.2.2.2.2.2.2.2.2.2)) ++ wCi cI adc gc ++ wSw cI cJ cZ adn gn ++ wSw cI cJ cZ adt gt) H := hP
  replace hD : va_D A (wX cI cJ adx adc adn adt ((gx.1, gx.2.1, gx.2.2.1, gx.2.2.2.1, gx.2.2.2.2.1, gx.2.2.2.2.2.1, gx.2.2.2.2.2.2.1, gx.2.2.2.2.2.2.2.1, gx.2.2.2.2.2.2.2.2.1, gx.2.2.2.2.2.2.2.2.2.1, gx.2.2.2.2.2.2.2.2.2.2.1, gx.2.2.2.2.2.2.2.2.2.2.2.1, r1.2, gx.2.2.2.2.2.2.2.2.2.2.2.2.2)) ++ wCi cI adc gc ++ wSw cI cJ cZ adn gn ++ wSw cI cJ cZ adt gt) := hD
  refine lv_istore (lv' := [(5, .int r1.1), (0, .ref (adx 0)), (1, .int p1), (2, .int p2), (3, .int p3), (4, .int p4)]) hx hb dX2_part_7 hl (by decide) rfl (fun ls hl => ?_)
  refine lv_iload hx hb dX2_part_9 (lv_at hl 5 rfl) ?_
  refine lv_if_lt (tgt := 31) hx hb dX2_part_11 (by decide) (fun q2 => ?_) (fun q2 => ?_)
  · replace hf := ifT q2 hf
    refine lv_iconst (v := (-1)) hx hb dX2_part_31 (by decide) ?_
    obtain rfl := Option.some.inj hf
    exact retI hx hb hr hlocks hP hD hS dX2_part_32
  · replace hf := ifF q2 hf
    refine lv_iload hx hb dX2_part_14 (lv_at hl 5 rfl) ?_
    refine lv_iload hx hb dX2_part_16 (lv_at hl 0 rfl) ?_
    refine lv_icmp_ge (tgt := 31) hx hb dX2_part_18 (by decide) (fun q3 => ?_) (fun q3 => ?_)
    · replace hf := ifT q3 hf
      refine lv_iconst (v := (-1)) hx hb dX2_part_31 (by decide) ?_
      obtain rfl := Option.some.inj hf
      exact retI hx hb hr hlocks hP hD hS dX2_part_32
    · replace hf := ifF q3 hf
      refine lv_aload_n hx hb dX2_part_21 rfl (lv_at hl 1 rfl) ?_
      refine va_get (D := D) (ci := 2) (v := .ref (adx 9)) (C := RX2) (T := TX2) (N := 17) hx hb hts hinX2 hown hK.1 hP 0 rfl rfl 15 (by decide) hw0 (fun _ h9 => h9) rfl dX2_part_22 ?_
      refine lv_iload hx hb dX2_part_25 (lv_at hl 5 rfl) ?_
      replace hf := gdE hf
      obtain ⟨h4, hf⟩ := hf
      refine va_iald hx hb hK.1 hP 9 0 rfl rfl (ib_in h4) dX2_part_27 ?_
      refine lv_goto (tgt := 32) hx hb dX2_part_28 (by decide) ?_
      obtain rfl := Option.some.inj hf
      exact retI hx hb hr hlocks hP hD hS dX2_part_32

def f_X2_faults (gx : Xo) (gc : Ci) (gt : Sw) (p1 : Int32) : Option (Int32 × Ar × Ar × Ar × Int64 × Int64 × Al × Al × Ar × Ar × Int32 × Int32 × Int64 × Int64) :=
(f_X2_isCell gc p1).bind (fun r1 =>
if (b2i r1) = 0 then
some ((-1), gx.2.2.2.2.2.2.2.2.2.2.2.2.2, gc.2.2.2.1, gc.2.2.2.2.1, gt.1, gt.2.1, gt.2.2.1, gt.2.2.2.1, gt.2.2.2.2.1, gt.2.2.2.2.2.1, gt.2.2.2.2.2.2.1, gt.2.2.2.2.2.2.2.1, gt.2.2.2.2.2.2.2.2.1, gt.2.2.2.2.2.2.2.2.2)
else
(f_X2_findFaults gx gc gt p1).bind (fun r3 =>
some (r3.1, r3.2.1, r3.2.2.1, r3.2.2.2.1, r3.2.2.2.2.1, r3.2.2.2.2.2.1, r3.2.2.2.2.2.2.1, r3.2.2.2.2.2.2.2.1, r3.2.2.2.2.2.2.2.2.1, r3.2.2.2.2.2.2.2.2.2.1, r3.2.2.2.2.2.2.2.2.2.2.1, r3.2.2.2.2.2.2.2.2.2.2.2.1, r3.2.2.2.2.2.2.2.2.2.2.2.2.1, r3.2.2.2.2.2.2.2.2.2.2.2.2.2)))
abbrev rmX2_faults : Room := { frames := 6, cells := 0, slots := 0, locals := 142 }
set_option maxHeartbeats 40000000 in
set_option maxRecDepth 100000 in
theorem c_X2_faults (l : Launch) (D : va_G) (cI cJ cZ : ClassId) (adx : Nat → Nat) (adc : Nat → Nat) (adn : Nat → Nat) (adt : Nat → Nat) (gx : Xo) (gc : Ci) (gn : Sw) (gt : Sw) (p1 : Int32) (o : (Int32 × Ar × Ar × Ar × Int64 × Int64 × Al × Al × Ar × Ar × Int32 × Int32 × Int64 × Int64)) (hf : f_X2_faults gx gc gt p1 = some o) : CtI l yX2_faults wsX2_faults rmX2_faults D cI cJ cZ [.ref (adx 0), .int p1] (wX cI cJ adx adc adn adt gx ++ wCi cI adc gc ++ wSw cI cJ cZ adn gn ++ wSw cI cJ cZ adt gt) (wX cI cJ adx adc adn adt ((gx.1, gx.2.1, gx.2.2.1, gx.2.2.2.1, gx.2.2.2.2.1, gx.2.2.2.2.2.1, gx.2.2.2.2.2.2.1, gx.2.2.2.2.2.2.2.1, gx.2.2.2.2.2.2.2.2.1, gx.2.2.2.2.2.2.2.2.2.1, gx.2.2.2.2.2.2.2.2.2.2.1, gx.2.2.2.2.2.2.2.2.2.2.2.1, gx.2.2.2.2.2.2.2.2.2.2.2.2.1, o.2.1)) ++ wCi cI adc ((gc.1, gc.2.1, gc.2.2.1, o.2.2.1, o.2.2.2.1, gc.2.2.2.2.2)) ++ wSw cI cJ cZ adn gn ++ wSw cI cJ cZ adt o.2.2.2.2) o.1 := by
  intro sz
  refine Met.ofW (cc := cX2_faults) (maxL := 2) (ret := (some .int)) (by decide) rfl ?_
  intro p e s m args below meth c s₁ B hml hv
  obtain ⟨rfl, hsz, hP, hK, hD0⟩ := hv
  have hx := B.exec
  have hb := B.bytes
  have hr := B.returns
  have hts := atoms_spec (ws := wsX2_faults) B.pre
  have hown : s.vm.findClass RX2 = some m.cls := findClass_of_methodNamed B.named
  have hlocks := B.notSynchronized
  subst hsz
  have hD := hD0.self (sz := s.heap.size)
  clear hD0
  generalize hAe : va_A (wX cI cJ adx adc adn adt gx ++ wCi cI adc gc ++ wSw cI cJ cZ adn gn ++ wSw cI cJ cZ adt gt) s.heap.size = A at hD ⊢
  have hA : ∀ q : Nat, s.heap.size ≤ q → A q := fun q h => by rw [← hAe]; exact Or.inr h
  have hS : va_S A s.heap s.heap [] := va_S.rf
  have hl := lv_entry ([.ref (adx 0), .int p1]) (n := 2) (Nat.le_of_ble_eq_true rfl)
  rw [lg_entry_eq]
  generalize (lg_sl ([.ref (adx 0), .int p1]) ++ List.replicate (2 - (lg_sl ([.ref (adx 0), .int p1])).length) Slot.unset).toArray = ls at hl ⊢
  replace hl : lv_has ls 2 [(0, .ref (adx 0)), (1, .int p1)] := hl
  unfold f_X2_faults at hf
  refine lv_aload_n hx hb dX2_faults_0 rfl (lv_at hl 0 rfl) ?_
  refine lv_iload_n hx hb dX2_faults_1 rfl (lv_at hl 1 rfl) ?_
  replace hf := bdE hf
  obtain ⟨r1, hgr1, hf⟩ := hf
  refine xIw (va_runV (As := [.int p1]) (rest := []) ⟨hx, hb, hml, hown, hts⟩ (c_X2_isCell l D cI cJ cZ adx adc adn adt gx gc gn gt p1 r1 hgr1 _) (cwV 1 hts gX2_faults_X2_isCell rfl rfl rfl (by decide +kernel) ⟨Nat.le_of_ble_eq_true rfl, Nat.le_of_ble_eq_true rfl⟩) ⟨PreW.blind, xRecv (q0 := 0) hK hP rfl rfl, (xPrew hK hP hD _)⟩ rfl rfl hl.1 rfl (lv_room (Nat.le_of_ble_eq_true rfl)) dX2_faults_2 ⟨Nat.le_of_ble_eq_true rfl, Nat.le_of_ble_eq_true rfl⟩) hD hS hA (fun H locs hP hD hS => ?_)
  replace hP : va_P D vwCl (wX cI cJ adx adc adn adt gx ++ wCi cI adc gc ++ wSw cI cJ cZ adn gn ++ wSw cI cJ cZ adt gt) H := hP
  replace hD : va_D A (wX cI cJ adx adc adn adt gx ++ wCi cI adc gc ++ wSw cI cJ cZ adn gn ++ wSw cI cJ cZ adt gt) := hD
  refine lv_if_eq (tgt := 16) hx hb dX2_faults_5 (by decide) (fun q2 => ?_) (fun q2 => ?_)
  · replace hf := ifT q2 hf
    refine lv_iconst (v := (-1)) hx hb dX2_faults_16 (by decide) ?_
    obtain rfl := Option.some.inj hf
    exact retI hx hb hr hlocks hP hD hS dX2_faults_17
  · replace hf := ifF q2 hf
    refine lv_aload_n hx hb dX2_faults_8 rfl (lv_at hl 0 rfl) ?_
    refine lv_iload_n hx hb dX2_faults_9 rfl (lv_at hl 1 rfl) ?_
    replace hf := bdE hf
    obtain ⟨r3, hgr3, hf⟩ := hf
    refine xIw (va_runV (As := [.int p1]) (rest := []) ⟨hx, hb, hml, hown, hts⟩ (c_X2_findFaults l D cI cJ cZ adx adc adn adt gx gc gn gt p1 r3 hgr3 _) (cwV 1 hts gX2_faults_X2_findFaults rfl rfl rfl (by decide +kernel) ⟨Nat.le_of_ble_eq_true rfl, Nat.le_of_ble_eq_true rfl⟩) ⟨PreW.blind, xRecv (q0 := 0) hK hP rfl rfl, (xPrew hK hP hD _)⟩ rfl rfl hl.1 rfl (lv_room (Nat.le_of_ble_eq_true rfl)) dX2_faults_10 ⟨Nat.le_of_ble_eq_true rfl, Nat.le_of_ble_eq_true rfl⟩) hD hS hA (fun H locs hP hD hS => ?_)
    replace hP : va_P D vwCl (wX cI cJ adx adc adn adt ((gx.1, gx.2.1, gx.2.2.1, gx.2.2.2.1, gx.2.2.2.2.1, gx.2.2.2.2.2.1, gx.2.2.2.2.2.2.1, gx.2.2.2.2.2.2.2.1, gx.2.2.2.2.2.2.2.2.1, gx.2.2.2.2.2.2.2.2.2.1, gx.2.2.2.2.2.2.2.2.2.2.1, gx.2.2.2.2.2.2.2.2.2.2.2.1, gx.2.2.2.2.2.2.2.2.2.2.2.2.1, r3.2.1)) ++ wCi cI adc ((gc.1, gc.2.1, gc.2.2.1, r3.2.2.1, r3.2.2.2.1, gc.2.2.2.2.2)) ++ wSw cI cJ cZ adn gn ++ wSw cI cJ cZ adt r3.2.2.2.2) H := hP
    replace hD : va_D A (wX cI cJ adx adc adn adt ((gx.1, gx.2.1, gx.2.2.1, gx.2.2.2.1, gx.2.2.2.2.1, gx.2.2.2.2.2.1, gx.2.2.2.2.2.2.1, gx.2.2.2.2.2.2.2.1, gx.2.2.2.2.2.2.2.2.1, gx.2.2.2.2.2.2.2.2.2.1, gx.2.2.2.2.2.2.2.2.2.2.1, gx.2.2.2.2.2.2.2.2.2.2.2.1, gx.2.2.2.2.2.2.2.2.2.2.2.2.1, r3.2.1)) ++ wCi cI adc ((gc.1, gc.2.1, gc.2.2.1, r3.2.2.1, r3.2.2.2.1, gc.2.2.2.2.2)) ++ wSw cI cJ cZ adn gn ++ wSw cI cJ cZ adt r3.2.2.2.2) := hD
    refine lv_goto (tgt := 17) hx hb dX2_faults_13 (by decide) ?_
    obtain rfl := Option.some.inj hf
    exact retI hx hb hr hlocks hP hD hS dX2_faults_17

def f_X2_fault_J17 (p2 : Int32) (k0_17 : Int32) (x13_17 : Ar) (c3_17 : Ar) (c4_17 : Ar) (t0_17 : Int64) (t1_17 : Int64) (t2_17 : Al) (t3_17 : Al) (t4_17 : Ar) (t5_17 : Ar) (t6_17 : Int32) (t7_17 : Int32) (t8_17 : Int64) (t9_17 : Int64) : Option (Int32 × Ar × Ar × Ar × Int64 × Int64 × Al × Al × Ar × Ar × Int32 × Int32 × Int64 × Int64) :=
if p2 < 0 then
some ((-1), x13_17, c3_17, c4_17, t0_17, t1_17, t2_17, t3_17, t4_17, t5_17, t6_17, t7_17, t8_17, t9_17)
else
if k0_17 ≤ p2 then
some ((-1), x13_17, c3_17, c4_17, t0_17, t1_17, t2_17, t3_17, t4_17, t5_17, t6_17, t7_17, t8_17, t9_17)
else
gd (ib p2 80) (
some (x13_17 p2.toNatClampNeg, x13_17, c3_17, c4_17, t0_17, t1_17, t2_17, t3_17, t4_17, t5_17, t6_17, t7_17, t8_17, t9_17))
def f_X2_fault (gx : Xo) (gc : Ci) (gt : Sw) (p1 : Int32) (p2 : Int32) : Option (Int32 × Ar × Ar × Ar × Int64 × Int64 × Al × Al × Ar × Ar × Int32 × Int32 × Int64 × Int64) :=
(f_X2_isCell gc p1).bind (fun r1 =>
if (b2i r1) = 0 then
f_X2_fault_J17 p2 0 gx.2.2.2.2.2.2.2.2.2.2.2.2.2 gc.2.2.2.1 gc.2.2.2.2.1 gt.1 gt.2.1 gt.2.2.1 gt.2.2.2.1 gt.2.2.2.2.1 gt.2.2.2.2.2.1 gt.2.2.2.2.2.2.1 gt.2.2.2.2.2.2.2.1 gt.2.2.2.2.2.2.2.2.1 gt.2.2.2.2.2.2.2.2.2
else
(f_X2_findFaults gx gc gt p1).bind (fun r6 =>
f_X2_fault_J17 p2 r6.1 r6.2.1 r6.2.2.1 r6.2.2.2.1 r6.2.2.2.2.1 r6.2.2.2.2.2.1 r6.2.2.2.2.2.2.1 r6.2.2.2.2.2.2.2.1 r6.2.2.2.2.2.2.2.2.1 r6.2.2.2.2.2.2.2.2.2.1 r6.2.2.2.2.2.2.2.2.2.2.1 r6.2.2.2.2.2.2.2.2.2.2.2.1 r6.2.2.2.2.2.2.2.2.2.2.2.2.1 r6.2.2.2.2.2.2.2.2.2.2.2.2.2))
abbrev rmX2_fault : Room := { frames := 6, cells := 0, slots := 0, locals := 142 }
set_option maxHeartbeats 40000000 in
set_option maxRecDepth 100000 in
theorem c_X2_fault (l : Launch) (D : va_G) (cI cJ cZ : ClassId) (adx : Nat → Nat) (adc : Nat → Nat) (adn : Nat → Nat) (adt : Nat → Nat) (gx : Xo) (gc : Ci) (gn : Sw) (gt : Sw) (p1 : Int32) (p2 : Int32) (o : (Int32 × Ar × Ar × Ar × Int64 × Int64 × Al × Al × Ar × Ar × Int32 × Int32 × Int64 × Int64)) (hf : f_X2_fault gx gc gt p1 p2 = some o) : CtI l yX2_fault wsX2_fault rmX2_fault D cI cJ cZ [.ref (adx 0), .int p1, .int p2] (wX cI cJ adx adc adn adt gx ++ wCi cI adc gc ++ wSw cI cJ cZ adn gn ++ wSw cI cJ cZ adt gt) (wX cI cJ adx adc adn adt ((gx.1, gx.2.1, gx.2.2.1, gx.2.2.2.1, gx.2.2.2.2.1, gx.2.2.2.2.2.1, gx.2.2.2.2.2.2.1, gx.2.2.2.2.2.2.2.1, gx.2.2.2.2.2.2.2.2.1, gx.2.2.2.2.2.2.2.2.2.1, gx.2.2.2.2.2.2.2.2.2.2.1, gx.2.2.2.2.2.2.2.2.2.2.2.1, gx.2.2.2.2.2.2.2.2.2.2.2.2.1, o.2.1)) ++ wCi cI adc ((gc.1, gc.2.1, gc.2.2.1, o.2.2.1, o.2.2.2.1, gc.2.2.2.2.2)) ++ wSw cI cJ cZ adn gn ++ wSw cI cJ cZ adt o.2.2.2.2) o.1 := by
  intro sz
  refine Met.ofW (cc := cX2_fault) (maxL := 4) (ret := (some .int)) (by decide) rfl ?_
  intro p e s m args below meth c s₁ B hml hv
  obtain ⟨rfl, hsz, hP, hK, hD0⟩ := hv
  have hx := B.exec
  have hb := B.bytes
  have hr := B.returns
  have hts := atoms_spec (ws := wsX2_fault) B.pre
  have hown : s.vm.findClass RX2 = some m.cls := findClass_of_methodNamed B.named
  have hlocks := B.notSynchronized
  subst hsz
  have hD := hD0.self (sz := s.heap.size)
  clear hD0
  generalize hAe : va_A (wX cI cJ adx adc adn adt gx ++ wCi cI adc gc ++ wSw cI cJ cZ adn gn ++ wSw cI cJ cZ adt gt) s.heap.size = A at hD ⊢
  have hA : ∀ q : Nat, s.heap.size ≤ q → A q := fun q h => by rw [← hAe]; exact Or.inr h
  have hS : va_S A s.heap s.heap [] := va_S.rf
  have hinX2 : ∀ w ∈ wsX20, w ∈ wsX2_fault := by decide +kernel
  have hw0 : (Cond.fieldLink RX2 69 "SwingCircuits" "faultsFound" "[I").before _ s = true := hts _ (by decide +kernel)
  have hl := lv_entry ([.ref (adx 0), .int p1, .int p2]) (n := 4) (Nat.le_of_ble_eq_true rfl)
  rw [lg_entry_eq]
  generalize (lg_sl ([.ref (adx 0), .int p1, .int p2]) ++ List.replicate (4 - (lg_sl ([.ref (adx 0), .int p1, .int p2])).length) Slot.unset).toArray = ls at hl ⊢
  replace hl : lv_has ls 4 [(0, .ref (adx 0)), (1, .int p1), (2, .int p2)] := hl
  unfold f_X2_fault at hf
  refine lv_aload_n hx hb dX2_fault_0 rfl (lv_at hl 0 rfl) ?_
  refine lv_iload_n hx hb dX2_fault_1 rfl (lv_at hl 1 rfl) ?_
  replace hf := bdE hf
  obtain ⟨r1, hgr1, hf⟩ := hf
  refine xIw (va_runV (As := [.int p1]) (rest := []) ⟨hx, hb, hml, hown, hts⟩ (c_X2_isCell l D cI cJ cZ adx adc adn adt gx gc gn gt p1 r1 hgr1 _) (cwV 1 hts gX2_fault_X2_isCell rfl rfl rfl (by decide +kernel) ⟨Nat.le_of_ble_eq_true rfl, Nat.le_of_ble_eq_true rfl⟩) ⟨PreW.blind, xRecv (q0 := 0) hK hP rfl rfl, (xPrew hK hP hD _)⟩ rfl rfl hl.1 rfl (lv_room (Nat.le_of_ble_eq_true rfl)) dX2_fault_2 ⟨Nat.le_of_ble_eq_true rfl, Nat.le_of_ble_eq_true rfl⟩) hD hS hA (fun H locs hP hD hS => ?_)
  replace hP : va_P D vwCl (wX cI cJ adx adc adn adt gx ++ wCi cI adc gc ++ wSw cI cJ cZ adn gn ++ wSw cI cJ cZ adt gt) H := hP
  replace hD : va_D A (wX cI cJ adx adc adn adt gx ++ wCi cI adc gc ++ wSw cI cJ cZ adn gn ++ wSw cI cJ cZ adt gt) := hD
  have J17 : ∀ (k0_17 : Int32) (x13_17 : Ar) (c3_17 : Ar) (c4_17 : Ar) (t0_17 : Int64) (t1_17 : Int64) (t2_17 : Al) (t3_17 : Al) (t4_17 : Ar) (t5_17 : Ar) (t6_17 : Int32) (t7_17 : Int32) (t8_17 : Int64) (t9_17 : Int64) (H : Heap) (locs : List Loc) (ls : Array Slot), f_X2_fault_J17 p2 k0_17 x13_17 c3_17 c4_17 t0_17 t1_17 t2_17 t3_17 t4_17 t5_17 t6_17 t7_17 t8_17 t9_17 = some o → va_P D vwCl (wX cI cJ adx adc adn adt ((gx.1, gx.2.1, gx.2.2.1, gx.2.2.2.1, gx.2.2.2.2.1, gx.2.2.2.2.2.1, gx.2.2.2.2.2.2.1, gx.2.2.2.2.2.2.2.1, gx.2.2.2.2.2.2.2.2.1, gx.2.2.2.2.2.2.2.2.2.1, gx.2.2.2.2.2.2.2.2.2.2.1, gx.2.2.2.2.2.2.2.2.2.2.2.1, gx.2.2.2.2.2.2.2.2.2.2.2.2.1, x13_17)) ++ wCi cI adc ((gc.1, gc.2.1, gc.2.2.1, c3_17, c4_17, gc.2.2.2.2.2)) ++ wSw cI cJ cZ adn gn ++ wSw cI cJ cZ adt ((t0_17, t1_17, t2_17, t3_17, t4_17, t5_17, t6_17, t7_17, t8_17, t9_17))) H → va_D A (wX cI cJ adx adc adn adt ((gx.1, gx.2.1, gx.2.2.1, gx.2.2.2.1, gx.2.2.2.2.1, gx.2.2.2.2.2.1, gx.2.2.2.2.2.2.1, gx.2.2.2.2.2.2.2.1, gx.2.2.2.2.2.2.2.2.1, gx.2.2.2.2.2.2.2.2.2.1, gx.2.2.2.2.2.2.2.2.2.2.1, gx.2.2.2.2.2.2.2.2.2.2.2.1, gx.2.2.2.2.2.2.2.2.2.2.2.2.1, x13_17)) ++ wCi cI adc ((gc.1, gc.2.1, gc.2.2.1, c3_17, c4_17, gc.2.2.2.2.2)) ++ wSw cI cJ cZ adn gn ++ wSw cI cJ cZ adt ((t0_17, t1_17, t2_17, t3_17, t4_17, t5_17, t6_17, t7_17, t8_17, t9_17))) → va_S A s.heap H locs → lv_has ls 4 [(0, .ref (adx 0)), (2, .int p2)] → W p l e (headSpec wsX2_fault rmX2_fault).room s m ([.ref (adx 0), .int p1, .int p2] : List Value).toArray below meth c H locs 0 0 (MQ below (QI D A o.1 (wX cI cJ adx adc adn adt ((gx.1, gx.2.1, gx.2.2.1, gx.2.2.2.1, gx.2.2.2.2.1, gx.2.2.2.2.2.1, gx.2.2.2.2.2.2.1, gx.2.2.2.2.2.2.2.1, gx.2.2.2.2.2.2.2.2.1, gx.2.2.2.2.2.2.2.2.2.1, gx.2.2.2.2.2.2.2.2.2.2.1, gx.2.2.2.2.2.2.2.2.2.2.2.1, gx.2.2.2.2.2.2.2.2.2.2.2.2.1, o.2.1)) ++ wCi cI adc ((gc.1, gc.2.1, gc.2.2.1, o.2.2.1, o.2.2.2.1, gc.2.2.2.2.2)) ++ wSw cI cJ cZ adn gn ++ wSw cI cJ cZ adt o.2.2.2.2)) ([.ref (adx 0), .int p1, .int p2] : List Value).toArray s 0 0 A) (F0 m 17 ls [.int k0_17]) := by
    intro k0_17 x13_17 c3_17 c4_17 t0_17 t1_17 t2_17 t3_17 t4_17 t5_17 t6_17 t7_17 t8_17 t9_17 H locs ls hf hP hD hS hl
    unfold f_X2_fault_J17 at hf
    refine lv_istore_n (lv' := [(3, .int k0_17), (0, .ref (adx 0)), (2, .int p2)]) hx hb dX2_fault_17 rfl hl (by decide) rfl (fun ls hl => ?_)
    refine lv_iload_n hx hb dX2_fault_18 rfl (lv_at hl 2 rfl) ?_
    refine lv_if_lt (tgt := 36) hx hb dX2_fault_19 (by decide) (fun q2 => ?_) (fun q2 => ?_)
    · replace hf := ifT q2 hf
      refine lv_iconst (v := (-1)) hx hb dX2_fault_36 (by decide) ?_
      obtain rfl := Option.some.inj hf
      exact retI hx hb hr hlocks hP hD hS dX2_fault_37
    · replace hf := ifF q2 hf
      refine lv_iload_n hx hb dX2_fault_22 rfl (lv_at hl 2 rfl) ?_
      refine lv_iload_n hx hb dX2_fault_23 rfl (lv_at hl 0 rfl) ?_
      refine lv_icmp_ge (tgt := 36) hx hb dX2_fault_24 (by decide) (fun q3 => ?_) (fun q3 => ?_)
      · replace hf := ifT q3 hf
        refine lv_iconst (v := (-1)) hx hb dX2_fault_36 (by decide) ?_
        obtain rfl := Option.some.inj hf
        exact retI hx hb hr hlocks hP hD hS dX2_fault_37
      · replace hf := ifF q3 hf
        refine lv_aload_n hx hb dX2_fault_27 rfl (lv_at hl 1 rfl) ?_
        refine va_get (D := D) (ci := 2) (v := .ref (adx 10)) (C := RX2) (T := TX2) (N := 17) hx hb hts hinX2 hown hK.1 hP 0 rfl rfl 16 (by decide) hw0 (fun _ h9 => h9) rfl dX2_fault_28 ?_
        refine lv_iload_n hx hb dX2_fault_31 rfl (lv_at hl 2 rfl) ?_
        replace hf := gdE hf
        obtain ⟨h4, hf⟩ := hf
        refine va_iald hx hb hK.1 hP 10 0 rfl rfl (ib_in h4) dX2_fault_32 ?_
        refine lv_goto (tgt := 37) hx hb dX2_fault_33 (by decide) ?_
        obtain rfl := Option.some.inj hf
        exact retI hx hb hr hlocks hP hD hS dX2_fault_37
  refine lv_if_eq (tgt := 16) hx hb dX2_fault_5 (by decide) (fun q5 => ?_) (fun q5 => ?_)
  · replace hf := ifT q5 hf
    refine lv_iconst (v := 0) hx hb dX2_fault_16 (by decide) ?_
    exact J17 0 gx.2.2.2.2.2.2.2.2.2.2.2.2.2 gc.2.2.2.1 gc.2.2.2.2.1 gt.1 gt.2.1 gt.2.2.1 gt.2.2.2.1 gt.2.2.2.2.1 gt.2.2.2.2.2.1 gt.2.2.2.2.2.2.1 gt.2.2.2.2.2.2.2.1 gt.2.2.2.2.2.2.2.2.1 gt.2.2.2.2.2.2.2.2.2 _ _ _ hf hP hD hS (lv_sub hl [0, 2] rfl)
  · replace hf := ifF q5 hf
    refine lv_aload_n hx hb dX2_fault_8 rfl (lv_at hl 0 rfl) ?_
    refine lv_iload_n hx hb dX2_fault_9 rfl (lv_at hl 1 rfl) ?_
    replace hf := bdE hf
    obtain ⟨r6, hgr6, hf⟩ := hf
    refine xIw (va_runV (As := [.int p1]) (rest := []) ⟨hx, hb, hml, hown, hts⟩ (c_X2_findFaults l D cI cJ cZ adx adc adn adt gx gc gn gt p1 r6 hgr6 _) (cwV 1 hts gX2_fault_X2_findFaults rfl rfl rfl (by decide +kernel) ⟨Nat.le_of_ble_eq_true rfl, Nat.le_of_ble_eq_true rfl⟩) ⟨PreW.blind, xRecv (q0 := 0) hK hP rfl rfl, (xPrew hK hP hD _)⟩ rfl rfl hl.1 rfl (lv_room (Nat.le_of_ble_eq_true rfl)) dX2_fault_10 ⟨Nat.le_of_ble_eq_true rfl, Nat.le_of_ble_eq_true rfl⟩) hD hS hA (fun H locs hP hD hS => ?_)
    replace hP : va_P D vwCl (wX cI cJ adx adc adn adt ((gx.1, gx.2.1, gx.2.2.1, gx.2.2.2.1, gx.2.2.2.2.1, gx.2.2.2.2.2.1, gx.2.2.2.2.2.2.1, gx.2.2.2.2.2.2.2.1, gx.2.2.2.2.2.2.2.2.1, gx.2.2.2.2.2.2.2.2.2.1, gx.2.2.2.2.2.2.2.2.2.2.1, gx.2.2.2.2.2.2.2.2.2.2.2.1, gx.2.2.2.2.2.2.2.2.2.2.2.2.1, r6.2.1)) ++ wCi cI adc ((gc.1, gc.2.1, gc.2.2.1, r6.2.2.1, r6.2.2.2.1, gc.2.2.2.2.2)) ++ wSw cI cJ cZ adn gn ++ wSw cI cJ cZ adt r6.2.2.2.2) H := hP
    replace hD : va_D A (wX cI cJ adx adc adn adt ((gx.1, gx.2.1, gx.2.2.1, gx.2.2.2.1, gx.2.2.2.2.1, gx.2.2.2.2.2.1, gx.2.2.2.2.2.2.1, gx.2.2.2.2.2.2.2.1, gx.2.2.2.2.2.2.2.2.1, gx.2.2.2.2.2.2.2.2.2.1, gx.2.2.2.2.2.2.2.2.2.2.1, gx.2.2.2.2.2.2.2.2.2.2.2.1, gx.2.2.2.2.2.2.2.2.2.2.2.2.1, r6.2.1)) ++ wCi cI adc ((gc.1, gc.2.1, gc.2.2.1, r6.2.2.1, r6.2.2.2.1, gc.2.2.2.2.2)) ++ wSw cI cJ cZ adn gn ++ wSw cI cJ cZ adt r6.2.2.2.2) := hD
    refine lv_goto (tgt := 17) hx hb dX2_fault_13 (by decide) ?_
    exact J17 r6.1 r6.2.1 r6.2.2.1 r6.2.2.2.1 r6.2.2.2.2.1 r6.2.2.2.2.2.1 r6.2.2.2.2.2.2.1 r6.2.2.2.2.2.2.2.1 r6.2.2.2.2.2.2.2.2.1 r6.2.2.2.2.2.2.2.2.2.1 r6.2.2.2.2.2.2.2.2.2.2.1 r6.2.2.2.2.2.2.2.2.2.2.2.1 r6.2.2.2.2.2.2.2.2.2.2.2.2.1 r6.2.2.2.2.2.2.2.2.2.2.2.2.2 _ _ _ hf hP hD hS (lv_sub hl [0, 2] rfl)

def f_X2_fits (gx : Xo) (gc : Ci) (gt : Sw) (p1 : Int32) : Option (Int32 × Int64 × Int64 × Al × Al × Ar × Ar × Int32 × Int32 × Int64 × Int64) :=
(f_X2_isCell gc p1).bind (fun r1 =>
if ¬ (b2i r1) = 0 then
(f_X2_isMeasuredSo gx gc gt p1).bind (fun r3 =>
if (b2i r3.1) = 0 then
some (0, r3.2.1, r3.2.2.1, r3.2.2.2.1, r3.2.2.2.2.1, r3.2.2.2.2.2.1, r3.2.2.2.2.2.2.1, r3.2.2.2.2.2.2.2.1, r3.2.2.2.2.2.2.2.2.1, r3.2.2.2.2.2.2.2.2.2.1, r3.2.2.2.2.2.2.2.2.2.2)
else
some (1, r3.2.1, r3.2.2.1, r3.2.2.2.1, r3.2.2.2.2.1, r3.2.2.2.2.2.1, r3.2.2.2.2.2.2.1, r3.2.2.2.2.2.2.2.1, r3.2.2.2.2.2.2.2.2.1, r3.2.2.2.2.2.2.2.2.2.1, r3.2.2.2.2.2.2.2.2.2.2))
else
some ((-1), gt.1, gt.2.1, gt.2.2.1, gt.2.2.2.1, gt.2.2.2.2.1, gt.2.2.2.2.2.1, gt.2.2.2.2.2.2.1, gt.2.2.2.2.2.2.2.1, gt.2.2.2.2.2.2.2.2.1, gt.2.2.2.2.2.2.2.2.2))
abbrev rmX2_fits : Room := { frames := 5, cells := 0, slots := 0, locals := 115 }
set_option maxHeartbeats 40000000 in
set_option maxRecDepth 100000 in
theorem c_X2_fits (l : Launch) (D : va_G) (cI cJ cZ : ClassId) (adx : Nat → Nat) (adc : Nat → Nat) (adn : Nat → Nat) (adt : Nat → Nat) (gx : Xo) (gc : Ci) (gn : Sw) (gt : Sw) (p1 : Int32) (o : (Int32 × Int64 × Int64 × Al × Al × Ar × Ar × Int32 × Int32 × Int64 × Int64)) (hf : f_X2_fits gx gc gt p1 = some o) : CtI l yX2_fits wsX2_fits rmX2_fits D cI cJ cZ [.ref (adx 0), .int p1] (wX cI cJ adx adc adn adt gx ++ wCi cI adc gc ++ wSw cI cJ cZ adn gn ++ wSw cI cJ cZ adt gt) (wX cI cJ adx adc adn adt gx ++ wCi cI adc gc ++ wSw cI cJ cZ adn gn ++ wSw cI cJ cZ adt o.2) o.1 := by
  intro sz
  refine Met.ofW (cc := cX2_fits) (maxL := 2) (ret := (some .int)) (by decide) rfl ?_
  intro p e s m args below meth c s₁ B hml hv
  obtain ⟨rfl, hsz, hP, hK, hD0⟩ := hv
  have hx := B.exec
  have hb := B.bytes
  have hr := B.returns
  have hts := atoms_spec (ws := wsX2_fits) B.pre
  have hown : s.vm.findClass RX2 = some m.cls := findClass_of_methodNamed B.named
  have hlocks := B.notSynchronized
  subst hsz
  have hD := hD0.self (sz := s.heap.size)
  clear hD0
  generalize hAe : va_A (wX cI cJ adx adc adn adt gx ++ wCi cI adc gc ++ wSw cI cJ cZ adn gn ++ wSw cI cJ cZ adt gt) s.heap.size = A at hD ⊢
  have hA : ∀ q : Nat, s.heap.size ≤ q → A q := fun q h => by rw [← hAe]; exact Or.inr h
  have hS : va_S A s.heap s.heap [] := va_S.rf
  have hl := lv_entry ([.ref (adx 0), .int p1]) (n := 2) (Nat.le_of_ble_eq_true rfl)
  rw [lg_entry_eq]
  generalize (lg_sl ([.ref (adx 0), .int p1]) ++ List.replicate (2 - (lg_sl ([.ref (adx 0), .int p1])).length) Slot.unset).toArray = ls at hl ⊢
  replace hl : lv_has ls 2 [(0, .ref (adx 0)), (1, .int p1)] := hl
  unfold f_X2_fits at hf
  refine lv_aload_n hx hb dX2_fits_0 rfl (lv_at hl 0 rfl) ?_
  refine lv_iload_n hx hb dX2_fits_1 rfl (lv_at hl 1 rfl) ?_
  replace hf := bdE hf
  obtain ⟨r1, hgr1, hf⟩ := hf
  refine xIw (va_runV (As := [.int p1]) (rest := []) ⟨hx, hb, hml, hown, hts⟩ (c_X2_isCell l D cI cJ cZ adx adc adn adt gx gc gn gt p1 r1 hgr1 _) (cwV 1 hts gX2_fits_X2_isCell rfl rfl rfl (by decide +kernel) ⟨Nat.le_of_ble_eq_true rfl, Nat.le_of_ble_eq_true rfl⟩) ⟨PreW.blind, xRecv (q0 := 0) hK hP rfl rfl, (xPrew hK hP hD _)⟩ rfl rfl hl.1 rfl (lv_room (Nat.le_of_ble_eq_true rfl)) dX2_fits_2 ⟨Nat.le_of_ble_eq_true rfl, Nat.le_of_ble_eq_true rfl⟩) hD hS hA (fun H locs hP hD hS => ?_)
  replace hP : va_P D vwCl (wX cI cJ adx adc adn adt gx ++ wCi cI adc gc ++ wSw cI cJ cZ adn gn ++ wSw cI cJ cZ adt gt) H := hP
  replace hD : va_D A (wX cI cJ adx adc adn adt gx ++ wCi cI adc gc ++ wSw cI cJ cZ adn gn ++ wSw cI cJ cZ adt gt) := hD
  refine lv_if_ne (tgt := 10) hx hb dX2_fits_5 (by decide) (fun q2 => ?_) (fun q2 => ?_)
  · replace hf := ifT q2 hf
    refine lv_aload_n hx hb dX2_fits_10 rfl (lv_at hl 0 rfl) ?_
    refine lv_iload_n hx hb dX2_fits_11 rfl (lv_at hl 1 rfl) ?_
    replace hf := bdE hf
    obtain ⟨r3, hgr3, hf⟩ := hf
    refine xIw (va_runV (As := [.int p1]) (rest := []) ⟨hx, hb, hml, hown, hts⟩ (c_X2_isMeasuredSo l D cI cJ cZ adx adc adn adt gx gc gn gt p1 r3 hgr3 _) (cwV 1 hts gX2_fits_X2_isMeasuredSo rfl rfl rfl (by decide +kernel) ⟨Nat.le_of_ble_eq_true rfl, Nat.le_of_ble_eq_true rfl⟩) ⟨PreW.blind, xRecv (q0 := 0) hK hP rfl rfl, (xPrew hK hP hD _)⟩ rfl rfl hl.1 rfl (lv_room (Nat.le_of_ble_eq_true rfl)) dX2_fits_12 ⟨Nat.le_of_ble_eq_true rfl, Nat.le_of_ble_eq_true rfl⟩) hD hS hA (fun H locs hP hD hS => ?_)
    replace hP : va_P D vwCl (wX cI cJ adx adc adn adt gx ++ wCi cI adc gc ++ wSw cI cJ cZ adn gn ++ wSw cI cJ cZ adt r3.2) H := hP
    replace hD : va_D A (wX cI cJ adx adc adn adt gx ++ wCi cI adc gc ++ wSw cI cJ cZ adn gn ++ wSw cI cJ cZ adt r3.2) := hD
    refine lv_if_eq (tgt := 22) hx hb dX2_fits_15 (by decide) (fun q4 => ?_) (fun q4 => ?_)
    · replace hf := ifT q4 hf
      refine lv_iconst (v := 0) hx hb dX2_fits_22 (by decide) ?_
      obtain rfl := Option.some.inj hf
      exact retI hx hb hr hlocks hP hD hS dX2_fits_23
    · replace hf := ifF q4 hf
      refine lv_iconst (v := 1) hx hb dX2_fits_18 (by decide) ?_
      refine lv_goto (tgt := 23) hx hb dX2_fits_19 (by decide) ?_
      obtain rfl := Option.some.inj hf
      exact retI hx hb hr hlocks hP hD hS dX2_fits_23
  · replace hf := ifN q2 hf
    refine lv_iconst (v := (-1)) hx hb dX2_fits_8 (by decide) ?_
    obtain rfl := Option.some.inj hf
    exact retI hx hb hr hlocks hP hD hS dX2_fits_9

def f_X2_set_J17 (gx : Xo) (gc : Ci) (gn : Sw) (p1 : Int32) (p2 : Int32) (p3 : Int32)  : Option (Int32 × Int32 × Ar × Ar × Ar × Ar × Int64 × Int64 × Al × Al × Ar × Ar) :=
(f_X2_isRate p3).bind (fun r3 =>
if ¬ (b2i r3) = 0 then
if p2 = 0 then
gd (ib p1 4) (
bnd (gc.2.2.2.1 p1.toNatClampNeg) (fun v6 =>
(f_X2_startAgain gx ((gc.1, gc.2.1, gc.2.2.1, upd gc.2.2.2.1 p1.toNatClampNeg p3, gc.2.2.2.2)) gn).bind (fun r7 =>
some (v6, r7.1, r7.2.1, r7.2.2.1, upd gc.2.2.2.1 p1.toNatClampNeg p3, gc.2.2.2.2.1, r7.2.2.2.1, r7.2.2.2.2.1, r7.2.2.2.2.2.1, r7.2.2.2.2.2.2.1, r7.2.2.2.2.2.2.2.1, r7.2.2.2.2.2.2.2.2))))
else
gd (ib p1 4) (
bnd (gc.2.2.2.2.1 p1.toNatClampNeg) (fun v9 =>
(f_X2_startAgain gx ((gc.1, gc.2.1, gc.2.2.1, gc.2.2.2.1, upd gc.2.2.2.2.1 p1.toNatClampNeg p3, gc.2.2.2.2.2)) gn).bind (fun r10 =>
some (v9, r10.1, r10.2.1, r10.2.2.1, gc.2.2.2.1, upd gc.2.2.2.2.1 p1.toNatClampNeg p3, r10.2.2.2.1, r10.2.2.2.2.1, r10.2.2.2.2.2.1, r10.2.2.2.2.2.2.1, r10.2.2.2.2.2.2.2.1, r10.2.2.2.2.2.2.2.2))))
else
some ((-1), gx.1, gx.2.1, gx.2.2.1, gc.2.2.2.1, gc.2.2.2.2.1, gn.1, gn.2.1, gn.2.2.1, gn.2.2.2.1, gn.2.2.2.2.1, gn.2.2.2.2.2.1))
def f_X2_set (gx : Xo) (gc : Ci) (gn : Sw) (p1 : Int32) (p2 : Int32) (p3 : Int32) : Option (Int32 × Int32 × Ar × Ar × Ar × Ar × Int64 × Int64 × Al × Al × Ar × Ar) :=
(f_X2_isCell gc p1).bind (fun r1 =>
if (b2i r1) = 0 then
some ((-1), gx.1, gx.2.1, gx.2.2.1, gc.2.2.2.1, gc.2.2.2.2.1, gn.1, gn.2.1, gn.2.2.1, gn.2.2.2.1, gn.2.2.2.2.1, gn.2.2.2.2.2.1)
else
if p2 = 0 then
f_X2_set_J17 gx gc gn p1 p2 p3
else
if ¬ p2 = 1 then
some ((-1), gx.1, gx.2.1, gx.2.2.1, gc.2.2.2.1, gc.2.2.2.2.1, gn.1, gn.2.1, gn.2.2.1, gn.2.2.2.1, gn.2.2.2.2.1, gn.2.2.2.2.2.1)
else
f_X2_set_J17 gx gc gn p1 p2 p3)
abbrev rmX2_set : Room := { frames := 2, cells := 0, slots := 0, locals := 43 }
set_option maxHeartbeats 40000000 in
set_option maxRecDepth 100000 in
theorem c_X2_set (l : Launch) (D : va_G) (cI cJ cZ : ClassId) (adx : Nat → Nat) (adc : Nat → Nat) (adn : Nat → Nat) (adt : Nat → Nat) (gx : Xo) (gc : Ci) (gn : Sw) (gt : Sw) (p1 : Int32) (p2 : Int32) (p3 : Int32) (o : (Int32 × Int32 × Ar × Ar × Ar × Ar × Int64 × Int64 × Al × Al × Ar × Ar)) (hf : f_X2_set gx gc gn p1 p2 p3 = some o) : CtI l yX2_set wsX2_set rmX2_set D cI cJ cZ [.ref (adx 0), .int p1, .int p2, .int p3] (wX cI cJ adx adc adn adt gx ++ wCi cI adc gc ++ wSw cI cJ cZ adn gn ++ wSw cI cJ cZ adt gt) (wX cI cJ adx adc adn adt ((o.2.1, o.2.2.1, o.2.2.2.1, gx.2.2.2)) ++ wCi cI adc ((gc.1, gc.2.1, gc.2.2.1, o.2.2.2.2.1, o.2.2.2.2.2.1, gc.2.2.2.2.2)) ++ wSw cI cJ cZ adn ((o.2.2.2.2.2.2.1, o.2.2.2.2.2.2.2.1, o.2.2.2.2.2.2.2.2.1, o.2.2.2.2.2.2.2.2.2.1, o.2.2.2.2.2.2.2.2.2.2.1, o.2.2.2.2.2.2.2.2.2.2.2, gn.2.2.2.2.2.2)) ++ wSw cI cJ cZ adt gt) o.1 := by
  intro sz
  refine Met.ofW (cc := cX2_set) (maxL := 6) (ret := (some .int)) (by decide) rfl ?_
  intro p e s m args below meth c s₁ B hml hv
  obtain ⟨rfl, hsz, hP, hK, hD0⟩ := hv
  have hx := B.exec
  have hb := B.bytes
  have hr := B.returns
  have hts := atoms_spec (ws := wsX2_set) B.pre
  have hown : s.vm.findClass RX2 = some m.cls := findClass_of_methodNamed B.named
  have hlocks := B.notSynchronized
  subst hsz
  have hD := hD0.self (sz := s.heap.size)
  clear hD0
  generalize hAe : va_A (wX cI cJ adx adc adn adt gx ++ wCi cI adc gc ++ wSw cI cJ cZ adn gn ++ wSw cI cJ cZ adt gt) s.heap.size = A at hD ⊢
  have hA : ∀ q : Nat, s.heap.size ≤ q → A q := fun q h => by rw [← hAe]; exact Or.inr h
  have hS : va_S A s.heap s.heap [] := va_S.rf
  have hinX2 : ∀ w ∈ wsX20, w ∈ wsX2_set := by decide +kernel
  have hw0 : (Cond.fieldLink RX2 12 "SwingCircuits" "circuit" "LSwingCircuits$Circuit;").before _ s = true := hts _ (by decide +kernel)
  have hl := lv_entry ([.ref (adx 0), .int p1, .int p2, .int p3]) (n := 6) (Nat.le_of_ble_eq_true rfl)
  rw [lg_entry_eq]
  generalize (lg_sl ([.ref (adx 0), .int p1, .int p2, .int p3]) ++ List.replicate (6 - (lg_sl ([.ref (adx 0), .int p1, .int p2, .int p3])).length) Slot.unset).toArray = ls at hl ⊢
  replace hl : lv_has ls 6 [(0, .ref (adx 0)), (1, .int p1), (2, .int p2), (3, .int p3)] := hl
  unfold f_X2_set at hf
  refine lv_aload_n hx hb dX2_set_0 rfl (lv_at hl 0 rfl) ?_
  refine lv_iload_n hx hb dX2_set_1 rfl (lv_at hl 1 rfl) ?_
  replace hf := bdE hf
  obtain ⟨r1, hgr1, hf⟩ := hf
  refine xIw (va_runV (As := [.int p1]) (rest := []) ⟨hx, hb, hml, hown, hts⟩ (c_X2_isCell l D cI cJ cZ adx adc adn adt gx gc gn gt p1 r1 hgr1 _) (cwV 1 hts gX2_set_X2_isCell rfl rfl rfl (by decide +kernel) ⟨Nat.le_of_ble_eq_true rfl, Nat.le_of_ble_eq_true rfl⟩) ⟨PreW.blind, xRecv (q0 := 0) hK hP rfl rfl, (xPrew hK hP hD _)⟩ rfl rfl hl.1 rfl (lv_room (Nat.le_of_ble_eq_true rfl)) dX2_set_2 ⟨Nat.le_of_ble_eq_true rfl, Nat.le_of_ble_eq_true rfl⟩) hD hS hA (fun H locs hP hD hS => ?_)
  replace hP : va_P D vwCl (wX cI cJ adx adc adn adt gx ++ wCi cI adc gc ++ wSw cI cJ cZ adn gn ++ wSw cI cJ cZ adt gt) H := hP
  replace hD : va_D A (wX cI cJ adx adc adn adt gx ++ wCi cI adc gc ++ wSw cI cJ cZ adn gn ++ wSw cI cJ cZ adt gt) := hD
  refine lv_if_eq (tgt := 24) hx hb dX2_set_5 (by decide) (fun q2 => ?_) (fun q2 => ?_)
  · replace hf := ifT q2 hf
    refine lv_iconst (v := (-1)) hx hb dX2_set_24 (by decide) ?_
    obtain rfl := Option.some.inj hf
    exact retI hx hb hr hlocks hP hD hS dX2_set_25
  · replace hf := ifF q2 hf
    refine lv_iload_n hx hb dX2_set_8 rfl (lv_at hl 2 rfl) ?_
    have J17 : ∀  (H : Heap) (locs : List Loc) (ls : Array Slot), f_X2_set_J17 gx gc gn p1 p2 p3  = some o → va_P D vwCl (wX cI cJ adx adc adn adt gx ++ wCi cI adc gc ++ wSw cI cJ cZ adn gn ++ wSw cI cJ cZ adt gt) H → va_D A (wX cI cJ adx adc adn adt gx ++ wCi cI adc gc ++ wSw cI cJ cZ adn gn ++ wSw cI cJ cZ adt gt) → va_S A s.heap H locs → lv_has ls 6 [(0, .ref (adx 0)), (1, .int p1), (2, .int p2), (3, .int p3)] → W p l e (headSpec wsX2_set rmX2_set).room s m ([.ref (adx 0), .int p1, .int p2, .int p3] : List Value).toArray below meth c H locs 0 0 (MQ below (QI D A o.1 (wX cI cJ adx adc adn adt ((o.2.1, o.2.2.1, o.2.2.2.1, gx.2.2.2)) ++ wCi cI adc ((gc.1, gc.2.1, gc.2.2.1, o.2.2.2.2.1, o.2.2.2.2.2.1, gc.2.2.2.2.2)) ++ wSw cI cJ cZ adn ((o.2.2.2.2.2.2.1, o.2.2.2.2.2.2.2.1, o.2.2.2.2.2.2.2.2.1, o.2.2.2.2.2.2.2.2.2.1, o.2.2.2.2.2.2.2.2.2.2.1, o.2.2.2.2.2.2.2.2.2.2.2, gn.2.2.2.2.2.2)) ++ wSw cI cJ cZ adt gt)) ([.ref (adx 0), .int p1, .int p2, .int p3] : List Value).toArray s 0 0 A) (F0 m 17 ls []) := by
      intro  H locs ls hf hP hD hS hl
      unfold f_X2_set_J17 at hf
      refine lv_iload_n hx hb dX2_set_17 rfl (lv_at hl 3 rfl) ?_
      replace hf := bdE hf
      obtain ⟨r3, hgr3, hf⟩ := hf
      refine xI0 (va_runS (As := [.int p3]) (rest := []) ⟨hx, hb, hml, hown, hts⟩ (c_X2_isRate l D cI cJ cZ p3 r3 hgr3 _) (va_cwS 1 hts gX2_set_X2_isRate rfl rfl rfl (by decide +kernel) ⟨Nat.le_of_ble_eq_true rfl, Nat.le_of_ble_eq_true rfl⟩) ⟨PreW.blind, (xPre0 hK _)⟩ rfl rfl hl.1 rfl (lv_room (Nat.le_of_ble_eq_true rfl)) dX2_set_18 ⟨Nat.le_of_ble_eq_true rfl, Nat.le_of_ble_eq_true rfl⟩) hP hS hA (fun H locs hP hS => ?_)
      refine lv_if_ne (tgt := 26) hx hb dX2_set_21 (by decide) (fun q4 => ?_) (fun q4 => ?_)
      · replace hf := ifT q4 hf
        refine lv_aload_n hx hb dX2_set_26 rfl (lv_at hl 0 rfl) ?_
        refine va_get (D := D) (ci := 2) (v := .ref (adc 0)) (C := RX2) (T := TX2) (N := 17) hx hb hts hinX2 hown hK.1 hP 0 rfl rfl 0 (by decide) hw0 (fun _ h9 => h9) rfl dX2_set_27 ?_
        refine lv_iload_n hx hb dX2_set_30 rfl (lv_at hl 2 rfl) ?_
        by_cases hz31 : p2 = 0
        · replace hf := ifT hz31 hf
          refine xR (w2 := (wX cI cJ adx adc adn adt gx ++ wCi cI adc gc ++ wSw cI cJ cZ adn gn ++ wSw cI cJ cZ adt gt)) (wr := (wX cI cJ adx adc adn adt gx ++ wSw cI cJ cZ adn gn ++ wSw cI cJ cZ adt gt)) (va_runV (As := [.int p2]) (rest := []) ⟨hx, hb, hml, hown, hts⟩ (c_X0_ratesOf_r l D cI cJ cZ adc gc p2 hz31 _) (cwV 1 hts gX2_set_X0_ratesOf rfl rfl rfl (by decide +kernel) ⟨Nat.le_of_ble_eq_true rfl, Nat.le_of_ble_eq_true rfl⟩) ⟨PreW.blind, xRecv (q0 := 11) hK hP rfl rfl, (xPre hK hP hD [11, 12, 13, 14, 15, 16, 17, 18, 19, 20, 21] rfl (by decide) _)⟩ rfl rfl hl.1 rfl (lv_room (Nat.le_of_ble_eq_true rfl)) dX2_set_31 ⟨Nat.le_of_ble_eq_true rfl, Nat.le_of_ble_eq_true rfl⟩) hP hD hS hA [11, 12, 13, 14, 15, 16, 17, 18, 19, 20, 21] [0, 1, 2, 3, 4, 5, 6, 7, 8, 9, 10, 22, 23, 24, 25, 26, 27, 28, 29, 30, 31] [0, 1, 2, 3, 4, 5, 6, 7, 8, 9, 10, 21, 22, 23, 24, 25, 26, 27, 28, 29, 30, 31, 11, 12, 13, 14, 15, 16, 17, 18, 19, 20] rfl rfl (by decide) (by decide) rfl (by decide) (fun H locs hP hD hS => ?_)
          refine lv_astore (lv' := [(4, .ref (adc 3)), (0, .ref (adx 0)), (1, .int p1), (2, .int p2), (3, .int p3)]) hx hb dX2_set_34 hl (by decide) rfl (fun ls hl => ?_)
          refine lv_aload hx hb dX2_set_36 (lv_at hl 0 rfl) ?_
          refine lv_iload_n hx hb dX2_set_38 rfl (lv_at hl 2 rfl) ?_
          replace hf := gdE hf
          obtain ⟨h5, hf⟩ := hf
          refine va_iald hx hb hK.1 hP 14 0 rfl rfl (ib_in h5) dX2_set_39 ?_
          refine lv_topi (fun v6 ev6 => ?_)
          replace hf := bndE hf ev6
          refine lv_istore (lv' := [(5, .int v6), (4, .ref (adc 3)), (0, .ref (adx 0)), (1, .int p1), (2, .int p2), (3, .int p3)]) hx hb dX2_set_40 hl (by decide) rfl (fun ls hl => ?_)
          refine lv_aload hx hb dX2_set_42 (lv_at hl 1 rfl) ?_
          refine lv_iload_n hx hb dX2_set_44 rfl (lv_at hl 3 rfl) ?_
          refine lv_iload_n hx hb dX2_set_45 rfl (lv_at hl 5 rfl) ?_
          refine va_iast hx hb hK.1 hP hD hS 14 0 rfl rfl (ib_in h5) dX2_set_46 (fun H locs hP hD hS => ?_)
          replace hP : va_P D vwCl (wX cI cJ adx adc adn adt gx ++ wCi cI adc ((gc.1, gc.2.1, gc.2.2.1, upd gc.2.2.2.1 p1.toNatClampNeg p3, gc.2.2.2.2)) ++ wSw cI cJ cZ adn gn ++ wSw cI cJ cZ adt gt) H := hP
          replace hD : va_D A (wX cI cJ adx adc adn adt gx ++ wCi cI adc ((gc.1, gc.2.1, gc.2.2.1, upd gc.2.2.2.1 p1.toNatClampNeg p3, gc.2.2.2.2)) ++ wSw cI cJ cZ adn gn ++ wSw cI cJ cZ adt gt) := hD
          refine lv_aload_n hx hb dX2_set_47 rfl (lv_at hl 2 rfl) ?_
          replace hf := bdE hf
          obtain ⟨r7, hgr7, hf⟩ := hf
          refine xVw (va_runV (As := []) (rest := []) ⟨hx, hb, hml, hown, hts⟩ (c_X2_startAgain l D cI cJ cZ adx adc adn adt gx ((gc.1, gc.2.1, gc.2.2.1, upd gc.2.2.2.1 p1.toNatClampNeg p3, gc.2.2.2.2)) gn gt r7 hgr7 _) (cwV 0 hts gX2_set_X2_startAgain rfl rfl rfl (by decide +kernel) ⟨Nat.le_of_ble_eq_true rfl, Nat.le_of_ble_eq_true rfl⟩) ⟨PreW.blind, xRecv (q0 := 0) hK hP rfl rfl, (xPrew hK hP hD _)⟩ rfl rfl hl.1 rfl (lv_room (Nat.le_of_ble_eq_true rfl)) dX2_set_48 ⟨Nat.le_of_ble_eq_true rfl, Nat.le_of_ble_eq_true rfl⟩) hD hS hA (fun H locs hP hD hS => ?_)
          replace hP : va_P D vwCl (wX cI cJ adx adc adn adt ((r7.1, r7.2.1, r7.2.2.1, gx.2.2.2)) ++ wCi cI adc ((gc.1, gc.2.1, gc.2.2.1, upd gc.2.2.2.1 p1.toNatClampNeg p3, gc.2.2.2.2)) ++ wSw cI cJ cZ adn ((r7.2.2.2.1, r7.2.2.2.2.1, r7.2.2.2.2.2.1, r7.2.2.2.2.2.2.1, r7.2.2.2.2.2.2.2.1, r7.2.2.2.2.2.2.2.2, gn.2.2.2.2.2.2)) ++ wSw cI cJ cZ adt gt) H := hP
          replace hD : va_D A (wX cI cJ adx adc adn adt ((r7.1, r7.2.1, r7.2.2.1, gx.2.2.2)) ++ wCi cI adc ((gc.1, gc.2.1, gc.2.2.1, upd gc.2.2.2.1 p1.toNatClampNeg p3, gc.2.2.2.2)) ++ wSw cI cJ cZ adn ((r7.2.2.2.1, r7.2.2.2.2.1, r7.2.2.2.2.2.1, r7.2.2.2.2.2.2.1, r7.2.2.2.2.2.2.2.1, r7.2.2.2.2.2.2.2.2, gn.2.2.2.2.2.2)) ++ wSw cI cJ cZ adt gt) := hD
          refine lv_iload hx hb dX2_set_51 (lv_at hl 0 rfl) ?_
          obtain rfl := Option.some.inj hf
          exact retI hx hb hr hlocks hP hD hS dX2_set_53
        · replace hf := ifF hz31 hf
          refine xR (w2 := (wX cI cJ adx adc adn adt gx ++ wCi cI adc gc ++ wSw cI cJ cZ adn gn ++ wSw cI cJ cZ adt gt)) (wr := (wX cI cJ adx adc adn adt gx ++ wSw cI cJ cZ adn gn ++ wSw cI cJ cZ adt gt)) (va_runV (As := [.int p2]) (rest := []) ⟨hx, hb, hml, hown, hts⟩ (c_X0_ratesOf_f l D cI cJ cZ adc gc p2 hz31 _) (cwV 1 hts gX2_set_X0_ratesOf rfl rfl rfl (by decide +kernel) ⟨Nat.le_of_ble_eq_true rfl, Nat.le_of_ble_eq_true rfl⟩) ⟨PreW.blind, xRecv (q0 := 11) hK hP rfl rfl, (xPre hK hP hD [11, 12, 13, 14, 15, 16, 17, 18, 19, 20, 21] rfl (by decide) _)⟩ rfl rfl hl.1 rfl (lv_room (Nat.le_of_ble_eq_true rfl)) dX2_set_31 ⟨Nat.le_of_ble_eq_true rfl, Nat.le_of_ble_eq_true rfl⟩) hP hD hS hA [11, 12, 13, 14, 15, 16, 17, 18, 19, 20, 21] [0, 1, 2, 3, 4, 5, 6, 7, 8, 9, 10, 22, 23, 24, 25, 26, 27, 28, 29, 30, 31] [0, 1, 2, 3, 4, 5, 6, 7, 8, 9, 10, 21, 22, 23, 24, 25, 26, 27, 28, 29, 30, 31, 11, 12, 13, 14, 15, 16, 17, 18, 19, 20] rfl rfl (by decide) (by decide) rfl (by decide) (fun H locs hP hD hS => ?_)
          refine lv_astore (lv' := [(4, .ref (adc 4)), (0, .ref (adx 0)), (1, .int p1), (2, .int p2), (3, .int p3)]) hx hb dX2_set_34 hl (by decide) rfl (fun ls hl => ?_)
          refine lv_aload hx hb dX2_set_36 (lv_at hl 0 rfl) ?_
          refine lv_iload_n hx hb dX2_set_38 rfl (lv_at hl 2 rfl) ?_
          replace hf := gdE hf
          obtain ⟨h8, hf⟩ := hf
          refine va_iald hx hb hK.1 hP 15 0 rfl rfl (ib_in h8) dX2_set_39 ?_
          refine lv_topi (fun v9 ev9 => ?_)
          replace hf := bndE hf ev9
          refine lv_istore (lv' := [(5, .int v9), (4, .ref (adc 4)), (0, .ref (adx 0)), (1, .int p1), (2, .int p2), (3, .int p3)]) hx hb dX2_set_40 hl (by decide) rfl (fun ls hl => ?_)
          refine lv_aload hx hb dX2_set_42 (lv_at hl 1 rfl) ?_
          refine lv_iload_n hx hb dX2_set_44 rfl (lv_at hl 3 rfl) ?_
          refine lv_iload_n hx hb dX2_set_45 rfl (lv_at hl 5 rfl) ?_
          refine va_iast hx hb hK.1 hP hD hS 15 0 rfl rfl (ib_in h8) dX2_set_46 (fun H locs hP hD hS => ?_)
          replace hP : va_P D vwCl (wX cI cJ adx adc adn adt gx ++ wCi cI adc ((gc.1, gc.2.1, gc.2.2.1, gc.2.2.2.1, upd gc.2.2.2.2.1 p1.toNatClampNeg p3, gc.2.2.2.2.2)) ++ wSw cI cJ cZ adn gn ++ wSw cI cJ cZ adt gt) H := hP
          replace hD : va_D A (wX cI cJ adx adc adn adt gx ++ wCi cI adc ((gc.1, gc.2.1, gc.2.2.1, gc.2.2.2.1, upd gc.2.2.2.2.1 p1.toNatClampNeg p3, gc.2.2.2.2.2)) ++ wSw cI cJ cZ adn gn ++ wSw cI cJ cZ adt gt) := hD
          refine lv_aload_n hx hb dX2_set_47 rfl (lv_at hl 2 rfl) ?_
          replace hf := bdE hf
          obtain ⟨r10, hgr10, hf⟩ := hf
          refine xVw (va_runV (As := []) (rest := []) ⟨hx, hb, hml, hown, hts⟩ (c_X2_startAgain l D cI cJ cZ adx adc adn adt gx ((gc.1, gc.2.1, gc.2.2.1, gc.2.2.2.1, upd gc.2.2.2.2.1 p1.toNatClampNeg p3, gc.2.2.2.2.2)) gn gt r10 hgr10 _) (cwV 0 hts gX2_set_X2_startAgain rfl rfl rfl (by decide +kernel) ⟨Nat.le_of_ble_eq_true rfl, Nat.le_of_ble_eq_true rfl⟩) ⟨PreW.blind, xRecv (q0 := 0) hK hP rfl rfl, (xPrew hK hP hD _)⟩ rfl rfl hl.1 rfl (lv_room (Nat.le_of_ble_eq_true rfl)) dX2_set_48 ⟨Nat.le_of_ble_eq_true rfl, Nat.le_of_ble_eq_true rfl⟩) hD hS hA (fun H locs hP hD hS => ?_)
          replace hP : va_P D vwCl (wX cI cJ adx adc adn adt ((r10.1, r10.2.1, r10.2.2.1, gx.2.2.2)) ++ wCi cI adc ((gc.1, gc.2.1, gc.2.2.1, gc.2.2.2.1, upd gc.2.2.2.2.1 p1.toNatClampNeg p3, gc.2.2.2.2.2)) ++ wSw cI cJ cZ adn ((r10.2.2.2.1, r10.2.2.2.2.1, r10.2.2.2.2.2.1, r10.2.2.2.2.2.2.1, r10.2.2.2.2.2.2.2.1, r10.2.2.2.2.2.2.2.2, gn.2.2.2.2.2.2)) ++ wSw cI cJ cZ adt gt) H := hP
          replace hD : va_D A (wX cI cJ adx adc adn adt ((r10.1, r10.2.1, r10.2.2.1, gx.2.2.2)) ++ wCi cI adc ((gc.1, gc.2.1, gc.2.2.1, gc.2.2.2.1, upd gc.2.2.2.2.1 p1.toNatClampNeg p3, gc.2.2.2.2.2)) ++ wSw cI cJ cZ adn ((r10.2.2.2.1, r10.2.2.2.2.1, r10.2.2.2.2.2.1, r10.2.2.2.2.2.2.1, r10.2.2.2.2.2.2.2.1, r10.2.2.2.2.2.2.2.2, gn.2.2.2.2.2.2)) ++ wSw cI cJ cZ adt gt) := hD
          refine lv_iload hx hb dX2_set_51 (lv_at hl 0 rfl) ?_
          obtain rfl := Option.some.inj hf
          exact retI hx hb hr hlocks hP hD hS dX2_set_53
      · replace hf := ifN q4 hf
        refine lv_iconst (v := (-1)) hx hb dX2_set_24 (by decide) ?_
        obtain rfl := Option.some.inj hf
        exact retI hx hb hr hlocks hP hD hS dX2_set_25
    refine lv_if_eq (tgt := 17) hx hb dX2_set_9 (by decide) (fun q11 => ?_) (fun q11 => ?_)
    · replace hf := ifT q11 hf
      exact J17  _ _ _ hf hP hD hS (lv_sub hl [0, 1, 2, 3] rfl)
    · replace hf := ifF q11 hf
      refine lv_iload_n hx hb dX2_set_12 rfl (lv_at hl 2 rfl) ?_
      refine lv_iconst (v := 1) hx hb dX2_set_13 (by decide) ?_
      refine lv_icmp_ne (tgt := 24) hx hb dX2_set_14 (by decide) (fun q12 => ?_) (fun q12 => ?_)
      · replace hf := ifT q12 hf
        refine lv_iconst (v := (-1)) hx hb dX2_set_24 (by decide) ?_
        obtain rfl := Option.some.inj hf
        exact retI hx hb hr hlocks hP hD hS dX2_set_25
      · replace hf := ifN q12 hf
        exact J17  _ _ _ hf hP hD hS (lv_sub hl [0, 1, 2, 3] rfl)

def f_X2_cell_J22 (gx : Xo) (gc : Ci) (gn : Sw) (p1 : Int32) (p2 : Int32) (p3 : Int32) (p4 : Int32) (k0_22 : Int32) : Option (Int32 × Int32 × Ar × Ar × Int32 × Ar × Ar × Ar × Ar × Int64 × Int64 × Al × Al × Ar × Ar) :=
if k0_22 = 0 then
some ((-1), gx.1, gx.2.1, gx.2.2.1, gc.1, gc.2.1, gc.2.2.1, gc.2.2.2.1, gc.2.2.2.2.1, gn.1, gn.2.1, gn.2.2.1, gn.2.2.2.1, gn.2.2.2.2.1, gn.2.2.2.2.2.1)
else
(f_X2_isRate p3).bind (fun r2 =>
if (b2i r2) = 0 then
some ((-1), gx.1, gx.2.1, gx.2.2.1, gc.1, gc.2.1, gc.2.2.1, gc.2.2.2.1, gc.2.2.2.2.1, gn.1, gn.2.1, gn.2.2.1, gn.2.2.2.1, gn.2.2.2.2.1, gn.2.2.2.2.2.1)
else
(f_X2_isRate p4).bind (fun r4 =>
if (b2i r4) = 0 then
some ((-1), gx.1, gx.2.1, gx.2.2.1, gc.1, gc.2.1, gc.2.2.1, gc.2.2.2.1, gc.2.2.2.2.1, gn.1, gn.2.1, gn.2.2.1, gn.2.2.2.1, gn.2.2.2.2.1, gn.2.2.2.2.2.1)
else
if gc.1 < 4 then
gd (ib gc.1 4) (
bnd (gc.1 + 1) (fun v8 =>
(f_X2_startAgain gx ((v8, upd gc.2.1 gc.1.toNatClampNeg p1, upd gc.2.2.1 gc.1.toNatClampNeg p2, upd gc.2.2.2.1 gc.1.toNatClampNeg p3, upd gc.2.2.2.2.1 gc.1.toNatClampNeg p4, gc.2.2.2.2.2)) gn).bind (fun r9 =>
some (gc.1, r9.1, r9.2.1, r9.2.2.1, v8, upd gc.2.1 gc.1.toNatClampNeg p1, upd gc.2.2.1 gc.1.toNatClampNeg p2, upd gc.2.2.2.1 gc.1.toNatClampNeg p3, upd gc.2.2.2.2.1 gc.1.toNatClampNeg p4, r9.2.2.2.1, r9.2.2.2.2.1, r9.2.2.2.2.2.1, r9.2.2.2.2.2.2.1, r9.2.2.2.2.2.2.2.1, r9.2.2.2.2.2.2.2.2))))
else
some ((-1), gx.1, gx.2.1, gx.2.2.1, gc.1, gc.2.1, gc.2.2.1, gc.2.2.2.1, gc.2.2.2.2.1, gn.1, gn.2.1, gn.2.2.1, gn.2.2.2.1, gn.2.2.2.2.1, gn.2.2.2.2.2.1)))
def f_X2_cell_J21 (gx : Xo) (gc : Ci) (gn : Sw) (p1 : Int32) (p2 : Int32) (p3 : Int32) (p4 : Int32)  : Option (Int32 × Int32 × Ar × Ar × Int32 × Ar × Ar × Ar × Ar × Int64 × Int64 × Al × Al × Ar × Ar) :=
f_X2_cell_J22 gx gc gn p1 p2 p3 p4 0
def f_X2_cell (gx : Xo) (gc : Ci) (gn : Sw) (p1 : Int32) (p2 : Int32) (p3 : Int32) (p4 : Int32) : Option (Int32 × Int32 × Ar × Ar × Int32 × Ar × Ar × Ar × Ar × Int64 × Int64 × Al × Al × Ar × Ar) :=
if p1 < ((-50)) then
f_X2_cell_J21 gx gc gn p1 p2 p3 p4
else
if p2 ≤ p1 then
f_X2_cell_J21 gx gc gn p1 p2 p3 p4
else
if (50 : Int32) < p2 then
f_X2_cell_J21 gx gc gn p1 p2 p3 p4
else
f_X2_cell_J22 gx gc gn p1 p2 p3 p4 1
abbrev rmX2_cell : Room := { frames := 2, cells := 0, slots := 0, locals := 43 }
set_option maxHeartbeats 40000000 in
set_option maxRecDepth 100000 in
theorem c_X2_cell (l : Launch) (D : va_G) (cI cJ cZ : ClassId) (adx : Nat → Nat) (adc : Nat → Nat) (adn : Nat → Nat) (adt : Nat → Nat) (gx : Xo) (gc : Ci) (gn : Sw) (gt : Sw) (p1 : Int32) (p2 : Int32) (p3 : Int32) (p4 : Int32) (o : (Int32 × Int32 × Ar × Ar × Int32 × Ar × Ar × Ar × Ar × Int64 × Int64 × Al × Al × Ar × Ar)) (hf : f_X2_cell gx gc gn p1 p2 p3 p4 = some o) : CtI l yX2_cell wsX2_cell rmX2_cell D cI cJ cZ [.ref (adx 0), .int p1, .int p2, .int p3, .int p4] (wX cI cJ adx adc adn adt gx ++ wCi cI adc gc ++ wSw cI cJ cZ adn gn ++ wSw cI cJ cZ adt gt) (wX cI cJ adx adc adn adt ((o.2.1, o.2.2.1, o.2.2.2.1, gx.2.2.2)) ++ wCi cI adc ((o.2.2.2.2.1, o.2.2.2.2.2.1, o.2.2.2.2.2.2.1, o.2.2.2.2.2.2.2.1, o.2.2.2.2.2.2.2.2.1, gc.2.2.2.2.2)) ++ wSw cI cJ cZ adn ((o.2.2.2.2.2.2.2.2.2.1, o.2.2.2.2.2.2.2.2.2.2.1, o.2.2.2.2.2.2.2.2.2.2.2.1, o.2.2.2.2.2.2.2.2.2.2.2.2.1, o.2.2.2.2.2.2.2.2.2.2.2.2.2.1, o.2.2.2.2.2.2.2.2.2.2.2.2.2.2, gn.2.2.2.2.2.2)) ++ wSw cI cJ cZ adt gt) o.1 := by
  intro sz
  refine Met.ofW (cc := cX2_cell) (maxL := 7) (ret := (some .int)) (by decide) rfl ?_
  intro p e s m args below meth c s₁ B hml hv
  obtain ⟨rfl, hsz, hP, hK, hD0⟩ := hv
  have hx := B.exec
  have hb := B.bytes
  have hr := B.returns
  have hts := atoms_spec (ws := wsX2_cell) B.pre
  have hown : s.vm.findClass RX2 = some m.cls := findClass_of_methodNamed B.named
  have hlocks := B.notSynchronized
  subst hsz
  have hD := hD0.self (sz := s.heap.size)
  clear hD0
  generalize hAe : va_A (wX cI cJ adx adc adn adt gx ++ wCi cI adc gc ++ wSw cI cJ cZ adn gn ++ wSw cI cJ cZ adt gt) s.heap.size = A at hD ⊢
  have hA : ∀ q : Nat, s.heap.size ≤ q → A q := fun q h => by rw [← hAe]; exact Or.inr h
  have hS : va_S A s.heap s.heap [] := va_S.rf
  have hinX0 : ∀ w ∈ wsX00, w ∈ wsX2_cell := by decide +kernel
  have hinX2 : ∀ w ∈ wsX20, w ∈ wsX2_cell := by decide +kernel
  have hw0 : (Cond.fieldLink RX2 12 "SwingCircuits" "circuit" "LSwingCircuits$Circuit;").before _ s = true := hts _ (by decide +kernel)
  have hw1 : (Cond.fieldLink RX2 76 "SwingCircuits$Circuit" "cells" "I").before _ s = true := hts _ (by decide +kernel)
  have hw2 : (Cond.fieldLink RX2 79 "SwingCircuits$Circuit" "low" "[I").before _ s = true := hts _ (by decide +kernel)
  have hw3 : (Cond.fieldLink RX2 82 "SwingCircuits$Circuit" "high" "[I").before _ s = true := hts _ (by decide +kernel)
  have hw4 : (Cond.fieldLink RX2 85 "SwingCircuits$Circuit" "rise" "[I").before _ s = true := hts _ (by decide +kernel)
  have hw5 : (Cond.fieldLink RX2 88 "SwingCircuits$Circuit" "fall" "[I").before _ s = true := hts _ (by decide +kernel)
  have hl := lv_entry ([.ref (adx 0), .int p1, .int p2, .int p3, .int p4]) (n := 7) (Nat.le_of_ble_eq_true rfl)
  rw [lg_entry_eq]
  generalize (lg_sl ([.ref (adx 0), .int p1, .int p2, .int p3, .int p4]) ++ List.replicate (7 - (lg_sl ([.ref (adx 0), .int p1, .int p2, .int p3, .int p4])).length) Slot.unset).toArray = ls at hl ⊢
  replace hl : lv_has ls 7 [(0, .ref (adx 0)), (1, .int p1), (2, .int p2), (3, .int p3), (4, .int p4)] := hl
  unfold f_X2_cell at hf
  refine lv_iload_n hx hb dX2_cell_0 rfl (lv_at hl 1 rfl) ?_
  refine lv_bipush (v := (-50)) hx hb dX2_cell_1 (by decide) ?_
  have J22 : ∀ (k0_22 : Int32) (H : Heap) (locs : List Loc) (ls : Array Slot), f_X2_cell_J22 gx gc gn p1 p2 p3 p4 k0_22 = some o → va_P D vwCl (wX cI cJ adx adc adn adt gx ++ wCi cI adc gc ++ wSw cI cJ cZ adn gn ++ wSw cI cJ cZ adt gt) H → va_D A (wX cI cJ adx adc adn adt gx ++ wCi cI adc gc ++ wSw cI cJ cZ adn gn ++ wSw cI cJ cZ adt gt) → va_S A s.heap H locs → lv_has ls 7 [(0, .ref (adx 0)), (1, .int p1), (2, .int p2), (3, .int p3), (4, .int p4)] → W p l e (headSpec wsX2_cell rmX2_cell).room s m ([.ref (adx 0), .int p1, .int p2, .int p3, .int p4] : List Value).toArray below meth c H locs 0 0 (MQ below (QI D A o.1 (wX cI cJ adx adc adn adt ((o.2.1, o.2.2.1, o.2.2.2.1, gx.2.2.2)) ++ wCi cI adc ((o.2.2.2.2.1, o.2.2.2.2.2.1, o.2.2.2.2.2.2.1, o.2.2.2.2.2.2.2.1, o.2.2.2.2.2.2.2.2.1, gc.2.2.2.2.2)) ++ wSw cI cJ cZ adn ((o.2.2.2.2.2.2.2.2.2.1, o.2.2.2.2.2.2.2.2.2.2.1, o.2.2.2.2.2.2.2.2.2.2.2.1, o.2.2.2.2.2.2.2.2.2.2.2.2.1, o.2.2.2.2.2.2.2.2.2.2.2.2.2.1, o.2.2.2.2.2.2.2.2.2.2.2.2.2.2, gn.2.2.2.2.2.2)) ++ wSw cI cJ cZ adt gt)) ([.ref (adx 0), .int p1, .int p2, .int p3, .int p4] : List Value).toArray s 0 0 A) (F0 m 22 ls [.int k0_22]) := by
    intro k0_22 H locs ls hf hP hD hS hl
    unfold f_X2_cell_J22 at hf
    refine lv_istore (lv' := [(5, .int k0_22), (0, .ref (adx 0)), (1, .int p1), (2, .int p2), (3, .int p3), (4, .int p4)]) hx hb dX2_cell_22 hl (by decide) rfl (fun ls hl => ?_)
    refine lv_iload hx hb dX2_cell_24 (lv_at hl 0 rfl) ?_
    refine lv_if_eq (tgt := 55) hx hb dX2_cell_26 (by decide) (fun q1 => ?_) (fun q1 => ?_)
    · replace hf := ifT q1 hf
      refine lv_iconst (v := (-1)) hx hb dX2_cell_55 (by decide) ?_
      obtain rfl := Option.some.inj hf
      exact retI hx hb hr hlocks hP hD hS dX2_cell_56
    · replace hf := ifF q1 hf
      refine lv_iload_n hx hb dX2_cell_29 rfl (lv_at hl 4 rfl) ?_
      replace hf := bdE hf
      obtain ⟨r2, hgr2, hf⟩ := hf
      refine xI0 (va_runS (As := [.int p3]) (rest := []) ⟨hx, hb, hml, hown, hts⟩ (c_X2_isRate l D cI cJ cZ p3 r2 hgr2 _) (va_cwS 1 hts gX2_cell_X2_isRate rfl rfl rfl (by decide +kernel) ⟨Nat.le_of_ble_eq_true rfl, Nat.le_of_ble_eq_true rfl⟩) ⟨PreW.blind, (xPre0 hK _)⟩ rfl rfl hl.1 rfl (lv_room (Nat.le_of_ble_eq_true rfl)) dX2_cell_30 ⟨Nat.le_of_ble_eq_true rfl, Nat.le_of_ble_eq_true rfl⟩) hP hS hA (fun H locs hP hS => ?_)
      refine lv_if_eq (tgt := 55) hx hb dX2_cell_33 (by decide) (fun q3 => ?_) (fun q3 => ?_)
      · replace hf := ifT q3 hf
        refine lv_iconst (v := (-1)) hx hb dX2_cell_55 (by decide) ?_
        obtain rfl := Option.some.inj hf
        exact retI hx hb hr hlocks hP hD hS dX2_cell_56
      · replace hf := ifF q3 hf
        refine lv_iload hx hb dX2_cell_36 (lv_at hl 5 rfl) ?_
        replace hf := bdE hf
        obtain ⟨r4, hgr4, hf⟩ := hf
        refine xI0 (va_runS (As := [.int p4]) (rest := []) ⟨hx, hb, hml, hown, hts⟩ (c_X2_isRate l D cI cJ cZ p4 r4 hgr4 _) (va_cwS 1 hts gX2_cell_X2_isRate rfl rfl rfl (by decide +kernel) ⟨Nat.le_of_ble_eq_true rfl, Nat.le_of_ble_eq_true rfl⟩) ⟨PreW.blind, (xPre0 hK _)⟩ rfl rfl hl.1 rfl (lv_room (Nat.le_of_ble_eq_true rfl)) dX2_cell_38 ⟨Nat.le_of_ble_eq_true rfl, Nat.le_of_ble_eq_true rfl⟩) hP hS hA (fun H locs hP hS => ?_)
        refine lv_if_eq (tgt := 55) hx hb dX2_cell_41 (by decide) (fun q5 => ?_) (fun q5 => ?_)
        · replace hf := ifT q5 hf
          refine lv_iconst (v := (-1)) hx hb dX2_cell_55 (by decide) ?_
          obtain rfl := Option.some.inj hf
          exact retI hx hb hr hlocks hP hD hS dX2_cell_56
        · replace hf := ifF q5 hf
          refine lv_aload_n hx hb dX2_cell_44 rfl (lv_at hl 1 rfl) ?_
          refine va_get (D := D) (ci := 2) (v := .ref (adc 0)) (C := RX2) (T := TX2) (N := 17) hx hb hts hinX2 hown hK.1 hP 0 rfl rfl 0 (by decide) hw0 (fun _ h9 => h9) rfl dX2_cell_45 ?_
          refine va_get (D := D) (ci := 0) (v := .int gc.1) (C := RX0) (T := TX0) (N := 12) hx hb hts hinX0 hown hK.1 hP 11 rfl rfl 0 (by decide) hw1 (fun _ h9 => h9) rfl dX2_cell_48 ?_
          refine lv_iconst (v := 4) hx hb dX2_cell_51 (by decide) ?_
          refine lv_icmp_lt (tgt := 57) hx hb dX2_cell_52 (by decide) (fun q6 => ?_) (fun q6 => ?_)
          · replace hf := ifT q6 hf
            refine lv_aload_n hx hb dX2_cell_57 rfl (lv_at hl 1 rfl) ?_
            refine va_get (D := D) (ci := 2) (v := .ref (adc 0)) (C := RX2) (T := TX2) (N := 17) hx hb hts hinX2 hown hK.1 hP 0 rfl rfl 0 (by decide) hw0 (fun _ h9 => h9) rfl dX2_cell_58 ?_
            refine va_get (D := D) (ci := 0) (v := .int gc.1) (C := RX0) (T := TX0) (N := 12) hx hb hts hinX0 hown hK.1 hP 11 rfl rfl 0 (by decide) hw1 (fun _ h9 => h9) rfl dX2_cell_61 ?_
            refine lv_istore (lv' := [(6, .int gc.1), (5, .int k0_22), (0, .ref (adx 0)), (1, .int p1), (2, .int p2), (3, .int p3), (4, .int p4)]) hx hb dX2_cell_64 hl (by decide) rfl (fun ls hl => ?_)
            refine lv_aload_n hx hb dX2_cell_66 rfl (lv_at hl 2 rfl) ?_
            refine va_get (D := D) (ci := 2) (v := .ref (adc 0)) (C := RX2) (T := TX2) (N := 17) hx hb hts hinX2 hown hK.1 hP 0 rfl rfl 0 (by decide) hw0 (fun _ h9 => h9) rfl dX2_cell_67 ?_
            refine va_get (D := D) (ci := 0) (v := .ref (adc 1)) (C := RX0) (T := TX0) (N := 12) hx hb hts hinX0 hown hK.1 hP 11 rfl rfl 1 (by decide) hw2 (fun _ h9 => h9) rfl dX2_cell_70 ?_
            refine lv_iload hx hb dX2_cell_73 (lv_at hl 0 rfl) ?_
            refine lv_iload_n hx hb dX2_cell_75 rfl (lv_at hl 3 rfl) ?_
            replace hf := gdE hf
            obtain ⟨h7, hf⟩ := hf
            refine va_iast hx hb hK.1 hP hD hS 12 0 rfl rfl (ib_in h7) dX2_cell_76 (fun H locs hP hD hS => ?_)
            replace hP : va_P D vwCl (wX cI cJ adx adc adn adt gx ++ wCi cI adc ((gc.1, upd gc.2.1 gc.1.toNatClampNeg p1, gc.2.2)) ++ wSw cI cJ cZ adn gn ++ wSw cI cJ cZ adt gt) H := hP
            replace hD : va_D A (wX cI cJ adx adc adn adt gx ++ wCi cI adc ((gc.1, upd gc.2.1 gc.1.toNatClampNeg p1, gc.2.2)) ++ wSw cI cJ cZ adn gn ++ wSw cI cJ cZ adt gt) := hD
            refine lv_aload_n hx hb dX2_cell_77 rfl (lv_at hl 2 rfl) ?_
            refine va_get (D := D) (ci := 2) (v := .ref (adc 0)) (C := RX2) (T := TX2) (N := 17) hx hb hts hinX2 hown hK.1 hP 0 rfl rfl 0 (by decide) hw0 (fun _ h9 => h9) rfl dX2_cell_78 ?_
            refine va_get (D := D) (ci := 0) (v := .ref (adc 2)) (C := RX0) (T := TX0) (N := 12) hx hb hts hinX0 hown hK.1 hP 11 rfl rfl 2 (by decide) hw3 (fun _ h9 => h9) rfl dX2_cell_81 ?_
            refine lv_iload hx hb dX2_cell_84 (lv_at hl 0 rfl) ?_
            refine lv_iload_n hx hb dX2_cell_86 rfl (lv_at hl 4 rfl) ?_
            refine va_iast hx hb hK.1 hP hD hS 13 0 rfl rfl (ib_in h7) dX2_cell_87 (fun H locs hP hD hS => ?_)
            replace hP : va_P D vwCl (wX cI cJ adx adc adn adt gx ++ wCi cI adc ((gc.1, upd gc.2.1 gc.1.toNatClampNeg p1, upd gc.2.2.1 gc.1.toNatClampNeg p2, gc.2.2.2)) ++ wSw cI cJ cZ adn gn ++ wSw cI cJ cZ adt gt) H := hP
            replace hD : va_D A (wX cI cJ adx adc adn adt gx ++ wCi cI adc ((gc.1, upd gc.2.1 gc.1.toNatClampNeg p1, upd gc.2.2.1 gc.1.toNatClampNeg p2, gc.2.2.2)) ++ wSw cI cJ cZ adn gn ++ wSw cI cJ cZ adt gt) := hD
            refine lv_aload_n hx hb dX2_cell_88 rfl (lv_at hl 2 rfl) ?_
            refine va_get (D := D) (ci := 2) (v := .ref (adc 0)) (C := RX2) (T := TX2) (N := 17) hx hb hts hinX2 hown hK.1 hP 0 rfl rfl 0 (by decide) hw0 (fun _ h9 => h9) rfl dX2_cell_89 ?_
            refine va_get (D := D) (ci := 0) (v := .ref (adc 3)) (C := RX0) (T := TX0) (N := 12) hx hb hts hinX0 hown hK.1 hP 11 rfl rfl 3 (by decide) hw4 (fun _ h9 => h9) rfl dX2_cell_92 ?_
            refine lv_iload hx hb dX2_cell_95 (lv_at hl 0 rfl) ?_
            refine lv_iload_n hx hb dX2_cell_97 rfl (lv_at hl 5 rfl) ?_
            refine va_iast hx hb hK.1 hP hD hS 14 0 rfl rfl (ib_in h7) dX2_cell_98 (fun H locs hP hD hS => ?_)
            replace hP : va_P D vwCl (wX cI cJ adx adc adn adt gx ++ wCi cI adc ((gc.1, upd gc.2.1 gc.1.toNatClampNeg p1, upd gc.2.2.1 gc.1.toNatClampNeg p2, upd gc.2.2.2.1 gc.1.toNatClampNeg p3, gc.2.2.2.2)) ++ wSw cI cJ cZ adn gn ++ wSw cI cJ cZ adt gt) H := hP
            replace hD : va_D A (wX cI cJ adx adc adn adt gx ++ wCi cI adc ((gc.1, upd gc.2.1 gc.1.toNatClampNeg p1, upd gc.2.2.1 gc.1.toNatClampNeg p2, upd gc.2.2.2.1 gc.1.toNatClampNeg p3, gc.2.2.2.2)) ++ wSw cI cJ cZ adn gn ++ wSw cI cJ cZ adt gt) := hD
            refine lv_aload_n hx hb dX2_cell_99 rfl (lv_at hl 2 rfl) ?_
            refine va_get (D := D) (ci := 2) (v := .ref (adc 0)) (C := RX2) (T := TX2) (N := 17) hx hb hts hinX2 hown hK.1 hP 0 rfl rfl 0 (by decide) hw0 (fun _ h9 => h9) rfl dX2_cell_100 ?_
            refine va_get (D := D) (ci := 0) (v := .ref (adc 4)) (C := RX0) (T := TX0) (N := 12) hx hb hts hinX0 hown hK.1 hP 11 rfl rfl 4 (by decide) hw5 (fun _ h9 => h9) rfl dX2_cell_103 ?_
            refine lv_iload hx hb dX2_cell_106 (lv_at hl 0 rfl) ?_
            refine lv_iload hx hb dX2_cell_108 (lv_at hl 6 rfl) ?_
            refine va_iast hx hb hK.1 hP hD hS 15 0 rfl rfl (ib_in h7) dX2_cell_110 (fun H locs hP hD hS => ?_)
            replace hP : va_P D vwCl (wX cI cJ adx adc adn adt gx ++ wCi cI adc ((gc.1, upd gc.2.1 gc.1.toNatClampNeg p1, upd gc.2.2.1 gc.1.toNatClampNeg p2, upd gc.2.2.2.1 gc.1.toNatClampNeg p3, upd gc.2.2.2.2.1 gc.1.toNatClampNeg p4, gc.2.2.2.2.2)) ++ wSw cI cJ cZ adn gn ++ wSw cI cJ cZ adt gt) H := hP
            replace hD : va_D A (wX cI cJ adx adc adn adt gx ++ wCi cI adc ((gc.1, upd gc.2.1 gc.1.toNatClampNeg p1, upd gc.2.2.1 gc.1.toNatClampNeg p2, upd gc.2.2.2.1 gc.1.toNatClampNeg p3, upd gc.2.2.2.2.1 gc.1.toNatClampNeg p4, gc.2.2.2.2.2)) ++ wSw cI cJ cZ adn gn ++ wSw cI cJ cZ adt gt) := hD
            refine lv_aload_n hx hb dX2_cell_111 rfl (lv_at hl 2 rfl) ?_
            refine va_get (D := D) (ci := 2) (v := .ref (adc 0)) (C := RX2) (T := TX2) (N := 17) hx hb hts hinX2 hown hK.1 hP 0 rfl rfl 0 (by decide) hw0 (fun _ h9 => h9) rfl dX2_cell_112 ?_
            refine lv_iload hx hb dX2_cell_115 (lv_at hl 0 rfl) ?_
            refine lv_iconst (v := 1) hx hb dX2_cell_117 (by decide) ?_
            refine lv_iadd hx hb dX2_cell_118 ?_
            refine lv_topi (fun v8 ev8 => ?_)
            replace hf := bndE hf ev8
            refine va_put (D := D) (ci := 0) (v := .int v8) (ty := .int) (C := RX0) (T := TX0) (N := 12) hx hb hts hinX0 tyX0 tyX0_ok nmX0 hown hK.1 hP hD hS 11 rfl rfl 0 (by decide) hw1 (fun _ h9 => h9) rfl (by decide +kernel) rfl rfl (Nat.le_of_ble_eq_true rfl) dX2_cell_119 (fun H locs hP hD hS => ?_)
            replace hP : va_P D vwCl (wX cI cJ adx adc adn adt gx ++ wCi cI adc ((v8, upd gc.2.1 gc.1.toNatClampNeg p1, upd gc.2.2.1 gc.1.toNatClampNeg p2, upd gc.2.2.2.1 gc.1.toNatClampNeg p3, upd gc.2.2.2.2.1 gc.1.toNatClampNeg p4, gc.2.2.2.2.2)) ++ wSw cI cJ cZ adn gn ++ wSw cI cJ cZ adt gt) H := hP
            replace hD : va_D A (wX cI cJ adx adc adn adt gx ++ wCi cI adc ((v8, upd gc.2.1 gc.1.toNatClampNeg p1, upd gc.2.2.1 gc.1.toNatClampNeg p2, upd gc.2.2.2.1 gc.1.toNatClampNeg p3, upd gc.2.2.2.2.1 gc.1.toNatClampNeg p4, gc.2.2.2.2.2)) ++ wSw cI cJ cZ adn gn ++ wSw cI cJ cZ adt gt) := hD
            refine lv_aload_n hx hb dX2_cell_122 rfl (lv_at hl 2 rfl) ?_
            replace hf := bdE hf
            obtain ⟨r9, hgr9, hf⟩ := hf
            refine xVw (va_runV (As := []) (rest := []) ⟨hx, hb, hml, hown, hts⟩ (c_X2_startAgain l D cI cJ cZ adx adc adn adt gx ((v8, upd gc.2.1 gc.1.toNatClampNeg p1, upd gc.2.2.1 gc.1.toNatClampNeg p2, upd gc.2.2.2.1 gc.1.toNatClampNeg p3, upd gc.2.2.2.2.1 gc.1.toNatClampNeg p4, gc.2.2.2.2.2)) gn gt r9 hgr9 _) (cwV 0 hts gX2_cell_X2_startAgain rfl rfl rfl (by decide +kernel) ⟨Nat.le_of_ble_eq_true rfl, Nat.le_of_ble_eq_true rfl⟩) ⟨PreW.blind, xRecv (q0 := 0) hK hP rfl rfl, (xPrew hK hP hD _)⟩ rfl rfl hl.1 rfl (lv_room (Nat.le_of_ble_eq_true rfl)) dX2_cell_123 ⟨Nat.le_of_ble_eq_true rfl, Nat.le_of_ble_eq_true rfl⟩) hD hS hA (fun H locs hP hD hS => ?_)
            replace hP : va_P D vwCl (wX cI cJ adx adc adn adt ((r9.1, r9.2.1, r9.2.2.1, gx.2.2.2)) ++ wCi cI adc ((v8, upd gc.2.1 gc.1.toNatClampNeg p1, upd gc.2.2.1 gc.1.toNatClampNeg p2, upd gc.2.2.2.1 gc.1.toNatClampNeg p3, upd gc.2.2.2.2.1 gc.1.toNatClampNeg p4, gc.2.2.2.2.2)) ++ wSw cI cJ cZ adn ((r9.2.2.2.1, r9.2.2.2.2.1, r9.2.2.2.2.2.1, r9.2.2.2.2.2.2.1, r9.2.2.2.2.2.2.2.1, r9.2.2.2.2.2.2.2.2, gn.2.2.2.2.2.2)) ++ wSw cI cJ cZ adt gt) H := hP
            replace hD : va_D A (wX cI cJ adx adc adn adt ((r9.1, r9.2.1, r9.2.2.1, gx.2.2.2)) ++ wCi cI adc ((v8, upd gc.2.1 gc.1.toNatClampNeg p1, upd gc.2.2.1 gc.1.toNatClampNeg p2, upd gc.2.2.2.1 gc.1.toNatClampNeg p3, upd gc.2.2.2.2.1 gc.1.toNatClampNeg p4, gc.2.2.2.2.2)) ++ wSw cI cJ cZ adn ((r9.2.2.2.1, r9.2.2.2.2.1, r9.2.2.2.2.2.1, r9.2.2.2.2.2.2.1, r9.2.2.2.2.2.2.2.1, r9.2.2.2.2.2.2.2.2, gn.2.2.2.2.2.2)) ++ wSw cI cJ cZ adt gt) := hD
            refine lv_iload hx hb dX2_cell_126 (lv_at hl 0 rfl) ?_
            obtain rfl := Option.some.inj hf
            exact retI hx hb hr hlocks hP hD hS dX2_cell_128
          · replace hf := ifF q6 hf
            refine lv_iconst (v := (-1)) hx hb dX2_cell_55 (by decide) ?_
            obtain rfl := Option.some.inj hf
            exact retI hx hb hr hlocks hP hD hS dX2_cell_56
  have J21 : ∀  (H : Heap) (locs : List Loc) (ls : Array Slot), f_X2_cell_J21 gx gc gn p1 p2 p3 p4  = some o → va_P D vwCl (wX cI cJ adx adc adn adt gx ++ wCi cI adc gc ++ wSw cI cJ cZ adn gn ++ wSw cI cJ cZ adt gt) H → va_D A (wX cI cJ adx adc adn adt gx ++ wCi cI adc gc ++ wSw cI cJ cZ adn gn ++ wSw cI cJ cZ adt gt) → va_S A s.heap H locs → lv_has ls 7 [(0, .ref (adx 0)), (1, .int p1), (2, .int p2), (3, .int p3), (4, .int p4)] → W p l e (headSpec wsX2_cell rmX2_cell).room s m ([.ref (adx 0), .int p1, .int p2, .int p3, .int p4] : List Value).toArray below meth c H locs 0 0 (MQ below (QI D A o.1 (wX cI cJ adx adc adn adt ((o.2.1, o.2.2.1, o.2.2.2.1, gx.2.2.2)) ++ wCi cI adc ((o.2.2.2.2.1, o.2.2.2.2.2.1, o.2.2.2.2.2.2.1, o.2.2.2.2.2.2.2.1, o.2.2.2.2.2.2.2.2.1, gc.2.2.2.2.2)) ++ wSw cI cJ cZ adn ((o.2.2.2.2.2.2.2.2.2.1, o.2.2.2.2.2.2.2.2.2.2.1, o.2.2.2.2.2.2.2.2.2.2.2.1, o.2.2.2.2.2.2.2.2.2.2.2.2.1, o.2.2.2.2.2.2.2.2.2.2.2.2.2.1, o.2.2.2.2.2.2.2.2.2.2.2.2.2.2, gn.2.2.2.2.2.2)) ++ wSw cI cJ cZ adt gt)) ([.ref (adx 0), .int p1, .int p2, .int p3, .int p4] : List Value).toArray s 0 0 A) (F0 m 21 ls []) := by
    intro  H locs ls hf hP hD hS hl
    unfold f_X2_cell_J21 at hf
    refine lv_iconst (v := 0) hx hb dX2_cell_21 (by decide) ?_
    exact J22 0 _ _ _ hf hP hD hS (lv_sub hl [0, 1, 2, 3, 4] rfl)
  refine lv_icmp_lt (tgt := 21) hx hb dX2_cell_3 (by decide) (fun q10 => ?_) (fun q10 => ?_)
  · replace hf := ifT q10 hf
    exact J21  _ _ _ hf hP hD hS (lv_sub hl [0, 1, 2, 3, 4] rfl)
  · replace hf := ifF q10 hf
    refine lv_iload_n hx hb dX2_cell_6 rfl (lv_at hl 1 rfl) ?_
    refine lv_iload_n hx hb dX2_cell_7 rfl (lv_at hl 2 rfl) ?_
    refine lv_icmp_ge (tgt := 21) hx hb dX2_cell_8 (by decide) (fun q11 => ?_) (fun q11 => ?_)
    · replace hf := ifT q11 hf
      exact J21  _ _ _ hf hP hD hS (lv_sub hl [0, 1, 2, 3, 4] rfl)
    · replace hf := ifF q11 hf
      refine lv_iload_n hx hb dX2_cell_11 rfl (lv_at hl 2 rfl) ?_
      refine lv_bipush (v := 50) hx hb dX2_cell_12 (by decide) ?_
      refine lv_icmp_gt (tgt := 21) hx hb dX2_cell_14 (by decide) (fun q12 => ?_) (fun q12 => ?_)
      · replace hf := ifT q12 hf
        exact J21  _ _ _ hf hP hD hS (lv_sub hl [0, 1, 2, 3, 4] rfl)
      · replace hf := ifF q12 hf
        refine lv_iconst (v := 1) hx hb dX2_cell_17 (by decide) ?_
        refine lv_goto (tgt := 22) hx hb dX2_cell_18 (by decide) ?_
        exact J22 1 _ _ _ hf hP hD hS (lv_sub hl [0, 1, 2, 3, 4] rfl)

def f_X2_link_J26 (gx : Xo) (gc : Ci) (gn : Sw) (p1 : Int32) (p2 : Int32) (p3 : Int32) (p4 : Int32) (p5 : Int32) (p6 : Int32)  : Option (Int32 × Int32 × Ar × Ar × Int32 × Ar × Ar × Ar × Ar × Ar × Ar × Int64 × Int64 × Al × Al × Ar × Ar) :=
if p3 < 1 then
some ((-1), gx.1, gx.2.1, gx.2.2.1, gc.2.2.2.2.2.1, gc.2.2.2.2.2.2.1, gc.2.2.2.2.2.2.2.1, gc.2.2.2.2.2.2.2.2.1, gc.2.2.2.2.2.2.2.2.2.1, gc.2.2.2.2.2.2.2.2.2.2.1, gc.2.2.2.2.2.2.2.2.2.2.2, gn.1, gn.2.1, gn.2.2.1, gn.2.2.2.1, gn.2.2.2.2.1, gn.2.2.2.2.2.1)
else
if p3 ≤ 9 then
(f_X2_isAct p5 p6).bind (fun r7 =>
if (b2i r7) = 0 then
some ((-1), gx.1, gx.2.1, gx.2.2.1, gc.2.2.2.2.2.1, gc.2.2.2.2.2.2.1, gc.2.2.2.2.2.2.2.1, gc.2.2.2.2.2.2.2.2.1, gc.2.2.2.2.2.2.2.2.2.1, gc.2.2.2.2.2.2.2.2.2.2.1, gc.2.2.2.2.2.2.2.2.2.2.2, gn.1, gn.2.1, gn.2.2.1, gn.2.2.2.1, gn.2.2.2.2.1, gn.2.2.2.2.2.1)
else
if gc.2.2.2.2.2.1 < 8 then
gd (ib gc.2.2.2.2.2.1 8) (
bnd (gc.2.2.2.2.2.1 + 1) (fun v11 =>
(f_X2_startAgain gx ((gc.1, gc.2.1, gc.2.2.1, gc.2.2.2.1, gc.2.2.2.2.1, v11, upd gc.2.2.2.2.2.2.1 gc.2.2.2.2.2.1.toNatClampNeg p1, upd gc.2.2.2.2.2.2.2.1 gc.2.2.2.2.2.1.toNatClampNeg p2, upd gc.2.2.2.2.2.2.2.2.1 gc.2.2.2.2.2.1.toNatClampNeg p3, upd gc.2.2.2.2.2.2.2.2.2.1 gc.2.2.2.2.2.1.toNatClampNeg p4, upd gc.2.2.2.2.2.2.2.2.2.2.1 gc.2.2.2.2.2.1.toNatClampNeg p5, upd gc.2.2.2.2.2.2.2.2.2.2.2 gc.2.2.2.2.2.1.toNatClampNeg p6)) gn).bind (fun r12 =>
some (gc.2.2.2.2.2.1, r12.1, r12.2.1, r12.2.2.1, v11, upd gc.2.2.2.2.2.2.1 gc.2.2.2.2.2.1.toNatClampNeg p1, upd gc.2.2.2.2.2.2.2.1 gc.2.2.2.2.2.1.toNatClampNeg p2, upd gc.2.2.2.2.2.2.2.2.1 gc.2.2.2.2.2.1.toNatClampNeg p3, upd gc.2.2.2.2.2.2.2.2.2.1 gc.2.2.2.2.2.1.toNatClampNeg p4, upd gc.2.2.2.2.2.2.2.2.2.2.1 gc.2.2.2.2.2.1.toNatClampNeg p5, upd gc.2.2.2.2.2.2.2.2.2.2.2 gc.2.2.2.2.2.1.toNatClampNeg p6, r12.2.2.2.1, r12.2.2.2.2.1, r12.2.2.2.2.2.1, r12.2.2.2.2.2.2.1, r12.2.2.2.2.2.2.2.1, r12.2.2.2.2.2.2.2.2))))
else
some ((-1), gx.1, gx.2.1, gx.2.2.1, gc.2.2.2.2.2.1, gc.2.2.2.2.2.2.1, gc.2.2.2.2.2.2.2.1, gc.2.2.2.2.2.2.2.2.1, gc.2.2.2.2.2.2.2.2.2.1, gc.2.2.2.2.2.2.2.2.2.2.1, gc.2.2.2.2.2.2.2.2.2.2.2, gn.1, gn.2.1, gn.2.2.1, gn.2.2.2.1, gn.2.2.2.2.1, gn.2.2.2.2.2.1))
else
some ((-1), gx.1, gx.2.1, gx.2.2.1, gc.2.2.2.2.2.1, gc.2.2.2.2.2.2.1, gc.2.2.2.2.2.2.2.1, gc.2.2.2.2.2.2.2.2.1, gc.2.2.2.2.2.2.2.2.2.1, gc.2.2.2.2.2.2.2.2.2.2.1, gc.2.2.2.2.2.2.2.2.2.2.2, gn.1, gn.2.1, gn.2.2.1, gn.2.2.2.1, gn.2.2.2.2.1, gn.2.2.2.2.2.1)
def f_X2_link (gx : Xo) (gc : Ci) (gn : Sw) (p1 : Int32) (p2 : Int32) (p3 : Int32) (p4 : Int32) (p5 : Int32) (p6 : Int32) : Option (Int32 × Int32 × Ar × Ar × Int32 × Ar × Ar × Ar × Ar × Ar × Ar × Int64 × Int64 × Al × Al × Ar × Ar) :=
(f_X2_isCell gc p1).bind (fun r1 =>
if (b2i r1) = 0 then
some ((-1), gx.1, gx.2.1, gx.2.2.1, gc.2.2.2.2.2.1, gc.2.2.2.2.2.2.1, gc.2.2.2.2.2.2.2.1, gc.2.2.2.2.2.2.2.2.1, gc.2.2.2.2.2.2.2.2.2.1, gc.2.2.2.2.2.2.2.2.2.2.1, gc.2.2.2.2.2.2.2.2.2.2.2, gn.1, gn.2.1, gn.2.2.1, gn.2.2.2.1, gn.2.2.2.2.1, gn.2.2.2.2.2.1)
else
(f_X2_isCell gc p4).bind (fun r3 =>
if (b2i r3) = 0 then
some ((-1), gx.1, gx.2.1, gx.2.2.1, gc.2.2.2.2.2.1, gc.2.2.2.2.2.2.1, gc.2.2.2.2.2.2.2.1, gc.2.2.2.2.2.2.2.2.1, gc.2.2.2.2.2.2.2.2.2.1, gc.2.2.2.2.2.2.2.2.2.2.1, gc.2.2.2.2.2.2.2.2.2.2.2, gn.1, gn.2.1, gn.2.2.1, gn.2.2.2.1, gn.2.2.2.2.1, gn.2.2.2.2.2.1)
else
if p2 = 0 then
f_X2_link_J26 gx gc gn p1 p2 p3 p4 p5 p6
else
if ¬ p2 = 1 then
some ((-1), gx.1, gx.2.1, gx.2.2.1, gc.2.2.2.2.2.1, gc.2.2.2.2.2.2.1, gc.2.2.2.2.2.2.2.1, gc.2.2.2.2.2.2.2.2.1, gc.2.2.2.2.2.2.2.2.2.1, gc.2.2.2.2.2.2.2.2.2.2.1, gc.2.2.2.2.2.2.2.2.2.2.2, gn.1, gn.2.1, gn.2.2.1, gn.2.2.2.1, gn.2.2.2.2.1, gn.2.2.2.2.2.1)
else
f_X2_link_J26 gx gc gn p1 p2 p3 p4 p5 p6))
abbrev rmX2_link : Room := { frames := 2, cells := 0, slots := 0, locals := 43 }
set_option maxHeartbeats 40000000 in
set_option maxRecDepth 100000 in
theorem c_X2_link (l : Launch) (D : va_G) (cI cJ cZ : ClassId) (adx : Nat → Nat) (adc : Nat → Nat) (adn : Nat → Nat) (adt : Nat → Nat) (gx : Xo) (gc : Ci) (gn : Sw) (gt : Sw) (p1 : Int32) (p2 : Int32) (p3 : Int32) (p4 : Int32) (p5 : Int32) (p6 : Int32) (o : (Int32 × Int32 × Ar × Ar × Int32 × Ar × Ar × Ar × Ar × Ar × Ar × Int64 × Int64 × Al × Al × Ar × Ar)) (hf : f_X2_link gx gc gn p1 p2 p3 p4 p5 p6 = some o) : CtI l yX2_link wsX2_link rmX2_link D cI cJ cZ [.ref (adx 0), .int p1, .int p2, .int p3, .int p4, .int p5, .int p6] (wX cI cJ adx adc adn adt gx ++ wCi cI adc gc ++ wSw cI cJ cZ adn gn ++ wSw cI cJ cZ adt gt) (wX cI cJ adx adc adn adt ((o.2.1, o.2.2.1, o.2.2.2.1, gx.2.2.2)) ++ wCi cI adc ((gc.1, gc.2.1, gc.2.2.1, gc.2.2.2.1, gc.2.2.2.2.1, o.2.2.2.2.1, o.2.2.2.2.2.1, o.2.2.2.2.2.2.1, o.2.2.2.2.2.2.2.1, o.2.2.2.2.2.2.2.2.1, o.2.2.2.2.2.2.2.2.2.1, o.2.2.2.2.2.2.2.2.2.2.1)) ++ wSw cI cJ cZ adn ((o.2.2.2.2.2.2.2.2.2.2.2.1, o.2.2.2.2.2.2.2.2.2.2.2.2.1, o.2.2.2.2.2.2.2.2.2.2.2.2.2.1, o.2.2.2.2.2.2.2.2.2.2.2.2.2.2.1, o.2.2.2.2.2.2.2.2.2.2.2.2.2.2.2.1, o.2.2.2.2.2.2.2.2.2.2.2.2.2.2.2.2, gn.2.2.2.2.2.2)) ++ wSw cI cJ cZ adt gt) o.1 := by
  intro sz
  refine Met.ofW (cc := cX2_link) (maxL := 8) (ret := (some .int)) (by decide) rfl ?_
  intro p e s m args below meth c s₁ B hml hv
  obtain ⟨rfl, hsz, hP, hK, hD0⟩ := hv
  have hx := B.exec
  have hb := B.bytes
  have hr := B.returns
  have hts := atoms_spec (ws := wsX2_link) B.pre
  have hown : s.vm.findClass RX2 = some m.cls := findClass_of_methodNamed B.named
  have hlocks := B.notSynchronized
  subst hsz
  have hD := hD0.self (sz := s.heap.size)
  clear hD0
  generalize hAe : va_A (wX cI cJ adx adc adn adt gx ++ wCi cI adc gc ++ wSw cI cJ cZ adn gn ++ wSw cI cJ cZ adt gt) s.heap.size = A at hD ⊢
  have hA : ∀ q : Nat, s.heap.size ≤ q → A q := fun q h => by rw [← hAe]; exact Or.inr h
  have hS : va_S A s.heap s.heap [] := va_S.rf
  have hinX0 : ∀ w ∈ wsX00, w ∈ wsX2_link := by decide +kernel
  have hinX2 : ∀ w ∈ wsX20, w ∈ wsX2_link := by decide +kernel
  have hw0 : (Cond.fieldLink RX2 12 "SwingCircuits" "circuit" "LSwingCircuits$Circuit;").before _ s = true := hts _ (by decide +kernel)
  have hw1 : (Cond.fieldLink RX2 101 "SwingCircuits$Circuit" "links" "I").before _ s = true := hts _ (by decide +kernel)
  have hw2 : (Cond.fieldLink RX2 104 "SwingCircuits$Circuit" "from" "[I").before _ s = true := hts _ (by decide +kernel)
  have hw3 : (Cond.fieldLink RX2 107 "SwingCircuits$Circuit" "at" "[I").before _ s = true := hts _ (by decide +kernel)
  have hw4 : (Cond.fieldLink RX2 110 "SwingCircuits$Circuit" "nth" "[I").before _ s = true := hts _ (by decide +kernel)
  have hw5 : (Cond.fieldLink RX2 113 "SwingCircuits$Circuit" "to" "[I").before _ s = true := hts _ (by decide +kernel)
  have hw6 : (Cond.fieldLink RX2 116 "SwingCircuits$Circuit" "act" "[I").before _ s = true := hts _ (by decide +kernel)
  have hw7 : (Cond.fieldLink RX2 119 "SwingCircuits$Circuit" "by" "[I").before _ s = true := hts _ (by decide +kernel)
  have hl := lv_entry ([.ref (adx 0), .int p1, .int p2, .int p3, .int p4, .int p5, .int p6]) (n := 8) (Nat.le_of_ble_eq_true rfl)
  rw [lg_entry_eq]
  generalize (lg_sl ([.ref (adx 0), .int p1, .int p2, .int p3, .int p4, .int p5, .int p6]) ++ List.replicate (8 - (lg_sl ([.ref (adx 0), .int p1, .int p2, .int p3, .int p4, .int p5, .int p6])).length) Slot.unset).toArray = ls at hl ⊢
  replace hl : lv_has ls 8 [(0, .ref (adx 0)), (1, .int p1), (2, .int p2), (3, .int p3), (4, .int p4), (5, .int p5), (6, .int p6)] := hl
  unfold f_X2_link at hf
  refine lv_aload_n hx hb dX2_link_0 rfl (lv_at hl 0 rfl) ?_
  refine lv_iload_n hx hb dX2_link_1 rfl (lv_at hl 1 rfl) ?_
  replace hf := bdE hf
  obtain ⟨r1, hgr1, hf⟩ := hf
  refine xIw (va_runV (As := [.int p1]) (rest := []) ⟨hx, hb, hml, hown, hts⟩ (c_X2_isCell l D cI cJ cZ adx adc adn adt gx gc gn gt p1 r1 hgr1 _) (cwV 1 hts gX2_link_X2_isCell rfl rfl rfl (by decide +kernel) ⟨Nat.le_of_ble_eq_true rfl, Nat.le_of_ble_eq_true rfl⟩) ⟨PreW.blind, xRecv (q0 := 0) hK hP rfl rfl, (xPrew hK hP hD _)⟩ rfl rfl hl.1 rfl (lv_room (Nat.le_of_ble_eq_true rfl)) dX2_link_2 ⟨Nat.le_of_ble_eq_true rfl, Nat.le_of_ble_eq_true rfl⟩) hD hS hA (fun H locs hP hD hS => ?_)
  replace hP : va_P D vwCl (wX cI cJ adx adc adn adt gx ++ wCi cI adc gc ++ wSw cI cJ cZ adn gn ++ wSw cI cJ cZ adt gt) H := hP
  replace hD : va_D A (wX cI cJ adx adc adn adt gx ++ wCi cI adc gc ++ wSw cI cJ cZ adn gn ++ wSw cI cJ cZ adt gt) := hD
  refine lv_if_eq (tgt := 37) hx hb dX2_link_5 (by decide) (fun q2 => ?_) (fun q2 => ?_)
  · replace hf := ifT q2 hf
    refine lv_iconst (v := (-1)) hx hb dX2_link_37 (by decide) ?_
    obtain rfl := Option.some.inj hf
    exact retI hx hb hr hlocks hP hD hS dX2_link_38
  · replace hf := ifF q2 hf
    refine lv_aload_n hx hb dX2_link_8 rfl (lv_at hl 0 rfl) ?_
    refine lv_iload hx hb dX2_link_9 (lv_at hl 4 rfl) ?_
    replace hf := bdE hf
    obtain ⟨r3, hgr3, hf⟩ := hf
    refine xIw (va_runV (As := [.int p4]) (rest := []) ⟨hx, hb, hml, hown, hts⟩ (c_X2_isCell l D cI cJ cZ adx adc adn adt gx gc gn gt p4 r3 hgr3 _) (cwV 1 hts gX2_link_X2_isCell rfl rfl rfl (by decide +kernel) ⟨Nat.le_of_ble_eq_true rfl, Nat.le_of_ble_eq_true rfl⟩) ⟨PreW.blind, xRecv (q0 := 0) hK hP rfl rfl, (xPrew hK hP hD _)⟩ rfl rfl hl.1 rfl (lv_room (Nat.le_of_ble_eq_true rfl)) dX2_link_11 ⟨Nat.le_of_ble_eq_true rfl, Nat.le_of_ble_eq_true rfl⟩) hD hS hA (fun H locs hP hD hS => ?_)
    replace hP : va_P D vwCl (wX cI cJ adx adc adn adt gx ++ wCi cI adc gc ++ wSw cI cJ cZ adn gn ++ wSw cI cJ cZ adt gt) H := hP
    replace hD : va_D A (wX cI cJ adx adc adn adt gx ++ wCi cI adc gc ++ wSw cI cJ cZ adn gn ++ wSw cI cJ cZ adt gt) := hD
    refine lv_if_eq (tgt := 37) hx hb dX2_link_14 (by decide) (fun q4 => ?_) (fun q4 => ?_)
    · replace hf := ifT q4 hf
      refine lv_iconst (v := (-1)) hx hb dX2_link_37 (by decide) ?_
      obtain rfl := Option.some.inj hf
      exact retI hx hb hr hlocks hP hD hS dX2_link_38
    · replace hf := ifF q4 hf
      refine lv_iload_n hx hb dX2_link_17 rfl (lv_at hl 2 rfl) ?_
      have J26 : ∀  (H : Heap) (locs : List Loc) (ls : Array Slot), f_X2_link_J26 gx gc gn p1 p2 p3 p4 p5 p6  = some o → va_P D vwCl (wX cI cJ adx adc adn adt gx ++ wCi cI adc gc ++ wSw cI cJ cZ adn gn ++ wSw cI cJ cZ adt gt) H → va_D A (wX cI cJ adx adc adn adt gx ++ wCi cI adc gc ++ wSw cI cJ cZ adn gn ++ wSw cI cJ cZ adt gt) → va_S A s.heap H locs → lv_has ls 8 [(0, .ref (adx 0)), (1, .int p1), (2, .int p2), (3, .int p3), (4, .int p4), (5, .int p5), (6, .int p6)] → W p l e (headSpec wsX2_link rmX2_link).room s m ([.ref (adx 0), .int p1, .int p2, .int p3, .int p4, .int p5, .int p6] : List Value).toArray below meth c H locs 0 0 (MQ below (QI D A o.1 (wX cI cJ adx adc adn adt ((o.2.1, o.2.2.1, o.2.2.2.1, gx.2.2.2)) ++ wCi cI adc ((gc.1, gc.2.1, gc.2.2.1, gc.2.2.2.1, gc.2.2.2.2.1, o.2.2.2.2.1, o.2.2.2.2.2.1, o.2.2.2.2.2.2.1, o.2.2.2.2.2.2.2.1, o.2.2.2.2.2.2.2.2.1, o.2.2.2.2.2.2.2.2.2.1, o.2.2.2.2.2.2.2.2.2.2.1)) ++ wSw cI cJ cZ adn ((o.2.2.2.2.2.2.2.2.2.2.2.1, o.2.2.2.2.2.2.2.2.2.2.2.2.1, o.2.2.2.2.2.2.2.2.2.2.2.2.2.1, o.2.2.2.2.2.2.2.2.2.2.2.2.2.2.1, o.2.2.2.2.2.2.2.2.2.2.2.2.2.2.2.1, o.2.2.2.2.2.2.2.2.2.2.2.2.2.2.2.2, gn.2.2.2.2.2.2)) ++ wSw cI cJ cZ adt gt)) ([.ref (adx 0), .int p1, .int p2, .int p3, .int p4, .int p5, .int p6] : List Value).toArray s 0 0 A) (F0 m 26 ls []) := by
        intro  H locs ls hf hP hD hS hl
        unfold f_X2_link_J26 at hf
        refine lv_iload_n hx hb dX2_link_26 rfl (lv_at hl 3 rfl) ?_
        refine lv_iconst (v := 1) hx hb dX2_link_27 (by decide) ?_
        refine lv_icmp_lt (tgt := 37) hx hb dX2_link_28 (by decide) (fun q5 => ?_) (fun q5 => ?_)
        · replace hf := ifT q5 hf
          refine lv_iconst (v := (-1)) hx hb dX2_link_37 (by decide) ?_
          obtain rfl := Option.some.inj hf
          exact retI hx hb hr hlocks hP hD hS dX2_link_38
        · replace hf := ifF q5 hf
          refine lv_iload_n hx hb dX2_link_31 rfl (lv_at hl 3 rfl) ?_
          refine lv_bipush (v := 9) hx hb dX2_link_32 (by decide) ?_
          refine lv_icmp_le (tgt := 39) hx hb dX2_link_34 (by decide) (fun q6 => ?_) (fun q6 => ?_)
          · replace hf := ifT q6 hf
            refine lv_iload hx hb dX2_link_39 (lv_at hl 5 rfl) ?_
            refine lv_iload hx hb dX2_link_41 (lv_at hl 6 rfl) ?_
            replace hf := bdE hf
            obtain ⟨r7, hgr7, hf⟩ := hf
            refine xI0 (va_runS (As := [.int p5, .int p6]) (rest := []) ⟨hx, hb, hml, hown, hts⟩ (c_X2_isAct l D cI cJ cZ p5 p6 r7 hgr7 _) (va_cwS 2 hts gX2_link_X2_isAct rfl rfl rfl (by decide +kernel) ⟨Nat.le_of_ble_eq_true rfl, Nat.le_of_ble_eq_true rfl⟩) ⟨PreW.blind, (xPre0 hK _)⟩ rfl rfl hl.1 rfl (lv_room (Nat.le_of_ble_eq_true rfl)) dX2_link_43 ⟨Nat.le_of_ble_eq_true rfl, Nat.le_of_ble_eq_true rfl⟩) hP hS hA (fun H locs hP hS => ?_)
            refine lv_if_eq (tgt := 61) hx hb dX2_link_46 (by decide) (fun q8 => ?_) (fun q8 => ?_)
            · replace hf := ifT q8 hf
              refine lv_iconst (v := (-1)) hx hb dX2_link_61 (by decide) ?_
              obtain rfl := Option.some.inj hf
              exact retI hx hb hr hlocks hP hD hS dX2_link_62
            · replace hf := ifF q8 hf
              refine lv_aload_n hx hb dX2_link_49 rfl (lv_at hl 0 rfl) ?_
              refine va_get (D := D) (ci := 2) (v := .ref (adc 0)) (C := RX2) (T := TX2) (N := 17) hx hb hts hinX2 hown hK.1 hP 0 rfl rfl 0 (by decide) hw0 (fun _ h9 => h9) rfl dX2_link_50 ?_
              refine va_get (D := D) (ci := 0) (v := .int gc.2.2.2.2.2.1) (C := RX0) (T := TX0) (N := 12) hx hb hts hinX0 hown hK.1 hP 11 rfl rfl 5 (by decide) hw1 (fun _ h9 => h9) rfl dX2_link_53 ?_
              refine lv_bipush (v := 8) hx hb dX2_link_56 (by decide) ?_
              refine lv_icmp_lt (tgt := 63) hx hb dX2_link_58 (by decide) (fun q9 => ?_) (fun q9 => ?_)
              · replace hf := ifT q9 hf
                refine lv_aload_n hx hb dX2_link_63 rfl (lv_at hl 0 rfl) ?_
                refine va_get (D := D) (ci := 2) (v := .ref (adc 0)) (C := RX2) (T := TX2) (N := 17) hx hb hts hinX2 hown hK.1 hP 0 rfl rfl 0 (by decide) hw0 (fun _ h9 => h9) rfl dX2_link_64 ?_
                refine va_get (D := D) (ci := 0) (v := .int gc.2.2.2.2.2.1) (C := RX0) (T := TX0) (N := 12) hx hb hts hinX0 hown hK.1 hP 11 rfl rfl 5 (by decide) hw1 (fun _ h9 => h9) rfl dX2_link_67 ?_
                refine lv_istore (lv' := [(7, .int gc.2.2.2.2.2.1), (0, .ref (adx 0)), (1, .int p1), (2, .int p2), (3, .int p3), (4, .int p4), (5, .int p5), (6, .int p6)]) hx hb dX2_link_70 hl (by decide) rfl (fun ls hl => ?_)
                refine lv_aload_n hx hb dX2_link_72 rfl (lv_at hl 1 rfl) ?_
                refine va_get (D := D) (ci := 2) (v := .ref (adc 0)) (C := RX2) (T := TX2) (N := 17) hx hb hts hinX2 hown hK.1 hP 0 rfl rfl 0 (by decide) hw0 (fun _ h9 => h9) rfl dX2_link_73 ?_
                refine va_get (D := D) (ci := 0) (v := .ref (adc 5)) (C := RX0) (T := TX0) (N := 12) hx hb hts hinX0 hown hK.1 hP 11 rfl rfl 6 (by decide) hw2 (fun _ h9 => h9) rfl dX2_link_76 ?_
                refine lv_iload hx hb dX2_link_79 (lv_at hl 0 rfl) ?_
                refine lv_iload_n hx hb dX2_link_81 rfl (lv_at hl 2 rfl) ?_
                replace hf := gdE hf
                obtain ⟨h10, hf⟩ := hf
                refine va_iast hx hb hK.1 hP hD hS 16 0 rfl rfl (ib_in h10) dX2_link_82 (fun H locs hP hD hS => ?_)
                replace hP : va_P D vwCl (wX cI cJ adx adc adn adt gx ++ wCi cI adc ((gc.1, gc.2.1, gc.2.2.1, gc.2.2.2.1, gc.2.2.2.2.1, gc.2.2.2.2.2.1, upd gc.2.2.2.2.2.2.1 gc.2.2.2.2.2.1.toNatClampNeg p1, gc.2.2.2.2.2.2.2)) ++ wSw cI cJ cZ adn gn ++ wSw cI cJ cZ adt gt) H := hP
                replace hD : va_D A (wX cI cJ adx adc adn adt gx ++ wCi cI adc ((gc.1, gc.2.1, gc.2.2.1, gc.2.2.2.1, gc.2.2.2.2.1, gc.2.2.2.2.2.1, upd gc.2.2.2.2.2.2.1 gc.2.2.2.2.2.1.toNatClampNeg p1, gc.2.2.2.2.2.2.2)) ++ wSw cI cJ cZ adn gn ++ wSw cI cJ cZ adt gt) := hD
                refine lv_aload_n hx hb dX2_link_83 rfl (lv_at hl 1 rfl) ?_
                refine va_get (D := D) (ci := 2) (v := .ref (adc 0)) (C := RX2) (T := TX2) (N := 17) hx hb hts hinX2 hown hK.1 hP 0 rfl rfl 0 (by decide) hw0 (fun _ h9 => h9) rfl dX2_link_84 ?_
                refine va_get (D := D) (ci := 0) (v := .ref (adc 6)) (C := RX0) (T := TX0) (N := 12) hx hb hts hinX0 hown hK.1 hP 11 rfl rfl 7 (by decide) hw3 (fun _ h9 => h9) rfl dX2_link_87 ?_
                refine lv_iload hx hb dX2_link_90 (lv_at hl 0 rfl) ?_
                refine lv_iload_n hx hb dX2_link_92 rfl (lv_at hl 3 rfl) ?_
                refine va_iast hx hb hK.1 hP hD hS 17 0 rfl rfl (ib_in h10) dX2_link_93 (fun H locs hP hD hS => ?_)
                replace hP : va_P D vwCl (wX cI cJ adx adc adn adt gx ++ wCi cI adc ((gc.1, gc.2.1, gc.2.2.1, gc.2.2.2.1, gc.2.2.2.2.1, gc.2.2.2.2.2.1, upd gc.2.2.2.2.2.2.1 gc.2.2.2.2.2.1.toNatClampNeg p1, upd gc.2.2.2.2.2.2.2.1 gc.2.2.2.2.2.1.toNatClampNeg p2, gc.2.2.2.2.2.2.2.2)) ++ wSw cI cJ cZ adn gn ++ wSw cI cJ cZ adt gt) H := hP
                replace hD : va_D A (wX cI cJ adx adc adn adt gx ++ wCi cI adc ((gc.1, gc.2.1, gc.2.2.1, gc.2.2.2.1, gc.2.2.2.2.1, gc.2.2.2.2.2.1, upd gc.2.2.2.2.2.2.1 gc.2.2.2.2.2.1.toNatClampNeg p1, upd gc.2.2.2.2.2.2.2.1 gc.2.2.2.2.2.1.toNatClampNeg p2, gc.2.2.2.2.2.2.2.2)) ++ wSw cI cJ cZ adn gn ++ wSw cI cJ cZ adt gt) := hD
                refine lv_aload_n hx hb dX2_link_94 rfl (lv_at hl 1 rfl) ?_
                refine va_get (D := D) (ci := 2) (v := .ref (adc 0)) (C := RX2) (T := TX2) (N := 17) hx hb hts hinX2 hown hK.1 hP 0 rfl rfl 0 (by decide) hw0 (fun _ h9 => h9) rfl dX2_link_95 ?_
                refine va_get (D := D) (ci := 0) (v := .ref (adc 7)) (C := RX0) (T := TX0) (N := 12) hx hb hts hinX0 hown hK.1 hP 11 rfl rfl 8 (by decide) hw4 (fun _ h9 => h9) rfl dX2_link_98 ?_
                refine lv_iload hx hb dX2_link_101 (lv_at hl 0 rfl) ?_
                refine lv_iload_n hx hb dX2_link_103 rfl (lv_at hl 4 rfl) ?_
                refine va_iast hx hb hK.1 hP hD hS 18 0 rfl rfl (ib_in h10) dX2_link_104 (fun H locs hP hD hS => ?_)
                replace hP : va_P D vwCl (wX cI cJ adx adc adn adt gx ++ wCi cI adc ((gc.1, gc.2.1, gc.2.2.1, gc.2.2.2.1, gc.2.2.2.2.1, gc.2.2.2.2.2.1, upd gc.2.2.2.2.2.2.1 gc.2.2.2.2.2.1.toNatClampNeg p1, upd gc.2.2.2.2.2.2.2.1 gc.2.2.2.2.2.1.toNatClampNeg p2, upd gc.2.2.2.2.2.2.2.2.1 gc.2.2.2.2.2.1.toNatClampNeg p3, gc.2.2.2.2.2.2.2.2.2)) ++ wSw cI cJ cZ adn gn ++ wSw cI cJ cZ adt gt) H := hP
                replace hD : va_D A (wX cI cJ adx adc adn adt gx ++ wCi cI adc ((gc.1, gc.2.1, gc.2.2.1, gc.2.2.2.1, gc.2.2.2.2.1, gc.2.2.2.2.2.1, upd gc.2.2.2.2.2.2.1 gc.2.2.2.2.2.1.toNatClampNeg p1, upd gc.2.2.2.2.2.2.2.1 gc.2.2.2.2.2.1.toNatClampNeg p2, upd gc.2.2.2.2.2.2.2.2.1 gc.2.2.2.2.2.1.toNatClampNeg p3, gc.2.2.2.2.2.2.2.2.2)) ++ wSw cI cJ cZ adn gn ++ wSw cI cJ cZ adt gt) := hD
                refine lv_aload_n hx hb dX2_link_105 rfl (lv_at hl 1 rfl) ?_
                refine va_get (D := D) (ci := 2) (v := .ref (adc 0)) (C := RX2) (T := TX2) (N := 17) hx hb hts hinX2 hown hK.1 hP 0 rfl rfl 0 (by decide) hw0 (fun _ h9 => h9) rfl dX2_link_106 ?_
                refine va_get (D := D) (ci := 0) (v := .ref (adc 8)) (C := RX0) (T := TX0) (N := 12) hx hb hts hinX0 hown hK.1 hP 11 rfl rfl 9 (by decide) hw5 (fun _ h9 => h9) rfl dX2_link_109 ?_
                refine lv_iload hx hb dX2_link_112 (lv_at hl 0 rfl) ?_
                refine lv_iload hx hb dX2_link_114 (lv_at hl 5 rfl) ?_
                refine va_iast hx hb hK.1 hP hD hS 19 0 rfl rfl (ib_in h10) dX2_link_116 (fun H locs hP hD hS => ?_)
                replace hP : va_P D vwCl (wX cI cJ adx adc adn adt gx ++ wCi cI adc ((gc.1, gc.2.1, gc.2.2.1, gc.2.2.2.1, gc.2.2.2.2.1, gc.2.2.2.2.2.1, upd gc.2.2.2.2.2.2.1 gc.2.2.2.2.2.1.toNatClampNeg p1, upd gc.2.2.2.2.2.2.2.1 gc.2.2.2.2.2.1.toNatClampNeg p2, upd gc.2.2.2.2.2.2.2.2.1 gc.2.2.2.2.2.1.toNatClampNeg p3, upd gc.2.2.2.2.2.2.2.2.2.1 gc.2.2.2.2.2.1.toNatClampNeg p4, gc.2.2.2.2.2.2.2.2.2.2)) ++ wSw cI cJ cZ adn gn ++ wSw cI cJ cZ adt gt) H := hP
                replace hD : va_D A (wX cI cJ adx adc adn adt gx ++ wCi cI adc ((gc.1, gc.2.1, gc.2.2.1, gc.2.2.2.1, gc.2.2.2.2.1, gc.2.2.2.2.2.1, upd gc.2.2.2.2.2.2.1 gc.2.2.2.2.2.1.toNatClampNeg p1, upd gc.2.2.2.2.2.2.2.1 gc.2.2.2.2.2.1.toNatClampNeg p2, upd gc.2.2.2.2.2.2.2.2.1 gc.2.2.2.2.2.1.toNatClampNeg p3, upd gc.2.2.2.2.2.2.2.2.2.1 gc.2.2.2.2.2.1.toNatClampNeg p4, gc.2.2.2.2.2.2.2.2.2.2)) ++ wSw cI cJ cZ adn gn ++ wSw cI cJ cZ adt gt) := hD
                refine lv_aload_n hx hb dX2_link_117 rfl (lv_at hl 1 rfl) ?_
                refine va_get (D := D) (ci := 2) (v := .ref (adc 0)) (C := RX2) (T := TX2) (N := 17) hx hb hts hinX2 hown hK.1 hP 0 rfl rfl 0 (by decide) hw0 (fun _ h9 => h9) rfl dX2_link_118 ?_
                refine va_get (D := D) (ci := 0) (v := .ref (adc 9)) (C := RX0) (T := TX0) (N := 12) hx hb hts hinX0 hown hK.1 hP 11 rfl rfl 10 (by decide) hw6 (fun _ h9 => h9) rfl dX2_link_121 ?_
                refine lv_iload hx hb dX2_link_124 (lv_at hl 0 rfl) ?_
                refine lv_iload hx hb dX2_link_126 (lv_at hl 6 rfl) ?_
                refine va_iast hx hb hK.1 hP hD hS 20 0 rfl rfl (ib_in h10) dX2_link_128 (fun H locs hP hD hS => ?_)
                replace hP : va_P D vwCl (wX cI cJ adx adc adn adt gx ++ wCi cI adc ((gc.1, gc.2.1, gc.2.2.1, gc.2.2.2.1, gc.2.2.2.2.1, gc.2.2.2.2.2.1, upd gc.2.2.2.2.2.2.1 gc.2.2.2.2.2.1.toNatClampNeg p1, upd gc.2.2.2.2.2.2.2.1 gc.2.2.2.2.2.1.toNatClampNeg p2, upd gc.2.2.2.2.2.2.2.2.1 gc.2.2.2.2.2.1.toNatClampNeg p3, upd gc.2.2.2.2.2.2.2.2.2.1 gc.2.2.2.2.2.1.toNatClampNeg p4, upd gc.2.2.2.2.2.2.2.2.2.2.1 gc.2.2.2.2.2.1.toNatClampNeg p5, gc.2.2.2.2.2.2.2.2.2.2.2)) ++ wSw cI cJ cZ adn gn ++ wSw cI cJ cZ adt gt) H := hP
                replace hD : va_D A (wX cI cJ adx adc adn adt gx ++ wCi cI adc ((gc.1, gc.2.1, gc.2.2.1, gc.2.2.2.1, gc.2.2.2.2.1, gc.2.2.2.2.2.1, upd gc.2.2.2.2.2.2.1 gc.2.2.2.2.2.1.toNatClampNeg p1, upd gc.2.2.2.2.2.2.2.1 gc.2.2.2.2.2.1.toNatClampNeg p2, upd gc.2.2.2.2.2.2.2.2.1 gc.2.2.2.2.2.1.toNatClampNeg p3, upd gc.2.2.2.2.2.2.2.2.2.1 gc.2.2.2.2.2.1.toNatClampNeg p4, upd gc.2.2.2.2.2.2.2.2.2.2.1 gc.2.2.2.2.2.1.toNatClampNeg p5, gc.2.2.2.2.2.2.2.2.2.2.2)) ++ wSw cI cJ cZ adn gn ++ wSw cI cJ cZ adt gt) := hD
                refine lv_aload_n hx hb dX2_link_129 rfl (lv_at hl 1 rfl) ?_
                refine va_get (D := D) (ci := 2) (v := .ref (adc 0)) (C := RX2) (T := TX2) (N := 17) hx hb hts hinX2 hown hK.1 hP 0 rfl rfl 0 (by decide) hw0 (fun _ h9 => h9) rfl dX2_link_130 ?_
                refine va_get (D := D) (ci := 0) (v := .ref (adc 10)) (C := RX0) (T := TX0) (N := 12) hx hb hts hinX0 hown hK.1 hP 11 rfl rfl 11 (by decide) hw7 (fun _ h9 => h9) rfl dX2_link_133 ?_
                refine lv_iload hx hb dX2_link_136 (lv_at hl 0 rfl) ?_
                refine lv_iload hx hb dX2_link_138 (lv_at hl 7 rfl) ?_
                refine va_iast hx hb hK.1 hP hD hS 21 0 rfl rfl (ib_in h10) dX2_link_140 (fun H locs hP hD hS => ?_)
                replace hP : va_P D vwCl (wX cI cJ adx adc adn adt gx ++ wCi cI adc ((gc.1, gc.2.1, gc.2.2.1, gc.2.2.2.1, gc.2.2.2.2.1, gc.2.2.2.2.2.1, upd gc.2.2.2.2.2.2.1 gc.2.2.2.2.2.1.toNatClampNeg p1, upd gc.2.2.2.2.2.2.2.1 gc.2.2.2.2.2.1.toNatClampNeg p2, upd gc.2.2.2.2.2.2.2.2.1 gc.2.2.2.2.2.1.toNatClampNeg p3, upd gc.2.2.2.2.2.2.2.2.2.1 gc.2.2.2.2.2.1.toNatClampNeg p4, upd gc.2.2.2.2.2.2.2.2.2.2.1 gc.2.2.2.2.2.1.toNatClampNeg p5, upd gc.2.2.2.2.2.2.2.2.2.2.2 gc.2.2.2.2.2.1.toNatClampNeg p6)) ++ wSw cI cJ cZ adn gn ++ wSw cI cJ cZ adt gt) H := hP
                replace hD : va_D A (wX cI cJ adx adc adn adt gx ++ wCi cI adc ((gc.1, gc.2.1, gc.2.2.1, gc.2.2.2.1, gc.2.2.2.2.1, gc.2.2.2.2.2.1, upd gc.2.2.2.2.2.2.1 gc.2.2.2.2.2.1.toNatClampNeg p1, upd gc.2.2.2.2.2.2.2.1 gc.2.2.2.2.2.1.toNatClampNeg p2, upd gc.2.2.2.2.2.2.2.2.1 gc.2.2.2.2.2.1.toNatClampNeg p3, upd gc.2.2.2.2.2.2.2.2.2.1 gc.2.2.2.2.2.1.toNatClampNeg p4, upd gc.2.2.2.2.2.2.2.2.2.2.1 gc.2.2.2.2.2.1.toNatClampNeg p5, upd gc.2.2.2.2.2.2.2.2.2.2.2 gc.2.2.2.2.2.1.toNatClampNeg p6)) ++ wSw cI cJ cZ adn gn ++ wSw cI cJ cZ adt gt) := hD
                refine lv_aload_n hx hb dX2_link_141 rfl (lv_at hl 1 rfl) ?_
                refine va_get (D := D) (ci := 2) (v := .ref (adc 0)) (C := RX2) (T := TX2) (N := 17) hx hb hts hinX2 hown hK.1 hP 0 rfl rfl 0 (by decide) hw0 (fun _ h9 => h9) rfl dX2_link_142 ?_
                refine lv_iload hx hb dX2_link_145 (lv_at hl 0 rfl) ?_
                refine lv_iconst (v := 1) hx hb dX2_link_147 (by decide) ?_
                refine lv_iadd hx hb dX2_link_148 ?_
                refine lv_topi (fun v11 ev11 => ?_)
                replace hf := bndE hf ev11
                refine va_put (D := D) (ci := 0) (v := .int v11) (ty := .int) (C := RX0) (T := TX0) (N := 12) hx hb hts hinX0 tyX0 tyX0_ok nmX0 hown hK.1 hP hD hS 11 rfl rfl 5 (by decide) hw1 (fun _ h9 => h9) rfl (by decide +kernel) rfl rfl (Nat.le_of_ble_eq_true rfl) dX2_link_149 (fun H locs hP hD hS => ?_)
                replace hP : va_P D vwCl (wX cI cJ adx adc adn adt gx ++ wCi cI adc ((gc.1, gc.2.1, gc.2.2.1, gc.2.2.2.1, gc.2.2.2.2.1, v11, upd gc.2.2.2.2.2.2.1 gc.2.2.2.2.2.1.toNatClampNeg p1, upd gc.2.2.2.2.2.2.2.1 gc.2.2.2.2.2.1.toNatClampNeg p2, upd gc.2.2.2.2.2.2.2.2.1 gc.2.2.2.2.2.1.toNatClampNeg p3, upd gc.2.2.2.2.2.2.2.2.2.1 gc.2.2.2.2.2.1.toNatClampNeg p4, upd gc.2.2.2.2.2.2.2.2.2.2.1 gc.2.2.2.2.2.1.toNatClampNeg p5, upd gc.2.2.2.2.2.2.2.2.2.2.2 gc.2.2.2.2.2.1.toNatClampNeg p6)) ++ wSw cI cJ cZ adn gn ++ wSw cI cJ cZ adt gt) H := hP
                replace hD : va_D A (wX cI cJ adx adc adn adt gx ++ wCi cI adc ((gc.1, gc.2.1, gc.2.2.1, gc.2.2.2.1, gc.2.2.2.2.1, v11, upd gc.2.2.2.2.2.2.1 gc.2.2.2.2.2.1.toNatClampNeg p1, upd gc.2.2.2.2.2.2.2.1 gc.2.2.2.2.2.1.toNatClampNeg p2, upd gc.2.2.2.2.2.2.2.2.1 gc.2.2.2.2.2.1.toNatClampNeg p3, upd gc.2.2.2.2.2.2.2.2.2.1 gc.2.2.2.2.2.1.toNatClampNeg p4, upd gc.2.2.2.2.2.2.2.2.2.2.1 gc.2.2.2.2.2.1.toNatClampNeg p5, upd gc.2.2.2.2.2.2.2.2.2.2.2 gc.2.2.2.2.2.1.toNatClampNeg p6)) ++ wSw cI cJ cZ adn gn ++ wSw cI cJ cZ adt gt) := hD
                refine lv_aload_n hx hb dX2_link_152 rfl (lv_at hl 1 rfl) ?_
                replace hf := bdE hf
                obtain ⟨r12, hgr12, hf⟩ := hf
                refine xVw (va_runV (As := []) (rest := []) ⟨hx, hb, hml, hown, hts⟩ (c_X2_startAgain l D cI cJ cZ adx adc adn adt gx ((gc.1, gc.2.1, gc.2.2.1, gc.2.2.2.1, gc.2.2.2.2.1, v11, upd gc.2.2.2.2.2.2.1 gc.2.2.2.2.2.1.toNatClampNeg p1, upd gc.2.2.2.2.2.2.2.1 gc.2.2.2.2.2.1.toNatClampNeg p2, upd gc.2.2.2.2.2.2.2.2.1 gc.2.2.2.2.2.1.toNatClampNeg p3, upd gc.2.2.2.2.2.2.2.2.2.1 gc.2.2.2.2.2.1.toNatClampNeg p4, upd gc.2.2.2.2.2.2.2.2.2.2.1 gc.2.2.2.2.2.1.toNatClampNeg p5, upd gc.2.2.2.2.2.2.2.2.2.2.2 gc.2.2.2.2.2.1.toNatClampNeg p6)) gn gt r12 hgr12 _) (cwV 0 hts gX2_link_X2_startAgain rfl rfl rfl (by decide +kernel) ⟨Nat.le_of_ble_eq_true rfl, Nat.le_of_ble_eq_true rfl⟩) ⟨PreW.blind, xRecv (q0 := 0) hK hP rfl rfl, (xPrew hK hP hD _)⟩ rfl rfl hl.1 rfl (lv_room (Nat.le_of_ble_eq_true rfl)) dX2_link_153 ⟨Nat.le_of_ble_eq_true rfl, Nat.le_of_ble_eq_true rfl⟩) hD hS hA (fun H locs hP hD hS => ?_)
                replace hP : va_P D vwCl (wX cI cJ adx adc adn adt ((r12.1, r12.2.1, r12.2.2.1, gx.2.2.2)) ++ wCi cI adc ((gc.1, gc.2.1, gc.2.2.1, gc.2.2.2.1, gc.2.2.2.2.1, v11, upd gc.2.2.2.2.2.2.1 gc.2.2.2.2.2.1.toNatClampNeg p1, upd gc.2.2.2.2.2.2.2.1 gc.2.2.2.2.2.1.toNatClampNeg p2, upd gc.2.2.2.2.2.2.2.2.1 gc.2.2.2.2.2.1.toNatClampNeg p3, upd gc.2.2.2.2.2.2.2.2.2.1 gc.2.2.2.2.2.1.toNatClampNeg p4, upd gc.2.2.2.2.2.2.2.2.2.2.1 gc.2.2.2.2.2.1.toNatClampNeg p5, upd gc.2.2.2.2.2.2.2.2.2.2.2 gc.2.2.2.2.2.1.toNatClampNeg p6)) ++ wSw cI cJ cZ adn ((r12.2.2.2.1, r12.2.2.2.2.1, r12.2.2.2.2.2.1, r12.2.2.2.2.2.2.1, r12.2.2.2.2.2.2.2.1, r12.2.2.2.2.2.2.2.2, gn.2.2.2.2.2.2)) ++ wSw cI cJ cZ adt gt) H := hP
                replace hD : va_D A (wX cI cJ adx adc adn adt ((r12.1, r12.2.1, r12.2.2.1, gx.2.2.2)) ++ wCi cI adc ((gc.1, gc.2.1, gc.2.2.1, gc.2.2.2.1, gc.2.2.2.2.1, v11, upd gc.2.2.2.2.2.2.1 gc.2.2.2.2.2.1.toNatClampNeg p1, upd gc.2.2.2.2.2.2.2.1 gc.2.2.2.2.2.1.toNatClampNeg p2, upd gc.2.2.2.2.2.2.2.2.1 gc.2.2.2.2.2.1.toNatClampNeg p3, upd gc.2.2.2.2.2.2.2.2.2.1 gc.2.2.2.2.2.1.toNatClampNeg p4, upd gc.2.2.2.2.2.2.2.2.2.2.1 gc.2.2.2.2.2.1.toNatClampNeg p5, upd gc.2.2.2.2.2.2.2.2.2.2.2 gc.2.2.2.2.2.1.toNatClampNeg p6)) ++ wSw cI cJ cZ adn ((r12.2.2.2.1, r12.2.2.2.2.1, r12.2.2.2.2.2.1, r12.2.2.2.2.2.2.1, r12.2.2.2.2.2.2.2.1, r12.2.2.2.2.2.2.2.2, gn.2.2.2.2.2.2)) ++ wSw cI cJ cZ adt gt) := hD
                refine lv_iload hx hb dX2_link_156 (lv_at hl 0 rfl) ?_
                obtain rfl := Option.some.inj hf
                exact retI hx hb hr hlocks hP hD hS dX2_link_158
              · replace hf := ifF q9 hf
                refine lv_iconst (v := (-1)) hx hb dX2_link_61 (by decide) ?_
                obtain rfl := Option.some.inj hf
                exact retI hx hb hr hlocks hP hD hS dX2_link_62
          · replace hf := ifF q6 hf
            refine lv_iconst (v := (-1)) hx hb dX2_link_37 (by decide) ?_
            obtain rfl := Option.some.inj hf
            exact retI hx hb hr hlocks hP hD hS dX2_link_38
      refine lv_if_eq (tgt := 26) hx hb dX2_link_18 (by decide) (fun q13 => ?_) (fun q13 => ?_)
      · replace hf := ifT q13 hf
        exact J26  _ _ _ hf hP hD hS (lv_sub hl [0, 1, 2, 3, 4, 5, 6] rfl)
      · replace hf := ifF q13 hf
        refine lv_iload_n hx hb dX2_link_21 rfl (lv_at hl 2 rfl) ?_
        refine lv_iconst (v := 1) hx hb dX2_link_22 (by decide) ?_
        refine lv_icmp_ne (tgt := 37) hx hb dX2_link_23 (by decide) (fun q14 => ?_) (fun q14 => ?_)
        · replace hf := ifT q14 hf
          refine lv_iconst (v := (-1)) hx hb dX2_link_37 (by decide) ?_
          obtain rfl := Option.some.inj hf
          exact retI hx hb hr hlocks hP hD hS dX2_link_38
        · replace hf := ifN q14 hf
          exact J26  _ _ _ hf hP hD hS (lv_sub hl [0, 1, 2, 3, 4, 5, 6] rfl)
