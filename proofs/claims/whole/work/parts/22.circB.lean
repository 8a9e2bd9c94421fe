def f_X2_writeTrail_B7 (gt : Sw) (v1 : Int32) (rec7 : Int32 → Al → Option Al) (l3_7 : Int32) (x4_7 : Al) : Option Al :=
if (4 : Int32) ≤ l3_7 then
(f_X1_packedMarks gt).bind (fun r3 =>
gd (ib (v1 + 4) 1806) (
(f_X1_packedEvent gt).bind (fun r5 =>
gd (ib (v1 + 5) 1806) (
some (vp_updL (vp_updL x4_7 (v1 + 4).toNatClampNeg r3) (v1 + 5).toNatClampNeg r5)))))
else
gd (ib l3_7 4) (
(f_X2_packed (gt.2.2.1 l3_7.toNatClampNeg) (gt.2.2.2.1 l3_7.toNatClampNeg)).bind (fun r8 =>
gd (ib (v1 + l3_7) 1806) (
rec7 (l3_7 + 1) (vp_updL x4_7 (v1 + l3_7).toNatClampNeg r8))))
def f_X2_writeTrail_L7 (gt : Sw) (v1 : Int32) : Nat → Int32 → Al → Option Al
  | 0 => fun _ _ => none
  | n + 1 => f_X2_writeTrail_B7 gt v1 (f_X2_writeTrail_L7 gt v1 n)
def f_X2_writeTrail (gx : Xo) (gt : Sw) (p1 : Int32) : Option Al :=
bnd (p1 * 6) (fun v1 =>
f_X2_writeTrail_L7 gt v1 fuel 0 gx.2.2.2.2.1)
abbrev rmX2_writeTrail : Room := { frames := 2, cells := 0, slots := 0, locals := 43 }
set_option maxHeartbeats 40000000 in
set_option maxRecDepth 100000 in
theorem c_X2_writeTrail (l : Launch) (D : va_G) (cI cJ cZ : ClassId) (adx : Nat → Nat) (adc : Nat → Nat) (adn : Nat → Nat) (adt : Nat → Nat) (gx : Xo) (gc : Ci) (gn : Sw) (gt : Sw) (p1 : Int32) (o : Al) (hf : f_X2_writeTrail gx gt p1 = some o) : CtV l yX2_writeTrail wsX2_writeTrail rmX2_writeTrail D cI cJ cZ [.ref (adx 0), .int p1] (wX cI cJ adx adc adn adt gx ++ wCi cI adc gc ++ wSw cI cJ cZ adn gn ++ wSw cI cJ cZ adt gt) (wX cI cJ adx adc adn adt ((gx.1, gx.2.1, gx.2.2.1, gx.2.2.2.1, o, gx.2.2.2.2.2)) ++ wCi cI adc gc ++ wSw cI cJ cZ adn gn ++ wSw cI cJ cZ adt gt) := by
  intro sz
  refine Met.ofW (cc := cX2_writeTrail) (maxL := 4) (ret := none) (by decide) rfl ?_
  intro p e s m args below meth c s₁ B hml hv
  obtain ⟨rfl, hsz, hP, hK, hD0⟩ := hv
  have hx := B.exec
  have hb := B.bytes
  have hr := B.returns
  have hts := atoms_spec (ws := wsX2_writeTrail) B.pre
  have hown : s.vm.findClass RX2 = some m.cls := findClass_of_methodNamed B.named
  have hlocks := B.notSynchronized
  subst hsz
  have hD := hD0.self (sz := s.heap.size)
  clear hD0
  generalize hAe : va_A (wX cI cJ adx adc adn adt gx ++ wCi cI adc gc ++ wSw cI cJ cZ adn gn ++ wSw cI cJ cZ adt gt) s.heap.size = A at hD ⊢
  have hA : ∀ q : Nat, s.heap.size ≤ q → A q := fun q h => by rw [← hAe]; exact Or.inr h
  have hS : va_S A s.heap s.heap [] := va_S.rf
  have hinX1 : ∀ w ∈ wsX10, w ∈ wsX2_writeTrail := by decide +kernel
  have hinX2 : ∀ w ∈ wsX20, w ∈ wsX2_writeTrail := by decide +kernel
  have hw0 : (Cond.fieldLink RX2 41 "SwingCircuits" "trail" "[J").before _ s = true := hts _ (by decide +kernel)
  have hw1 : (Cond.fieldLink RX2 23 "SwingCircuits" "trial" "LSwingCircuits$Swing;").before _ s = true := hts _ (by decide +kernel)
  have hw2 : (Cond.fieldLink RX2 155 "SwingCircuits$Swing" "num" "[J").before _ s = true := hts _ (by decide +kernel)
  have hw3 : (Cond.fieldLink RX2 158 "SwingCircuits$Swing" "den" "[J").before _ s = true := hts _ (by decide +kernel)
  have hl := lv_entry ([.ref (adx 0), .int p1]) (n := 4) (Nat.le_of_ble_eq_true rfl)
  rw [lg_entry_eq]
  generalize (lg_sl ([.ref (adx 0), .int p1]) ++ List.replicate (4 - (lg_sl ([.ref (adx 0), .int p1])).length) Slot.unset).toArray = ls at hl ⊢
  replace hl : lv_has ls 4 [(0, .ref (adx 0)), (1, .int p1)] := hl
  unfold f_X2_writeTrail at hf
  refine lv_iload_n hx hb dX2_writeTrail_0 rfl (lv_at hl 1 rfl) ?_
  refine lv_bipush (v := 6) hx hb dX2_writeTrail_1 (by decide) ?_
  refine lv_imul hx hb dX2_writeTrail_3 ?_
  refine lv_topi (fun v1 ev1 => ?_)
  replace hf := bndE hf ev1
  refine lv_istore_n (lv' := [(2, .int v1), (0, .ref (adx 0)), (1, .int p1)]) hx hb dX2_writeTrail_4 rfl hl (by decide) rfl (fun ls hl => ?_)
  refine lv_iconst (v := 0) hx hb dX2_writeTrail_5 (by decide) ?_
  refine lv_istore_n (lv' := [(3, .int 0), (2, .int v1), (0, .ref (adx 0)), (1, .int p1)]) hx hb dX2_writeTrail_6 rfl hl (by decide) rfl (fun ls hl => ?_)
  have L7 : ∀ (n : Nat) (l3_7 : Int32) (x4_7 : Al) (H : Heap) (locs : List Loc) (ls : Array Slot), f_X2_writeTrail_L7 gt v1 n l3_7 x4_7 = some o → va_P D vwCl (wX cI cJ adx adc adn adt ((gx.1, gx.2.1, gx.2.2.1, gx.2.2.2.1, x4_7, gx.2.2.2.2.2)) ++ wCi cI adc gc ++ wSw cI cJ cZ adn gn ++ wSw cI cJ cZ adt gt) H → va_D A (wX cI cJ adx adc adn adt ((gx.1, gx.2.1, gx.2.2.1, gx.2.2.2.1, x4_7, gx.2.2.2.2.2)) ++ wCi cI adc gc ++ wSw cI cJ cZ adn gn ++ wSw cI cJ cZ adt gt) → va_S A s.heap H locs → lv_has ls 4 [(0, .ref (adx 0)), (2, .int v1), (3, .int l3_7)] → W p l e (headSpec wsX2_writeTrail rmX2_writeTrail).room s m ([.ref (adx 0), .int p1] : List Value).toArray below meth c H locs 0 0 (MQ below (QV D A (wX cI cJ adx adc adn adt ((gx.1, gx.2.1, gx.2.2.1, gx.2.2.2.1, o, gx.2.2.2.2.2)) ++ wCi cI adc gc ++ wSw cI cJ cZ adn gn ++ wSw cI cJ cZ adt gt)) ([.ref (adx 0), .int p1] : List Value).toArray s 0 0 A) (F0 m 7 ls []) := by
    intro n
    induction n with
    | zero => intro l3_7 x4_7 H locs ls hf; cases hf
    | succ n ih7 =>
      intro l3_7 x4_7 H locs ls hf hP hD hS hl
      replace hf : f_X2_writeTrail_B7 gt v1 (f_X2_writeTrail_L7 gt v1 n) l3_7 x4_7 = some o := hf
      generalize f_X2_writeTrail_L7 gt v1 n = rec7 at ih7 hf
      unfold f_X2_writeTrail_B7 at hf
      refine lv_iload_n hx hb dX2_writeTrail_7 rfl (lv_at hl 2 rfl) ?_
      refine lv_iconst (v := 4) hx hb dX2_writeTrail_8 (by decide) ?_
      refine lv_icmp_ge (tgt := 47) hx hb dX2_writeTrail_9 (by decide) (fun q2 => ?_) (fun q2 => ?_)
      · replace hf := ifT q2 hf
        refine lv_aload_n hx hb dX2_writeTrail_47 rfl (lv_at hl 0 rfl) ?_
        refine va_get (D := D) (ci := 2) (v := .ref (adx 4)) (C := RX2) (T := TX2) (N := 17) hx hb hts hinX2 hown hK.1 hP 0 rfl rfl 7 (by decide) hw0 (fun _ h9 => h9) rfl dX2_writeTrail_48 ?_
        refine lv_iload_n hx hb dX2_writeTrail_51 rfl (lv_at hl 1 rfl) ?_
        refine lv_iconst (v := 4) hx hb dX2_writeTrail_52 (by decide) ?_
        refine lv_iadd hx hb dX2_writeTrail_53 ?_
        refine lv_aload_n hx hb dX2_writeTrail_54 rfl (lv_at hl 0 rfl) ?_
        refine va_get (D := D) (ci := 2) (v := .ref (adt 0)) (C := RX2) (T := TX2) (N := 17) hx hb hts hinX2 hown hK.1 hP 0 rfl rfl 2 (by decide) hw1 (fun _ h9 => h9) rfl dX2_writeTrail_55 ?_
        replace hf := bdE hf
        obtain ⟨r3, hgr3, hf⟩ := hf
        refine xL (w2 := (wX cI cJ adx adc adn adt ((gx.1, gx.2.1, gx.2.2.1, gx.2.2.2.1, x4_7, gx.2.2.2.2.2)) ++ wCi cI adc gc ++ wSw cI cJ cZ adn gn ++ wSw cI cJ cZ adt gt)) (wr := (wX cI cJ adx adc adn adt ((gx.1, gx.2.1, gx.2.2.1, gx.2.2.2.1, x4_7, gx.2.2.2.2.2)) ++ wCi cI adc gc ++ wSw cI cJ cZ adn gn)) (va_runV (As := []) (rest := [.int (v1 + 4), .ref (adx 4)]) ⟨hx, hb, hml, hown, hts⟩ (c_X1_packedMarks l D cI cJ cZ adt gt r3 hgr3 _) (cwV 0 hts gX2_writeTrail_X1_packedMarks rfl rfl rfl (by decide +kernel) ⟨Nat.le_of_ble_eq_true rfl, Nat.le_of_ble_eq_true rfl⟩) ⟨PreW.blind, xRecv (q0 := 27) hK hP rfl rfl, (xPre hK hP hD [27, 28, 29, 30, 31] rfl (by decide) _)⟩ rfl rfl hl.1 rfl (lv_room (Nat.le_of_ble_eq_true rfl)) dX2_writeTrail_58 ⟨Nat.le_of_ble_eq_true rfl, Nat.le_of_ble_eq_true rfl⟩) hP hD hS hA [27, 28, 29, 30, 31] [0, 1, 2, 3, 4, 5, 6, 7, 8, 9, 10, 11, 12, 13, 14, 15, 16, 17, 18, 19, 20, 21, 22, 23, 24, 25, 26] [0, 1, 2, 3, 4, 5, 6, 7, 8, 9, 10, 11, 12, 13, 14, 15, 16, 17, 18, 19, 20, 21, 22, 23, 24, 25, 26, 27, 28, 29, 30, 31] rfl rfl (by decide) (by decide) rfl (by decide) (fun H locs hP hD hS => ?_)
        replace hf := gdE hf
        obtain ⟨h4, hf⟩ := hf
        refine va_last hx hb hK.1 hP hD hS 4 1 rfl rfl (ib_in h4) dX2_writeTrail_61 (fun H locs hP hD hS => ?_)
        replace hP : va_P D vwCl (wX cI cJ adx adc adn adt ((gx.1, gx.2.1, gx.2.2.1, gx.2.2.2.1, vp_updL x4_7 (v1 + 4).toNatClampNeg r3, gx.2.2.2.2.2)) ++ wCi cI adc gc ++ wSw cI cJ cZ adn gn ++ wSw cI cJ cZ adt gt) H := hP
        replace hD : va_D A (wX cI cJ adx adc adn adt ((gx.1, gx.2.1, gx.2.2.1, gx.2.2.2.1, vp_updL x4_7 (v1 + 4).toNatClampNeg r3, gx.2.2.2.2.2)) ++ wCi cI adc gc ++ wSw cI cJ cZ adn gn ++ wSw cI cJ cZ adt gt) := hD
        refine lv_aload_n hx hb dX2_writeTrail_62 rfl (lv_at hl 0 rfl) ?_
        refine va_get (D := D) (ci := 2) (v := .ref (adx 4)) (C := RX2) (T := TX2) (N := 17) hx hb hts hinX2 hown hK.1 hP 0 rfl rfl 7 (by decide) hw0 (fun _ h9 => h9) rfl dX2_writeTrail_63 ?_
        refine lv_iload_n hx hb dX2_writeTrail_66 rfl (lv_at hl 1 rfl) ?_
        refine lv_iconst (v := 5) hx hb dX2_writeTrail_67 (by decide) ?_
        refine lv_iadd hx hb dX2_writeTrail_68 ?_
        refine lv_aload_n hx hb dX2_writeTrail_69 rfl (lv_at hl 0 rfl) ?_
        refine va_get (D := D) (ci := 2) (v := .ref (adt 0)) (C := RX2) (T := TX2) (N := 17) hx hb hts hinX2 hown hK.1 hP 0 rfl rfl 2 (by decide) hw1 (fun _ h9 => h9) rfl dX2_writeTrail_70 ?_
        replace hf := bdE hf
        obtain ⟨r5, hgr5, hf⟩ := hf
        refine xL (w2 := (wX cI cJ adx adc adn adt ((gx.1, gx.2.1, gx.2.2.1, gx.2.2.2.1, vp_updL x4_7 (v1 + 4).toNatClampNeg r3, gx.2.2.2.2.2)) ++ wCi cI adc gc ++ wSw cI cJ cZ adn gn ++ wSw cI cJ cZ adt gt)) (wr := (wX cI cJ adx adc adn adt ((gx.1, gx.2.1, gx.2.2.1, gx.2.2.2.1, vp_updL x4_7 (v1 + 4).toNatClampNeg r3, gx.2.2.2.2.2)) ++ wCi cI adc gc ++ wSw cI cJ cZ adn gn)) (va_runV (As := []) (rest := [.int (v1 + 5), .ref (adx 4)]) ⟨hx, hb, hml, hown, hts⟩ (c_X1_packedEvent l D cI cJ cZ adt gt r5 hgr5 _) (cwV 0 hts gX2_writeTrail_X1_packedEvent rfl rfl rfl (by decide +kernel) ⟨Nat.le_of_ble_eq_true rfl, Nat.le_of_ble_eq_true rfl⟩) ⟨PreW.blind, xRecv (q0 := 27) hK hP rfl rfl, (xPre hK hP hD [27, 28, 29, 30, 31] rfl (by decide) _)⟩ rfl rfl hl.1 rfl (lv_room (Nat.le_of_ble_eq_true rfl)) dX2_writeTrail_73 ⟨Nat.le_of_ble_eq_true rfl, Nat.le_of_ble_eq_true rfl⟩) hP hD hS hA [27, 28, 29, 30, 31] [0, 1, 2, 3, 4, 5, 6, 7, 8, 9, 10, 11, 12, 13, 14, 15, 16, 17, 18, 19, 20, 21, 22, 23, 24, 25, 26] [0, 1, 2, 3, 4, 5, 6, 7, 8, 9, 10, 11, 12, 13, 14, 15, 16, 17, 18, 19, 20, 21, 22, 23, 24, 25, 26, 27, 28, 29, 30, 31] rfl rfl (by decide) (by decide) rfl (by decide) (fun H locs hP hD hS => ?_)
        replace hf := gdE hf
        obtain ⟨h6, hf⟩ := hf
        refine va_last hx hb hK.1 hP hD hS 4 1 rfl rfl (ib_in h6) dX2_writeTrail_76 (fun H locs hP hD hS => ?_)
        replace hP : va_P D vwCl (wX cI cJ adx adc adn adt ((gx.1, gx.2.1, gx.2.2.1, gx.2.2.2.1, vp_updL (vp_updL x4_7 (v1 + 4).toNatClampNeg r3) (v1 + 5).toNatClampNeg r5, gx.2.2.2.2.2)) ++ wCi cI adc gc ++ wSw cI cJ cZ adn gn ++ wSw cI cJ cZ adt gt) H := hP
        replace hD : va_D A (wX cI cJ adx adc adn adt ((gx.1, gx.2.1, gx.2.2.1, gx.2.2.2.1, vp_updL (vp_updL x4_7 (v1 + 4).toNatClampNeg r3) (v1 + 5).toNatClampNeg r5, gx.2.2.2.2.2)) ++ wCi cI adc gc ++ wSw cI cJ cZ adn gn ++ wSw cI cJ cZ adt gt) := hD
        obtain rfl := Option.some.inj hf
        exact retV hx hb hr hlocks hP hD hS dX2_writeTrail_77
      · replace hf := ifF q2 hf
        refine lv_aload_n hx hb dX2_writeTrail_12 rfl (lv_at hl 0 rfl) ?_
        refine va_get (D := D) (ci := 2) (v := .ref (adx 4)) (C := RX2) (T := TX2) (N := 17) hx hb hts hinX2 hown hK.1 hP 0 rfl rfl 7 (by decide) hw0 (fun _ h9 => h9) rfl dX2_writeTrail_13 ?_
        refine lv_iload_n hx hb dX2_writeTrail_16 rfl (lv_at hl 1 rfl) ?_
        refine lv_iload_n hx hb dX2_writeTrail_17 rfl (lv_at hl 2 rfl) ?_
        refine lv_iadd hx hb dX2_writeTrail_18 ?_
        refine lv_aload_n hx hb dX2_writeTrail_19 rfl (lv_at hl 0 rfl) ?_
        refine va_get (D := D) (ci := 2) (v := .ref (adt 0)) (C := RX2) (T := TX2) (N := 17) hx hb hts hinX2 hown hK.1 hP 0 rfl rfl 2 (by decide) hw1 (fun _ h9 => h9) rfl dX2_writeTrail_20 ?_
        refine va_get (D := D) (ci := 1) (v := .ref (adt 1)) (C := RX1) (T := TX1) (N := 10) hx hb hts hinX1 hown hK.1 hP 27 rfl rfl 2 (by decide) hw2 (fun _ h9 => h9) rfl dX2_writeTrail_23 ?_
        refine lv_iload_n hx hb dX2_writeTrail_26 rfl (lv_at hl 2 rfl) ?_
        replace hf := gdE hf
        obtain ⟨h7, hf⟩ := hf
        refine va_lald hx hb hK.1 hP 28 1 rfl rfl (ib_in h7) dX2_writeTrail_27 ?_
        refine lv_aload_n hx hb dX2_writeTrail_28 rfl (lv_at hl 0 rfl) ?_
        refine va_get (D := D) (ci := 2) (v := .ref (adt 0)) (C := RX2) (T := TX2) (N := 17) hx hb hts hinX2 hown hK.1 hP 0 rfl rfl 2 (by decide) hw1 (fun _ h9 => h9) rfl dX2_writeTrail_29 ?_
        refine va_get (D := D) (ci := 1) (v := .ref (adt 2)) (C := RX1) (T := TX1) (N := 10) hx hb hts hinX1 hown hK.1 hP 27 rfl rfl 3 (by decide) hw3 (fun _ h9 => h9) rfl dX2_writeTrail_32 ?_
        refine lv_iload_n hx hb dX2_writeTrail_35 rfl (lv_at hl 2 rfl) ?_
        refine va_lald hx hb hK.1 hP 29 1 rfl rfl (ib_in h7) dX2_writeTrail_36 ?_
        replace hf := bdE hf
        obtain ⟨r8, hgr8, hf⟩ := hf
        refine xL0 (va_runS (As := [.long (gt.2.2.1 l3_7.toNatClampNeg), .long (gt.2.2.2.1 l3_7.toNatClampNeg)]) (rest := [.int (v1 + l3_7), .ref (adx 4)]) ⟨hx, hb, hml, hown, hts⟩ (c_X2_packed l D cI cJ cZ (gt.2.2.1 l3_7.toNatClampNeg) (gt.2.2.2.1 l3_7.toNatClampNeg) r8 hgr8 _) (va_cwS 2 hts gX2_writeTrail_X2_packed rfl rfl rfl (by decide +kernel) ⟨Nat.le_of_ble_eq_true rfl, Nat.le_of_ble_eq_true rfl⟩) ⟨PreW.blind, (xPre0 hK _)⟩ rfl rfl hl.1 rfl (lv_room (Nat.le_of_ble_eq_true rfl)) dX2_writeTrail_37 ⟨Nat.le_of_ble_eq_true rfl, Nat.le_of_ble_eq_true rfl⟩) hP hS hA (fun H locs hP hS => ?_)
        replace hf := gdE hf
        obtain ⟨h9, hf⟩ := hf
        refine va_last hx hb hK.1 hP hD hS 4 1 rfl rfl (ib_in h9) dX2_writeTrail_40 (fun H locs hP hD hS => ?_)
        replace hP : va_P D vwCl (wX cI cJ adx adc adn adt ((gx.1, gx.2.1, gx.2.2.1, gx.2.2.2.1, vp_updL x4_7 (v1 + l3_7).toNatClampNeg r8, gx.2.2.2.2.2)) ++ wCi cI adc gc ++ wSw cI cJ cZ adn gn ++ wSw cI cJ cZ adt gt) H := hP
        replace hD : va_D A (wX cI cJ adx adc adn adt ((gx.1, gx.2.1, gx.2.2.1, gx.2.2.2.1, vp_updL x4_7 (v1 + l3_7).toNatClampNeg r8, gx.2.2.2.2.2)) ++ wCi cI adc gc ++ wSw cI cJ cZ adn gn ++ wSw cI cJ cZ adt gt) := hD
        refine lv_iinc (v := l3_7 + 1) (lv' := [(3, .int (l3_7 + 1)), (0, .ref (adx 0)), (2, .int v1)]) hx hb dX2_writeTrail_41 hl (k := 2) rfl (by rfl) (by decide) rfl (fun ls hl => ?_)
        refine lv_goto (tgt := 7) hx hb dX2_writeTrail_44 (by decide) ?_
        exact ih7 (l3_7 + 1) (vp_updL x4_7 (v1 + l3_7).toNatClampNeg r8) _ _ _ hf hP hD hS (lv_sub hl [1, 2, 0] rfl)
  exact L7 fuel 0 gx.2.2.2.2.1 _ _ _ hf hP hD hS (lv_sub hl [2, 1, 0] rfl)

def f_X2_isSameState_B2 (gx : Xo) (p1 : Int32) (p2 : Int32) (rec2 : Int32 → Option Bool) (l3_2 : Int32) : Option Bool :=
if (4 : Int32) < l3_2 then
some true
else
gd (ib (p1 + l3_2) 1806) (
gd (ib (p2 + l3_2) 1806) (
if (lg_cmp (gx.2.2.2.2.1 (p1 + l3_2).toNatClampNeg) (gx.2.2.2.2.1 (p2 + l3_2).toNatClampNeg)) = 0 then
rec2 (l3_2 + 1)
else
some false))
def f_X2_isSameState_L2 (gx : Xo) (p1 : Int32) (p2 : Int32) : Nat → Int32 → Option Bool
  | 0 => fun _ => none
  | n + 1 => f_X2_isSameState_B2 gx p1 p2 (f_X2_isSameState_L2 gx p1 p2 n)
def f_X2_isSameState (gx : Xo) (p1 : Int32) (p2 : Int32) : Option Bool :=
f_X2_isSameState_L2 gx p1 p2 fuel 0
abbrev rmX2_isSameState : Room := { frames := 0, cells := 0, slots := 0, locals := 0 }
set_option maxHeartbeats 40000000 in
set_option maxRecDepth 100000 in
theorem c_X2_isSameState (l : Launch) (D : va_G) (cI cJ cZ : ClassId) (adx : Nat → Nat) (adc : Nat → Nat) (adn : Nat → Nat) (adt : Nat → Nat) (gx : Xo) (gc : Ci) (gn : Sw) (gt : Sw) (p1 : Int32) (p2 : Int32) (o : Bool) (hf : f_X2_isSameState gx p1 p2 = some o) : CtI l yX2_isSameState wsX2_isSameState rmX2_isSameState D cI cJ cZ [.ref (adx 0), .int p1, .int p2] (wX cI cJ adx adc adn adt gx ++ wCi cI adc gc ++ wSw cI cJ cZ adn gn ++ wSw cI cJ cZ adt gt) (wX cI cJ adx adc adn adt gx ++ wCi cI adc gc ++ wSw cI cJ cZ adn gn ++ wSw cI cJ cZ adt gt) (b2i o) := by
  intro sz
  refine Met.ofW (cc := cX2_isSameState) (maxL := 4) (ret := (some .boolean)) (by decide) rfl ?_
  intro p e s m args below meth c s₁ B hml hv
  obtain ⟨rfl, hsz, hP, hK, hD0⟩ := hv
  have hx := B.exec
  have hb := B.bytes
  have hr := B.returns
  have hts := atoms_spec (ws := wsX2_isSameState) B.pre
  have hown : s.vm.findClass RX2 = some m.cls := findClass_of_methodNamed B.named
  have hlocks := B.notSynchronized
  subst hsz
  have hD := hD0.self (sz := s.heap.size)
  clear hD0
  generalize hAe : va_A (wX cI cJ adx adc adn adt gx ++ wCi cI adc gc ++ wSw cI cJ cZ adn gn ++ wSw cI cJ cZ adt gt) s.heap.size = A at hD ⊢
  have hA : ∀ q : Nat, s.heap.size ≤ q → A q := fun q h => by rw [← hAe]; exact Or.inr h
  have hS : va_S A s.heap s.heap [] := va_S.rf
  have hinX2 : ∀ w ∈ wsX20, w ∈ wsX2_isSameState := by decide +kernel
  have hw0 : (Cond.fieldLink RX2 41 "SwingCircuits" "trail" "[J").before _ s = true := hts _ (by decide +kernel)
  have hl := lv_entry ([.ref (adx 0), .int p1, .int p2]) (n := 4) (Nat.le_of_ble_eq_true rfl)
  rw [lg_entry_eq]
  generalize (lg_sl ([.ref (adx 0), .int p1, .int p2]) ++ List.replicate (4 - (lg_sl ([.ref (adx 0), .int p1, .int p2])).length) Slot.unset).toArray = ls at hl ⊢
  replace hl : lv_has ls 4 [(0, .ref (adx 0)), (1, .int p1), (2, .int p2)] := hl
  unfold f_X2_isSameState at hf
  refine lv_iconst (v := 0) hx hb dX2_isSameState_0 (by decide) ?_
  refine lv_istore_n (lv' := [(3, .int 0), (0, .ref (adx 0)), (1, .int p1), (2, .int p2)]) hx hb dX2_isSameState_1 rfl hl (by decide) rfl (fun ls hl => ?_)
  have L2 : ∀ (n : Nat) (l3_2 : Int32) (H : Heap) (locs : List Loc) (ls : Array Slot), f_X2_isSameState_L2 gx p1 p2 n l3_2 = some o → va_P D vwCl (wX cI cJ adx adc adn adt gx ++ wCi cI adc gc ++ wSw cI cJ cZ adn gn ++ wSw cI cJ cZ adt gt) H → va_D A (wX cI cJ adx adc adn adt gx ++ wCi cI adc gc ++ wSw cI cJ cZ adn gn ++ wSw cI cJ cZ adt gt) → va_S A s.heap H locs → lv_has ls 4 [(0, .ref (adx 0)), (1, .int p1), (2, .int p2), (3, .int l3_2)] → W p l e (headSpec wsX2_isSameState rmX2_isSameState).room s m ([.ref (adx 0), .int p1, .int p2] : List Value).toArray below meth c H locs 0 0 (MQ below (QI D A (b2i o) (wX cI cJ adx adc adn adt gx ++ wCi cI adc gc ++ wSw cI cJ cZ adn gn ++ wSw cI cJ cZ adt gt)) ([.ref (adx 0), .int p1, .int p2] : List Value).toArray s 0 0 A) (F0 m 2 ls []) := by
    intro n
    induction n with
    | zero => intro l3_2 H locs ls hf; cases hf
    | succ n ih2 =>
      intro l3_2 H locs ls hf hP hD hS hl
      replace hf : f_X2_isSameState_B2 gx p1 p2 (f_X2_isSameState_L2 gx p1 p2 n) l3_2 = some o := hf
      generalize f_X2_isSameState_L2 gx p1 p2 n = rec2 at ih2 hf
      unfold f_X2_isSameState_B2 at hf
      refine lv_iload_n hx hb dX2_isSameState_2 rfl (lv_at hl 3 rfl) ?_
      refine lv_iconst (v := 4) hx hb dX2_isSameState_3 (by decide) ?_
      refine lv_icmp_gt (tgt := 35) hx hb dX2_isSameState_4 (by decide) (fun q1 => ?_) (fun q1 => ?_)
      · replace hf := ifT q1 hf
        refine lv_iconst (v := 1) hx hb dX2_isSameState_35 (by decide) ?_
        obtain rfl := Option.some.inj hf
        exact retZ true rfl hx hb hr hlocks hP hD hS dX2_isSameState_36
      · replace hf := ifF q1 hf
        refine lv_aload_n hx hb dX2_isSameState_7 rfl (lv_at hl 0 rfl) ?_
        refine va_get (D := D) (ci := 2) (v := .ref (adx 4)) (C := RX2) (T := TX2) (N := 17) hx hb hts hinX2 hown hK.1 hP 0 rfl rfl 7 (by decide) hw0 (fun _ h9 => h9) rfl dX2_isSameState_8 ?_
        refine lv_iload_n hx hb dX2_isSameState_11 rfl (lv_at hl 1 rfl) ?_
        refine lv_iload_n hx hb dX2_isSameState_12 rfl (lv_at hl 3 rfl) ?_
        refine lv_iadd hx hb dX2_isSameState_13 ?_
        replace hf := gdE hf
        obtain ⟨h2, hf⟩ := hf
        refine va_lald hx hb hK.1 hP 4 1 rfl rfl (ib_in h2) dX2_isSameState_14 ?_
        refine lv_aload_n hx hb dX2_isSameState_15 rfl (lv_at hl 0 rfl) ?_
        refine va_get (D := D) (ci := 2) (v := .ref (adx 4)) (C := RX2) (T := TX2) (N := 17) hx hb hts hinX2 hown hK.1 hP 0 rfl rfl 7 (by decide) hw0 (fun _ h9 => h9) rfl dX2_isSameState_16 ?_
        refine lv_iload_n hx hb dX2_isSameState_19 rfl (lv_at hl 2 rfl) ?_
        refine lv_iload_n hx hb dX2_isSameState_20 rfl (lv_at hl 3 rfl) ?_
        refine lv_iadd hx hb dX2_isSameState_21 ?_
        replace hf := gdE hf
        obtain ⟨h3, hf⟩ := hf
        refine va_lald hx hb hK.1 hP 4 1 rfl rfl (ib_in h3) dX2_isSameState_22 ?_
        refine W.lcmp hx hb dX2_isSameState_23 ?_
        refine lv_if_eq (tgt := 29) hx hb dX2_isSameState_24 (by decide) (fun q4 => ?_) (fun q4 => ?_)
        · replace hf := ifT q4 hf
          refine lv_iinc (v := l3_2 + 1) (lv' := [(3, .int (l3_2 + 1)), (0, .ref (adx 0)), (1, .int p1), (2, .int p2)]) hx hb dX2_isSameState_29 hl (k := 3) rfl (by rfl) (by decide) rfl (fun ls hl => ?_)
          refine lv_goto (tgt := 2) hx hb dX2_isSameState_32 (by decide) ?_
          exact ih2 (l3_2 + 1) _ _ _ hf hP hD hS (lv_sub hl [1, 2, 3, 0] rfl)
        · replace hf := ifF q4 hf
          refine lv_iconst (v := 0) hx hb dX2_isSameState_27 (by decide) ?_
          obtain rfl := Option.some.inj hf
          exact retZ false rfl hx hb hr hlocks hP hD hS dX2_isSameState_28
  exact L2 fuel 0 _ _ _ hf hP hD hS (lv_sub hl [1, 2, 3, 0] rfl)

def f_X2_sameAhead_B2 (gx : Xo) (p1 : Int32) (rec2 : Int32 → Option Int32) (l2_2 : Int32) : Option Int32 :=
if p1 ≤ l2_2 then
some ((-1))
else
(f_X2_isSameState gx (l2_2 * 6) (p1 * 6)).bind (fun r2 =>
if (b2i r2) = 0 then
rec2 (l2_2 + 1)
else
some l2_2)
def f_X2_sameAhead_L2 (gx : Xo) (p1 : Int32) : Nat → Int32 → Option Int32
  | 0 => fun _ => none
  | n + 1 => f_X2_sameAhead_B2 gx p1 (f_X2_sameAhead_L2 gx p1 n)
def f_X2_sameAhead (gx : Xo) (p1 : Int32) : Option Int32 :=
f_X2_sameAhead_L2 gx p1 fuel 0
abbrev rmX2_sameAhead : Room := { frames := 1, cells := 0, slots := 0, locals := 23 }
set_option maxHeartbeats 40000000 in
set_option maxRecDepth 100000 in
theorem c_X2_sameAhead (l : Launch) (D : va_G) (cI cJ cZ : ClassId) (adx : Nat → Nat) (adc : Nat → Nat) (adn : Nat → Nat) (adt : Nat → Nat) (gx : Xo) (gc : Ci) (gn : Sw) (gt : Sw) (p1 : Int32) (o : Int32) (hf : f_X2_sameAhead gx p1 = some o) : CtI l yX2_sameAhead wsX2_sameAhead rmX2_sameAhead D cI cJ cZ [.ref (adx 0), .int p1] (wX cI cJ adx adc adn adt gx ++ wCi cI adc gc ++ wSw cI cJ cZ adn gn ++ wSw cI cJ cZ adt gt) (wX cI cJ adx adc adn adt gx ++ wCi cI adc gc ++ wSw cI cJ cZ adn gn ++ wSw cI cJ cZ adt gt) o := by
  intro sz
  refine Met.ofW (cc := cX2_sameAhead) (maxL := 3) (ret := (some .int)) (by decide) rfl ?_
  intro p e s m args below meth c s₁ B hml hv
  obtain ⟨rfl, hsz, hP, hK, hD0⟩ := hv
  have hx := B.exec
  have hb := B.bytes
  have hr := B.returns
  have hts := atoms_spec (ws := wsX2_sameAhead) B.pre
  have hown : s.vm.findClass RX2 = some m.cls := findClass_of_methodNamed B.named
  have hlocks := B.notSynchronized
  subst hsz
  have hD := hD0.self (sz := s.heap.size)
  clear hD0
  generalize hAe : va_A (wX cI cJ adx adc adn adt gx ++ wCi cI adc gc ++ wSw cI cJ cZ adn gn ++ wSw cI cJ cZ adt gt) s.heap.size = A at hD ⊢
  have hA : ∀ q : Nat, s.heap.size ≤ q → A q := fun q h => by rw [← hAe]; exact Or.inr h
  have hS : va_S A s.heap s.heap [] := va_S.rf
  have hl := lv_entry ([.ref (adx 0), .int p1]) (n := 3) (Nat.le_of_ble_eq_true rfl)
  rw [lg_entry_eq]
  generalize (lg_sl ([.ref (adx 0), .int p1]) ++ List.replicate (3 - (lg_sl ([.ref (adx 0), .int p1])).length) Slot.unset).toArray = ls at hl ⊢
  replace hl : lv_has ls 3 [(0, .ref (adx 0)), (1, .int p1)] := hl
  unfold f_X2_sameAhead at hf
  refine lv_iconst (v := 0) hx hb dX2_sameAhead_0 (by decide) ?_
  refine lv_istore_n (lv' := [(2, .int 0), (0, .ref (adx 0)), (1, .int p1)]) hx hb dX2_sameAhead_1 rfl hl (by decide) rfl (fun ls hl => ?_)
  have L2 : ∀ (n : Nat) (l2_2 : Int32) (H : Heap) (locs : List Loc) (ls : Array Slot), f_X2_sameAhead_L2 gx p1 n l2_2 = some o → va_P D vwCl (wX cI cJ adx adc adn adt gx ++ wCi cI adc gc ++ wSw cI cJ cZ adn gn ++ wSw cI cJ cZ adt gt) H → va_D A (wX cI cJ adx adc adn adt gx ++ wCi cI adc gc ++ wSw cI cJ cZ adn gn ++ wSw cI cJ cZ adt gt) → va_S A s.heap H locs → lv_has ls 3 [(0, .ref (adx 0)), (1, .int p1), (2, .int l2_2)] → W p l e (headSpec wsX2_sameAhead rmX2_sameAhead).room s m ([.ref (adx 0), .int p1] : List Value).toArray below meth c H locs 0 0 (MQ below (QI D A o (wX cI cJ adx adc adn adt gx ++ wCi cI adc gc ++ wSw cI cJ cZ adn gn ++ wSw cI cJ cZ adt gt)) ([.ref (adx 0), .int p1] : List Value).toArray s 0 0 A) (F0 m 2 ls []) := by
    intro n
    induction n with
    | zero => intro l2_2 H locs ls hf; cases hf
    | succ n ih2 =>
      intro l2_2 H locs ls hf hP hD hS hl
      replace hf : f_X2_sameAhead_B2 gx p1 (f_X2_sameAhead_L2 gx p1 n) l2_2 = some o := hf
      generalize f_X2_sameAhead_L2 gx p1 n = rec2 at ih2 hf
      unfold f_X2_sameAhead_B2 at hf
      refine lv_iload_n hx hb dX2_sameAhead_2 rfl (lv_at hl 2 rfl) ?_
      refine lv_iload_n hx hb dX2_sameAhead_3 rfl (lv_at hl 1 rfl) ?_
      refine lv_icmp_ge (tgt := 30) hx hb dX2_sameAhead_4 (by decide) (fun q1 => ?_) (fun q1 => ?_)
      · replace hf := ifT q1 hf
        refine lv_iconst (v := (-1)) hx hb dX2_sameAhead_30 (by decide) ?_
        obtain rfl := Option.some.inj hf
        exact retI hx hb hr hlocks hP hD hS dX2_sameAhead_31
      · replace hf := ifF q1 hf
        refine lv_aload_n hx hb dX2_sameAhead_7 rfl (lv_at hl 0 rfl) ?_
        refine lv_iload_n hx hb dX2_sameAhead_8 rfl (lv_at hl 2 rfl) ?_
        refine lv_bipush (v := 6) hx hb dX2_sameAhead_9 (by decide) ?_
        refine lv_imul hx hb dX2_sameAhead_11 ?_
        refine lv_iload_n hx hb dX2_sameAhead_12 rfl (lv_at hl 1 rfl) ?_
        refine lv_bipush (v := 6) hx hb dX2_sameAhead_13 (by decide) ?_
        refine lv_imul hx hb dX2_sameAhead_15 ?_
        replace hf := bdE hf
        obtain ⟨r2, hgr2, hf⟩ := hf
        refine xIw (va_runV (As := [.int (l2_2 * 6), .int (p1 * 6)]) (rest := []) ⟨hx, hb, hml, hown, hts⟩ (c_X2_isSameState l D cI cJ cZ adx adc adn adt gx gc gn gt (l2_2 * 6) (p1 * 6) r2 hgr2 _) (cwV 2 hts gX2_sameAhead_X2_isSameState rfl rfl rfl (by decide +kernel) ⟨Nat.le_of_ble_eq_true rfl, Nat.le_of_ble_eq_true rfl⟩) ⟨PreW.blind, xRecv (q0 := 0) hK hP rfl rfl, (xPrew hK hP hD _)⟩ rfl rfl hl.1 rfl (lv_room (Nat.le_of_ble_eq_true rfl)) dX2_sameAhead_16 ⟨Nat.le_of_ble_eq_true rfl, Nat.le_of_ble_eq_true rfl⟩) hD hS hA (fun H locs hP hD hS => ?_)
        replace hP : va_P D vwCl (wX cI cJ adx adc adn adt gx ++ wCi cI adc gc ++ wSw cI cJ cZ adn gn ++ wSw cI cJ cZ adt gt) H := hP
        replace hD : va_D A (wX cI cJ adx adc adn adt gx ++ wCi cI adc gc ++ wSw cI cJ cZ adn gn ++ wSw cI cJ cZ adt gt) := hD
        refine lv_if_eq (tgt := 24) hx hb dX2_sameAhead_19 (by decide) (fun q3 => ?_) (fun q3 => ?_)
        · replace hf := ifT q3 hf
          refine lv_iinc (v := l2_2 + 1) (lv' := [(2, .int (l2_2 + 1)), (0, .ref (adx 0)), (1, .int p1)]) hx hb dX2_sameAhead_24 hl (k := 2) rfl (by rfl) (by decide) rfl (fun ls hl => ?_)
          refine lv_goto (tgt := 2) hx hb dX2_sameAhead_27 (by decide) ?_
          exact ih2 (l2_2 + 1) _ _ _ hf hP hD hS (lv_sub hl [1, 2, 0] rfl)
        · replace hf := ifF q3 hf
          refine lv_iload_n hx hb dX2_sameAhead_22 rfl (lv_at hl 2 rfl) ?_
          obtain rfl := Option.some.inj hf
          exact retI hx hb hr hlocks hP hD hS dX2_sameAhead_23
  exact L2 fuel 0 _ _ _ hf hP hD hS (lv_sub hl [1, 2, 0] rfl)

def f_X2_eventInRow (gx : Xo) (p1 : Int32) : Option Int64 :=
gd (ib ((p1 * 6) + 5) 1806) (
some (gx.2.2.2.2.1 ((p1 * 6) + 5).toNatClampNeg))
abbrev rmX2_eventInRow : Room := { frames := 0, cells := 0, slots := 0, locals := 0 }
set_option maxHeartbeats 40000000 in
set_option maxRecDepth 100000 in
theorem c_X2_eventInRow (l : Launch) (D : va_G) (cI cJ cZ : ClassId) (adx : Nat → Nat) (adc : Nat → Nat) (adn : Nat → Nat) (adt : Nat → Nat) (gx : Xo) (gc : Ci) (gn : Sw) (gt : Sw) (p1 : Int32) (o : Int64) (hf : f_X2_eventInRow gx p1 = some o) : CtL l yX2_eventInRow wsX2_eventInRow rmX2_eventInRow D cI cJ cZ [.ref (adx 0), .int p1] (wX cI cJ adx adc adn adt gx ++ wCi cI adc gc ++ wSw cI cJ cZ adn gn ++ wSw cI cJ cZ adt gt) (wX cI cJ adx adc adn adt gx ++ wCi cI adc gc ++ wSw cI cJ cZ adn gn ++ wSw cI cJ cZ adt gt) o := by
  intro sz
  refine Met.ofW (cc := cX2_eventInRow) (maxL := 2) (ret := (some .long)) (by decide) rfl ?_
  intro p e s m args below meth c s₁ B hml hv
  obtain ⟨rfl, hsz, hP, hK, hD0⟩ := hv
  have hx := B.exec
  have hb := B.bytes
  have hr := B.returns
  have hts := atoms_spec (ws := wsX2_eventInRow) B.pre
  have hown : s.vm.findClass RX2 = some m.cls := findClass_of_methodNamed B.named
  have hlocks := B.notSynchronized
  subst hsz
  have hD := hD0.self (sz := s.heap.size)
  clear hD0
  generalize hAe : va_A (wX cI cJ adx adc adn adt gx ++ wCi cI adc gc ++ wSw cI cJ cZ adn gn ++ wSw cI cJ cZ adt gt) s.heap.size = A at hD ⊢
  have hA : ∀ q : Nat, s.heap.size ≤ q → A q := fun q h => by rw [← hAe]; exact Or.inr h
  have hS : va_S A s.heap s.heap [] := va_S.rf
  have hinX2 : ∀ w ∈ wsX20, w ∈ wsX2_eventInRow := by decide +kernel
  have hw0 : (Cond.fieldLink RX2 41 "SwingCircuits" "trail" "[J").before _ s = true := hts _ (by decide +kernel)
  have hl := lv_entry ([.ref (adx 0), .int p1]) (n := 2) (Nat.le_of_ble_eq_true rfl)
  rw [lg_entry_eq]
  generalize (lg_sl ([.ref (adx 0), .int p1]) ++ List.replicate (2 - (lg_sl ([.ref (adx 0), .int p1])).length) Slot.unset).toArray = ls at hl ⊢
  replace hl : lv_has ls 2 [(0, .ref (adx 0)), (1, .int p1)] := hl
  unfold f_X2_eventInRow at hf
  refine lv_aload_n hx hb dX2_eventInRow_0 rfl (lv_at hl 0 rfl) ?_
  refine va_get (D := D) (ci := 2) (v := .ref (adx 4)) (C := RX2) (T := TX2) (N := 17) hx hb hts hinX2 hown hK.1 hP 0 rfl rfl 7 (by decide) hw0 (fun _ h9 => h9) rfl dX2_eventInRow_1 ?_
  refine lv_iload_n hx hb dX2_eventInRow_4 rfl (lv_at hl 1 rfl) ?_
  refine lv_bipush (v := 6) hx hb dX2_eventInRow_5 (by decide) ?_
  refine lv_imul hx hb dX2_eventInRow_7 ?_
  refine lv_iconst (v := 5) hx hb dX2_eventInRow_8 (by decide) ?_
  refine lv_iadd hx hb dX2_eventInRow_9 ?_
  replace hf := gdE hf
  obtain ⟨h1, hf⟩ := hf
  refine va_lald hx hb hK.1 hP 4 1 rfl rfl (ib_in h1) dX2_eventInRow_10 ?_
  obtain rfl := Option.some.inj hf
  exact retL hx hb hr hlocks hP hD hS dX2_eventInRow_11

def f_X2_keepRing_J144 (l9_106 : Int32) (rec106 : (Int32 → Al → Option (Al × Int32))) (x5_144 : Al) : Option (Al × Int32) :=
rec106 (l9_106 + 1) x5_144
def f_X2_keepRing_B106 (gx : Xo) (p2 : Int32) (rec106 : Int32 → Al → Option (Al × Int32)) (l9_106 : Int32) (x5_106 : Al) : Option (Al × Int32) :=
if p2 < l9_106 then
some (x5_106, 1)
else
(f_X2_eventInRow ((gx.1, gx.2.1, gx.2.2.1, gx.2.2.2.1, gx.2.2.2.2.1, x5_106, gx.2.2.2.2.2.2)) l9_106).bind (fun r19 =>
(f_X2_sideIn r19).bind (fun r20 =>
if ¬ r20 = 0 then
f_X2_keepRing_J144 l9_106 rec106 x5_106
else
(f_X2_eventInRow ((gx.1, gx.2.1, gx.2.2.1, gx.2.2.2.1, gx.2.2.2.2.1, x5_106, gx.2.2.2.2.2.2)) l9_106).bind (fun r22 =>
(f_X2_turnedIn r22).bind (fun r23 =>
gd (ib (4 + r23) 8) (
bnd ((x5_106 (4 + r23).toNatClampNeg) + 1) (fun v25 =>
f_X2_keepRing_J144 l9_106 rec106 (vp_updL x5_106 (4 + r23).toNatClampNeg v25)))))))
def f_X2_keepRing_L106 (gx : Xo) (p2 : Int32) : Nat → Int32 → Al → Option (Al × Int32)
  | 0 => fun _ _ => none
  | n + 1 => f_X2_keepRing_B106 gx p2 (f_X2_keepRing_L106 gx p2 n)
def f_X2_keepRing_B79 (gx : Xo) (p1 : Int32) (p2 : Int32) (rec79 : Int32 → Al → Option (Al × Int32)) (l9_79 : Int32) (x5_79 : Al) : Option (Al × Int32) :=
if (4 : Int32) ≤ l9_79 then
bnd (p1 + 1) (fun v17 =>
f_X2_keepRing_L106 gx p2 fuel v17 x5_79)
else
gd (ib (4 + l9_79) 8) (
rec79 (l9_79 + 1) (vp_updL x5_79 (4 + l9_79).toNatClampNeg 0))
def f_X2_keepRing_L79 (gx : Xo) (p1 : Int32) (p2 : Int32) : Nat → Int32 → Al → Option (Al × Int32)
  | 0 => fun _ _ => none
  | n + 1 => f_X2_keepRing_B79 gx p1 p2 (f_X2_keepRing_L79 gx p1 p2 n)
def f_X2_keepRing (gx : Xo) (p1 : Int32) (p2 : Int32) : Option (Al × Int32) :=
(f_X2_eventInRow gx p1).bind (fun r1 =>
(f_X2_eventInRow gx p2).bind (fun r2 =>
(f_X2_betweenNum r1 r2).bind (fun r3 =>
(f_X2_eventInRow gx p1).bind (fun r4 =>
(f_X2_eventInRow gx p2).bind (fun r5 =>
(f_X2_betweenDen r4 r5).bind (fun r6 =>
(f_X2_commonOf r3 r6).bind (fun r7 =>
gd (ib 0 8) (
bnd ((p2 - p1).toInt64) (fun v9 =>
gd (ib 1 8) (
gd (nzL r7) (
bnd (r3 / r7) (fun v12 =>
gd (ib 2 8) (
bnd (r6 / r7) (fun v14 =>
gd (ib 3 8) (
f_X2_keepRing_L79 gx p1 p2 fuel 0 (vp_updL (vp_updL (vp_updL (vp_updL gx.2.2.2.2.2.1 (0 : Int32).toNatClampNeg p1.toInt64) (1 : Int32).toNatClampNeg v9) (2 : Int32).toNatClampNeg v12) (3 : Int32).toNatClampNeg v14))))))))))))))))
abbrev rmX2_keepRing : Room := { frames := 2, cells := 0, slots := 0, locals := 44 }
set_option maxHeartbeats 40000000 in
set_option maxRecDepth 100000 in
theorem c_X2_keepRing (l : Launch) (D : va_G) (cI cJ cZ : ClassId) (adx : Nat → Nat) (adc : Nat → Nat) (adn : Nat → Nat) (adt : Nat → Nat) (gx : Xo) (gc : Ci) (gn : Sw) (gt : Sw) (p1 : Int32) (p2 : Int32) (o : (Al × Int32)) (hf : f_X2_keepRing gx p1 p2 = some o) : CtV l yX2_keepRing wsX2_keepRing rmX2_keepRing D cI cJ cZ [.ref (adx 0), .int p1, .int p2] (wX cI cJ adx adc adn adt gx ++ wCi cI adc gc ++ wSw cI cJ cZ adn gn ++ wSw cI cJ cZ adt gt) (wX cI cJ adx adc adn adt ((gx.1, gx.2.1, gx.2.2.1, gx.2.2.2.1, gx.2.2.2.2.1, o.1, o.2, gx.2.2.2.2.2.2.2)) ++ wCi cI adc gc ++ wSw cI cJ cZ adn gn ++ wSw cI cJ cZ adt gt) := by
  intro sz
  refine Met.ofW (cc := cX2_keepRing) (maxL := 10) (ret := none) (by decide) rfl ?_
  intro p e s m args below meth c s₁ B hml hv
  obtain ⟨rfl, hsz, hP, hK, hD0⟩ := hv
  have hx := B.exec
  have hb := B.bytes
  have hr := B.returns
  have hts := atoms_spec (ws := wsX2_keepRing) B.pre
  have hown : s.vm.findClass RX2 = some m.cls := findClass_of_methodNamed B.named
  have hlocks := B.notSynchronized
  subst hsz
  have hD := hD0.self (sz := s.heap.size)
  clear hD0
  generalize hAe : va_A (wX cI cJ adx adc adn adt gx ++ wCi cI adc gc ++ wSw cI cJ cZ adn gn ++ wSw cI cJ cZ adt gt) s.heap.size = A at hD ⊢
  have hA : ∀ q : Nat, s.heap.size ≤ q → A q := fun q h => by rw [← hAe]; exact Or.inr h
  have hS : va_S A s.heap s.heap [] := va_S.rf
  have hinX2 : ∀ w ∈ wsX20, w ∈ wsX2_keepRing := by decide +kernel
  have hw0 : (Cond.fieldLink RX2 44 "SwingCircuits" "ringAnswers" "[J").before _ s = true := hts _ (by decide +kernel)
  have hw1 : (Cond.fieldLink RX2 47 "SwingCircuits" "ringFound" "Z").before _ s = true := hts _ (by decide +kernel)
  have hl := lv_entry ([.ref (adx 0), .int p1, .int p2]) (n := 10) (Nat.le_of_ble_eq_true rfl)
  rw [lg_entry_eq]
  generalize (lg_sl ([.ref (adx 0), .int p1, .int p2]) ++ List.replicate (10 - (lg_sl ([.ref (adx 0), .int p1, .int p2])).length) Slot.unset).toArray = ls at hl ⊢
  replace hl : lv_has ls 10 [(0, .ref (adx 0)), (1, .int p1), (2, .int p2)] := hl
  unfold f_X2_keepRing at hf
  refine lv_aload_n hx hb dX2_keepRing_0 rfl (lv_at hl 0 rfl) ?_
  refine lv_iload_n hx hb dX2_keepRing_1 rfl (lv_at hl 1 rfl) ?_
  replace hf := bdE hf
  obtain ⟨r1, hgr1, hf⟩ := hf
  refine xLw (va_runV (As := [.int p1]) (rest := []) ⟨hx, hb, hml, hown, hts⟩ (c_X2_eventInRow l D cI cJ cZ adx adc adn adt gx gc gn gt p1 r1 hgr1 _) (cwV 1 hts gX2_keepRing_X2_eventInRow rfl rfl rfl (by decide +kernel) ⟨Nat.le_of_ble_eq_true rfl, Nat.le_of_ble_eq_true rfl⟩) ⟨PreW.blind, xRecv (q0 := 0) hK hP rfl rfl, (xPrew hK hP hD _)⟩ rfl rfl hl.1 rfl (lv_room (Nat.le_of_ble_eq_true rfl)) dX2_keepRing_2 ⟨Nat.le_of_ble_eq_true rfl, Nat.le_of_ble_eq_true rfl⟩) hD hS hA (fun H locs hP hD hS => ?_)
  replace hP : va_P D vwCl (wX cI cJ adx adc adn adt gx ++ wCi cI adc gc ++ wSw cI cJ cZ adn gn ++ wSw cI cJ cZ adt gt) H := hP
  replace hD : va_D A (wX cI cJ adx adc adn adt gx ++ wCi cI adc gc ++ wSw cI cJ cZ adn gn ++ wSw cI cJ cZ adt gt) := hD
  refine lv_aload_n hx hb dX2_keepRing_5 rfl (lv_at hl 0 rfl) ?_
  refine lv_iload_n hx hb dX2_keepRing_6 rfl (lv_at hl 2 rfl) ?_
  replace hf := bdE hf
  obtain ⟨r2, hgr2, hf⟩ := hf
  refine xLw (va_runV (As := [.int p2]) (rest := [.long r1]) ⟨hx, hb, hml, hown, hts⟩ (c_X2_eventInRow l D cI cJ cZ adx adc adn adt gx gc gn gt p2 r2 hgr2 _) (cwV 1 hts gX2_keepRing_X2_eventInRow rfl rfl rfl (by decide +kernel) ⟨Nat.le_of_ble_eq_true rfl, Nat.le_of_ble_eq_true rfl⟩) ⟨PreW.blind, xRecv (q0 := 0) hK hP rfl rfl, (xPrew hK hP hD _)⟩ rfl rfl hl.1 rfl (lv_room (Nat.le_of_ble_eq_true rfl)) dX2_keepRing_7 ⟨Nat.le_of_ble_eq_true rfl, Nat.le_of_ble_eq_true rfl⟩) hD hS hA (fun H locs hP hD hS => ?_)
  replace hP : va_P D vwCl (wX cI cJ adx adc adn adt gx ++ wCi cI adc gc ++ wSw cI cJ cZ adn gn ++ wSw cI cJ cZ adt gt) H := hP
  replace hD : va_D A (wX cI cJ adx adc adn adt gx ++ wCi cI adc gc ++ wSw cI cJ cZ adn gn ++ wSw cI cJ cZ adt gt) := hD
  replace hf := bdE hf
  obtain ⟨r3, hgr3, hf⟩ := hf
  refine xL0 (va_runS (As := [.long r1, .long r2]) (rest := []) ⟨hx, hb, hml, hown, hts⟩ (c_X2_betweenNum l D cI cJ cZ r1 r2 r3 hgr3 _) (va_cwS 2 hts gX2_keepRing_X2_betweenNum rfl rfl rfl (by decide +kernel) ⟨Nat.le_of_ble_eq_true rfl, Nat.le_of_ble_eq_true rfl⟩) ⟨PreW.blind, (xPre0 hK _)⟩ rfl rfl hl.1 rfl (lv_room (Nat.le_of_ble_eq_true rfl)) dX2_keepRing_10 ⟨Nat.le_of_ble_eq_true rfl, Nat.le_of_ble_eq_true rfl⟩) hP hS hA (fun H locs hP hS => ?_)
  refine lv_lstore_n (lv' := [(3, .long r3), (0, .ref (adx 0)), (1, .int p1), (2, .int p2)]) hx hb dX2_keepRing_13 rfl hl (by decide) rfl (fun ls hl => ?_)
  refine lv_aload_n hx hb dX2_keepRing_14 rfl (lv_at hl 1 rfl) ?_
  refine lv_iload_n hx hb dX2_keepRing_15 rfl (lv_at hl 2 rfl) ?_
  replace hf := bdE hf
  obtain ⟨r4, hgr4, hf⟩ := hf
  refine xLw (va_runV (As := [.int p1]) (rest := []) ⟨hx, hb, hml, hown, hts⟩ (c_X2_eventInRow l D cI cJ cZ adx adc adn adt gx gc gn gt p1 r4 hgr4 _) (cwV 1 hts gX2_keepRing_X2_eventInRow rfl rfl rfl (by decide +kernel) ⟨Nat.le_of_ble_eq_true rfl, Nat.le_of_ble_eq_true rfl⟩) ⟨PreW.blind, xRecv (q0 := 0) hK hP rfl rfl, (xPrew hK hP hD _)⟩ rfl rfl hl.1 rfl (lv_room (Nat.le_of_ble_eq_true rfl)) dX2_keepRing_16 ⟨Nat.le_of_ble_eq_true rfl, Nat.le_of_ble_eq_true rfl⟩) hD hS hA (fun H locs hP hD hS => ?_)
  replace hP : va_P D vwCl (wX cI cJ adx adc adn adt gx ++ wCi cI adc gc ++ wSw cI cJ cZ adn gn ++ wSw cI cJ cZ adt gt) H := hP
  replace hD : va_D A (wX cI cJ adx adc adn adt gx ++ wCi cI adc gc ++ wSw cI cJ cZ adn gn ++ wSw cI cJ cZ adt gt) := hD
  refine lv_aload_n hx hb dX2_keepRing_19 rfl (lv_at hl 1 rfl) ?_
  refine lv_iload_n hx hb dX2_keepRing_20 rfl (lv_at hl 3 rfl) ?_
  replace hf := bdE hf
  obtain ⟨r5, hgr5, hf⟩ := hf
  refine xLw (va_runV (As := [.int p2]) (rest := [.long r4]) ⟨hx, hb, hml, hown, hts⟩ (c_X2_eventInRow l D cI cJ cZ adx adc adn adt gx gc gn gt p2 r5 hgr5 _) (cwV 1 hts gX2_keepRing_X2_eventInRow rfl rfl rfl (by decide +kernel) ⟨Nat.le_of_ble_eq_true rfl, Nat.le_of_ble_eq_true rfl⟩) ⟨PreW.blind, xRecv (q0 := 0) hK hP rfl rfl, (xPrew hK hP hD _)⟩ rfl rfl hl.1 rfl (lv_room (Nat.le_of_ble_eq_true rfl)) dX2_keepRing_21 ⟨Nat.le_of_ble_eq_true rfl, Nat.le_of_ble_eq_true rfl⟩) hD hS hA (fun H locs hP hD hS => ?_)
  replace hP : va_P D vwCl (wX cI cJ adx adc adn adt gx ++ wCi cI adc gc ++ wSw cI cJ cZ adn gn ++ wSw cI cJ cZ adt gt) H := hP
  replace hD : va_D A (wX cI cJ adx adc adn adt gx ++ wCi cI adc gc ++ wSw cI cJ cZ adn gn ++ wSw cI cJ cZ adt gt) := hD
  replace hf := bdE hf
  obtain ⟨r6, hgr6, hf⟩ := hf
  refine xL0 (va_runS (As := [.long r4, .long r5]) (rest := []) ⟨hx, hb, hml, hown, hts⟩ (c_X2_betweenDen l D cI cJ cZ r4 r5 r6 hgr6 _) (va_cwS 2 hts gX2_keepRing_X2_betweenDen rfl rfl rfl (by decide +kernel) ⟨Nat.le_of_ble_eq_true rfl, Nat.le_of_ble_eq_true rfl⟩) ⟨PreW.blind, (xPre0 hK _)⟩ rfl rfl hl.1 rfl (lv_room (Nat.le_of_ble_eq_true rfl)) dX2_keepRing_24 ⟨Nat.le_of_ble_eq_true rfl, Nat.le_of_ble_eq_true rfl⟩) hP hS hA (fun H locs hP hS => ?_)
  refine lv_lstore (lv' := [(5, .long r6), (3, .long r3), (0, .ref (adx 0)), (1, .int p1), (2, .int p2)]) hx hb dX2_keepRing_27 hl (by decide) rfl (fun ls hl => ?_)
  refine lv_lload_n hx hb dX2_keepRing_29 rfl (lv_at hl 1 rfl) ?_
  refine lv_lload hx hb dX2_keepRing_30 (lv_at hl 0 rfl) ?_
  replace hf := bdE hf
  obtain ⟨r7, hgr7, hf⟩ := hf
  refine xL0 (va_runS (As := [.long r3, .long r6]) (rest := []) ⟨hx, hb, hml, hown, hts⟩ (c_X2_commonOf l D cI cJ cZ r3 r6 r7 hgr7 _) (va_cwS 2 hts gX2_keepRing_X2_commonOf rfl rfl rfl (by decide +kernel) ⟨Nat.le_of_ble_eq_true rfl, Nat.le_of_ble_eq_true rfl⟩) ⟨PreW.blind, (xPre0 hK _)⟩ rfl rfl hl.1 rfl (lv_room (Nat.le_of_ble_eq_true rfl)) dX2_keepRing_32 ⟨Nat.le_of_ble_eq_true rfl, Nat.le_of_ble_eq_true rfl⟩) hP hS hA (fun H locs hP hS => ?_)
  refine lv_lstore (lv' := [(7, .long r7), (5, .long r6), (3, .long r3), (0, .ref (adx 0)), (1, .int p1), (2, .int p2)]) hx hb dX2_keepRing_35 hl (by decide) rfl (fun ls hl => ?_)
  refine lv_aload_n hx hb dX2_keepRing_37 rfl (lv_at hl 3 rfl) ?_
  refine va_get (D := D) (ci := 2) (v := .ref (adx 5)) (C := RX2) (T := TX2) (N := 17) hx hb hts hinX2 hown hK.1 hP 0 rfl rfl 8 (by decide) hw0 (fun _ h9 => h9) rfl dX2_keepRing_38 ?_
  refine lv_iconst (v := 0) hx hb dX2_keepRing_41 (by decide) ?_
  refine lv_iload_n hx hb dX2_keepRing_42 rfl (lv_at hl 4 rfl) ?_
  refine lv_i2l hx hb dX2_keepRing_43 rfl ?_
  replace hf := gdE hf
  obtain ⟨h8, hf⟩ := hf
  refine va_last hx hb hK.1 hP hD hS 5 1 rfl rfl (ib_in h8) dX2_keepRing_44 (fun H locs hP hD hS => ?_)
  replace hP : va_P D vwCl (wX cI cJ adx adc adn adt ((gx.1, gx.2.1, gx.2.2.1, gx.2.2.2.1, gx.2.2.2.2.1, vp_updL gx.2.2.2.2.2.1 (0 : Int32).toNatClampNeg p1.toInt64, gx.2.2.2.2.2.2)) ++ wCi cI adc gc ++ wSw cI cJ cZ adn gn ++ wSw cI cJ cZ adt gt) H := hP
  replace hD : va_D A (wX cI cJ adx adc adn adt ((gx.1, gx.2.1, gx.2.2.1, gx.2.2.2.1, gx.2.2.2.2.1, vp_updL gx.2.2.2.2.2.1 (0 : Int32).toNatClampNeg p1.toInt64, gx.2.2.2.2.2.2)) ++ wCi cI adc gc ++ wSw cI cJ cZ adn gn ++ wSw cI cJ cZ adt gt) := hD
  refine lv_aload_n hx hb dX2_keepRing_45 rfl (lv_at hl 3 rfl) ?_
  refine va_get (D := D) (ci := 2) (v := .ref (adx 5)) (C := RX2) (T := TX2) (N := 17) hx hb hts hinX2 hown hK.1 hP 0 rfl rfl 8 (by decide) hw0 (fun _ h9 => h9) rfl dX2_keepRing_46 ?_
  refine lv_iconst (v := 1) hx hb dX2_keepRing_49 (by decide) ?_
  refine lv_iload_n hx hb dX2_keepRing_50 rfl (lv_at hl 5 rfl) ?_
  refine lv_iload_n hx hb dX2_keepRing_51 rfl (lv_at hl 4 rfl) ?_
  refine lv_isub hx hb dX2_keepRing_52 ?_
  refine lv_i2l hx hb dX2_keepRing_53 rfl ?_
  refine lv_topl (fun v9 ev9 => ?_)
  replace hf := bndE hf ev9
  replace hf := gdE hf
  obtain ⟨h10, hf⟩ := hf
  refine va_last hx hb hK.1 hP hD hS 5 1 rfl rfl (ib_in h10) dX2_keepRing_54 (fun H locs hP hD hS => ?_)
  replace hP : va_P D vwCl (wX cI cJ adx adc adn adt ((gx.1, gx.2.1, gx.2.2.1, gx.2.2.2.1, gx.2.2.2.2.1, vp_updL (vp_updL gx.2.2.2.2.2.1 (0 : Int32).toNatClampNeg p1.toInt64) (1 : Int32).toNatClampNeg v9, gx.2.2.2.2.2.2)) ++ wCi cI adc gc ++ wSw cI cJ cZ adn gn ++ wSw cI cJ cZ adt gt) H := hP
  replace hD : va_D A (wX cI cJ adx adc adn adt ((gx.1, gx.2.1, gx.2.2.1, gx.2.2.2.1, gx.2.2.2.2.1, vp_updL (vp_updL gx.2.2.2.2.2.1 (0 : Int32).toNatClampNeg p1.toInt64) (1 : Int32).toNatClampNeg v9, gx.2.2.2.2.2.2)) ++ wCi cI adc gc ++ wSw cI cJ cZ adn gn ++ wSw cI cJ cZ adt gt) := hD
  refine lv_aload_n hx hb dX2_keepRing_55 rfl (lv_at hl 3 rfl) ?_
  refine va_get (D := D) (ci := 2) (v := .ref (adx 5)) (C := RX2) (T := TX2) (N := 17) hx hb hts hinX2 hown hK.1 hP 0 rfl rfl 8 (by decide) hw0 (fun _ h9 => h9) rfl dX2_keepRing_56 ?_
  refine lv_iconst (v := 2) hx hb dX2_keepRing_59 (by decide) ?_
  refine lv_lload_n hx hb dX2_keepRing_60 rfl (lv_at hl 2 rfl) ?_
  refine lv_lload hx hb dX2_keepRing_61 (lv_at hl 0 rfl) ?_
  replace hf := gdE hf
  obtain ⟨h11, hf⟩ := hf
  refine lv_ldiv hx hb dX2_keepRing_63 (nzL_ne h11) ?_
  refine lv_topl (fun v12 ev12 => ?_)
  replace hf := bndE hf ev12
  replace hf := gdE hf
  obtain ⟨h13, hf⟩ := hf
  refine va_last hx hb hK.1 hP hD hS 5 1 rfl rfl (ib_in h13) dX2_keepRing_64 (fun H locs hP hD hS => ?_)
  replace hP : va_P D vwCl (wX cI cJ adx adc adn adt ((gx.1, gx.2.1, gx.2.2.1, gx.2.2.2.1, gx.2.2.2.2.1, vp_updL (vp_updL (vp_updL gx.2.2.2.2.2.1 (0 : Int32).toNatClampNeg p1.toInt64) (1 : Int32).toNatClampNeg v9) (2 : Int32).toNatClampNeg v12, gx.2.2.2.2.2.2)) ++ wCi cI adc gc ++ wSw cI cJ cZ adn gn ++ wSw cI cJ cZ adt gt) H := hP
  replace hD : va_D A (wX cI cJ adx adc adn adt ((gx.1, gx.2.1, gx.2.2.1, gx.2.2.2.1, gx.2.2.2.2.1, vp_updL (vp_updL (vp_updL gx.2.2.2.2.2.1 (0 : Int32).toNatClampNeg p1.toInt64) (1 : Int32).toNatClampNeg v9) (2 : Int32).toNatClampNeg v12, gx.2.2.2.2.2.2)) ++ wCi cI adc gc ++ wSw cI cJ cZ adn gn ++ wSw cI cJ cZ adt gt) := hD
  refine lv_aload_n hx hb dX2_keepRing_65 rfl (lv_at hl 3 rfl) ?_
  refine va_get (D := D) (ci := 2) (v := .ref (adx 5)) (C := RX2) (T := TX2) (N := 17) hx hb hts hinX2 hown hK.1 hP 0 rfl rfl 8 (by decide) hw0 (fun _ h9 => h9) rfl dX2_keepRing_66 ?_
  refine lv_iconst (v := 3) hx hb dX2_keepRing_69 (by decide) ?_
  refine lv_lload hx hb dX2_keepRing_70 (lv_at hl 1 rfl) ?_
  refine lv_lload hx hb dX2_keepRing_72 (lv_at hl 0 rfl) ?_
  refine lv_ldiv hx hb dX2_keepRing_74 (nzL_ne h11) ?_
  refine lv_topl (fun v14 ev14 => ?_)
  replace hf := bndE hf ev14
  replace hf := gdE hf
  obtain ⟨h15, hf⟩ := hf
  refine va_last hx hb hK.1 hP hD hS 5 1 rfl rfl (ib_in h15) dX2_keepRing_75 (fun H locs hP hD hS => ?_)
  replace hP : va_P D vwCl (wX cI cJ adx adc adn adt ((gx.1, gx.2.1, gx.2.2.1, gx.2.2.2.1, gx.2.2.2.2.1, vp_updL (vp_updL (vp_updL (vp_updL gx.2.2.2.2.2.1 (0 : Int32).toNatClampNeg p1.toInt64) (1 : Int32).toNatClampNeg v9) (2 : Int32).toNatClampNeg v12) (3 : Int32).toNatClampNeg v14, gx.2.2.2.2.2.2)) ++ wCi cI adc gc ++ wSw cI cJ cZ adn gn ++ wSw cI cJ cZ adt gt) H := hP
  replace hD : va_D A (wX cI cJ adx adc adn adt ((gx.1, gx.2.1, gx.2.2.1, gx.2.2.2.1, gx.2.2.2.2.1, vp_updL (vp_updL (vp_updL (vp_updL gx.2.2.2.2.2.1 (0 : Int32).toNatClampNeg p1.toInt64) (1 : Int32).toNatClampNeg v9) (2 : Int32).toNatClampNeg v12) (3 : Int32).toNatClampNeg v14, gx.2.2.2.2.2.2)) ++ wCi cI adc gc ++ wSw cI cJ cZ adn gn ++ wSw cI cJ cZ adt gt) := hD
  refine lv_iconst (v := 0) hx hb dX2_keepRing_76 (by decide) ?_
  refine lv_istore (lv' := [(9, .int 0), (7, .long r7), (5, .long r6), (3, .long r3), (0, .ref (adx 0)), (1, .int p1), (2, .int p2)]) hx hb dX2_keepRing_77 hl (by decide) rfl (fun ls hl => ?_)
  have L79 : ∀ (n : Nat) (l9_79 : Int32) (x5_79 : Al) (H : Heap) (locs : List Loc) (ls : Array Slot), f_X2_keepRing_L79 gx p1 p2 n l9_79 x5_79 = some o → va_P D vwCl (wX cI cJ adx adc adn adt ((gx.1, gx.2.1, gx.2.2.1, gx.2.2.2.1, gx.2.2.2.2.1, x5_79, gx.2.2.2.2.2.2)) ++ wCi cI adc gc ++ wSw cI cJ cZ adn gn ++ wSw cI cJ cZ adt gt) H → va_D A (wX cI cJ adx adc adn adt ((gx.1, gx.2.1, gx.2.2.1, gx.2.2.2.1, gx.2.2.2.2.1, x5_79, gx.2.2.2.2.2.2)) ++ wCi cI adc gc ++ wSw cI cJ cZ adn gn ++ wSw cI cJ cZ adt gt) → va_S A s.heap H locs → lv_has ls 10 [(0, .ref (adx 0)), (1, .int p1), (2, .int p2), (9, .int l9_79)] → W p l e (headSpec wsX2_keepRing rmX2_keepRing).room s m ([.ref (adx 0), .int p1, .int p2] : List Value).toArray below meth c H locs 0 0 (MQ below (QV D A (wX cI cJ adx adc adn adt ((gx.1, gx.2.1, gx.2.2.1, gx.2.2.2.1, gx.2.2.2.2.1, o.1, o.2, gx.2.2.2.2.2.2.2)) ++ wCi cI adc gc ++ wSw cI cJ cZ adn gn ++ wSw cI cJ cZ adt gt)) ([.ref (adx 0), .int p1, .int p2] : List Value).toArray s 0 0 A) (F0 m 79 ls []) := by
    intro n
    induction n with
    | zero => intro l9_79 x5_79 H locs ls hf; cases hf
    | succ n ih79 =>
      intro l9_79 x5_79 H locs ls hf hP hD hS hl
      replace hf : f_X2_keepRing_B79 gx p1 p2 (f_X2_keepRing_L79 gx p1 p2 n) l9_79 x5_79 = some o := hf
      generalize f_X2_keepRing_L79 gx p1 p2 n = rec79 at ih79 hf
      unfold f_X2_keepRing_B79 at hf
      refine lv_iload hx hb dX2_keepRing_79 (lv_at hl 3 rfl) ?_
      refine lv_iconst (v := 4) hx hb dX2_keepRing_81 (by decide) ?_
      refine lv_icmp_ge (tgt := 101) hx hb dX2_keepRing_82 (by decide) (fun q16 => ?_) (fun q16 => ?_)
      · replace hf := ifT q16 hf
        refine lv_iload_n hx hb dX2_keepRing_101 rfl (lv_at hl 1 rfl) ?_
        refine lv_iconst (v := 1) hx hb dX2_keepRing_102 (by decide) ?_
        refine lv_iadd hx hb dX2_keepRing_103 ?_
        refine lv_topi (fun v17 ev17 => ?_)
        replace hf := bndE hf ev17
        refine lv_istore (lv' := [(9, .int v17), (0, .ref (adx 0)), (1, .int p1), (2, .int p2)]) hx hb dX2_keepRing_104 hl (by decide) rfl (fun ls hl => ?_)
        have L106 : ∀ (n : Nat) (l9_106 : Int32) (x5_106 : Al) (H : Heap) (locs : List Loc) (ls : Array Slot), f_X2_keepRing_L106 gx p2 n l9_106 x5_106 = some o → va_P D vwCl (wX cI cJ adx adc adn adt ((gx.1, gx.2.1, gx.2.2.1, gx.2.2.2.1, gx.2.2.2.2.1, x5_106, gx.2.2.2.2.2.2)) ++ wCi cI adc gc ++ wSw cI cJ cZ adn gn ++ wSw cI cJ cZ adt gt) H → va_D A (wX cI cJ adx adc adn adt ((gx.1, gx.2.1, gx.2.2.1, gx.2.2.2.1, gx.2.2.2.2.1, x5_106, gx.2.2.2.2.2.2)) ++ wCi cI adc gc ++ wSw cI cJ cZ adn gn ++ wSw cI cJ cZ adt gt) → va_S A s.heap H locs → lv_has ls 10 [(0, .ref (adx 0)), (2, .int p2), (9, .int l9_106)] → W p l e (headSpec wsX2_keepRing rmX2_keepRing).room s m ([.ref (adx 0), .int p1, .int p2] : List Value).toArray below meth c H locs 0 0 (MQ below (QV D A (wX cI cJ adx adc adn adt ((gx.1, gx.2.1, gx.2.2.1, gx.2.2.2.1, gx.2.2.2.2.1, o.1, o.2, gx.2.2.2.2.2.2.2)) ++ wCi cI adc gc ++ wSw cI cJ cZ adn gn ++ wSw cI cJ cZ adt gt)) ([.ref (adx 0), .int p1, .int p2] : List Value).toArray s 0 0 A) (F0 m 106 ls []) := by
          intro n
          induction n with
          | zero => intro l9_106 x5_106 H locs ls hf; cases hf
          | succ n ih106 =>
            intro l9_106 x5_106 H locs ls hf hP hD hS hl
            replace hf : f_X2_keepRing_B106 gx p2 (f_X2_keepRing_L106 gx p2 n) l9_106 x5_106 = some o := hf
            generalize f_X2_keepRing_L106 gx p2 n = rec106 at ih106 hf
            unfold f_X2_keepRing_B106 at hf
            refine lv_iload hx hb dX2_keepRing_106 (lv_at hl 2 rfl) ?_
            refine lv_iload_n hx hb dX2_keepRing_108 rfl (lv_at hl 1 rfl) ?_
            refine lv_icmp_gt (tgt := 150) hx hb dX2_keepRing_109 (by decide) (fun q18 => ?_) (fun q18 => ?_)
            · replace hf := ifT q18 hf
              refine lv_aload_n hx hb dX2_keepRing_150 rfl (lv_at hl 0 rfl) ?_
              refine lv_iconst (v := 1) hx hb dX2_keepRing_151 (by decide) ?_
              refine va_put (D := D) (ci := 2) (v := .int 1) (ty := .boolean) (C := RX2) (T := TX2) (N := 17) hx hb hts hinX2 tyX2 tyX2_ok nmX2 hown hK.1 hP hD hS 0 rfl rfl 9 (by decide) hw1 (fun _ h9 => h9) rfl (by decide +kernel) rfl rfl (Nat.le_of_ble_eq_true rfl) dX2_keepRing_152 (fun H locs hP hD hS => ?_)
              replace hP : va_P D vwCl (wX cI cJ adx adc adn adt ((gx.1, gx.2.1, gx.2.2.1, gx.2.2.2.1, gx.2.2.2.2.1, x5_106, 1, gx.2.2.2.2.2.2.2)) ++ wCi cI adc gc ++ wSw cI cJ cZ adn gn ++ wSw cI cJ cZ adt gt) H := hP
              replace hD : va_D A (wX cI cJ adx adc adn adt ((gx.1, gx.2.1, gx.2.2.1, gx.2.2.2.1, gx.2.2.2.2.1, x5_106, 1, gx.2.2.2.2.2.2.2)) ++ wCi cI adc gc ++ wSw cI cJ cZ adn gn ++ wSw cI cJ cZ adt gt) := hD
              obtain rfl := Option.some.inj hf
              exact retV hx hb hr hlocks hP hD hS dX2_keepRing_155
            · replace hf := ifF q18 hf
              refine lv_aload_n hx hb dX2_keepRing_112 rfl (lv_at hl 0 rfl) ?_
              refine lv_iload hx hb dX2_keepRing_113 (lv_at hl 2 rfl) ?_
              replace hf := bdE hf
              obtain ⟨r19, hgr19, hf⟩ := hf
              refine xLw (va_runV (As := [.int l9_106]) (rest := []) ⟨hx, hb, hml, hown, hts⟩ (c_X2_eventInRow l D cI cJ cZ adx adc adn adt ((gx.1, gx.2.1, gx.2.2.1, gx.2.2.2.1, gx.2.2.2.2.1, x5_106, gx.2.2.2.2.2.2)) gc gn gt l9_106 r19 hgr19 _) (cwV 1 hts gX2_keepRing_X2_eventInRow rfl rfl rfl (by decide +kernel) ⟨Nat.le_of_ble_eq_true rfl, Nat.le_of_ble_eq_true rfl⟩) ⟨PreW.blind, xRecv (q0 := 0) hK hP rfl rfl, (xPrew hK hP hD _)⟩ rfl rfl hl.1 rfl (lv_room (Nat.le_of_ble_eq_true rfl)) dX2_keepRing_115 ⟨Nat.le_of_ble_eq_true rfl, Nat.le_of_ble_eq_true rfl⟩) hD hS hA (fun H locs hP hD hS => ?_)
              replace hP : va_P D vwCl (wX cI cJ adx adc adn adt ((gx.1, gx.2.1, gx.2.2.1, gx.2.2.2.1, gx.2.2.2.2.1, x5_106, gx.2.2.2.2.2.2)) ++ wCi cI adc gc ++ wSw cI cJ cZ adn gn ++ wSw cI cJ cZ adt gt) H := hP
              replace hD : va_D A (wX cI cJ adx adc adn adt ((gx.1, gx.2.1, gx.2.2.1, gx.2.2.2.1, gx.2.2.2.2.1, x5_106, gx.2.2.2.2.2.2)) ++ wCi cI adc gc ++ wSw cI cJ cZ adn gn ++ wSw cI cJ cZ adt gt) := hD
              replace hf := bdE hf
              obtain ⟨r20, hgr20, hf⟩ := hf
              refine xI0 (va_runS (As := [.long r19]) (rest := []) ⟨hx, hb, hml, hown, hts⟩ (c_X2_sideIn l D cI cJ cZ r19 r20 hgr20 _) (va_cwS 1 hts gX2_keepRing_X2_sideIn rfl rfl rfl (by decide +kernel) ⟨Nat.le_of_ble_eq_true rfl, Nat.le_of_ble_eq_true rfl⟩) ⟨PreW.blind, (xPre0 hK _)⟩ rfl rfl hl.1 rfl (lv_room (Nat.le_of_ble_eq_true rfl)) dX2_keepRing_118 ⟨Nat.le_of_ble_eq_true rfl, Nat.le_of_ble_eq_true rfl⟩) hP hS hA (fun H locs hP hS => ?_)
              have J144 : ∀ (x5_144 : Al) (H : Heap) (locs : List Loc) (ls : Array Slot), f_X2_keepRing_J144 l9_106 rec106 x5_144 = some o → va_P D vwCl (wX cI cJ adx adc adn adt ((gx.1, gx.2.1, gx.2.2.1, gx.2.2.2.1, gx.2.2.2.2.1, x5_144, gx.2.2.2.2.2.2)) ++ wCi cI adc gc ++ wSw cI cJ cZ adn gn ++ wSw cI cJ cZ adt gt) H → va_D A (wX cI cJ adx adc adn adt ((gx.1, gx.2.1, gx.2.2.1, gx.2.2.2.1, gx.2.2.2.2.1, x5_144, gx.2.2.2.2.2.2)) ++ wCi cI adc gc ++ wSw cI cJ cZ adn gn ++ wSw cI cJ cZ adt gt) → va_S A s.heap H locs → lv_has ls 10 [(0, .ref (adx 0)), (2, .int p2), (9, .int l9_106)] → W p l e (headSpec wsX2_keepRing rmX2_keepRing).room s m ([.ref (adx 0), .int p1, .int p2] : List Value).toArray below meth c H locs 0 0 (MQ below (QV D A (wX cI cJ adx adc adn adt ((gx.1, gx.2.1, gx.2.2.1, gx.2.2.2.1, gx.2.2.2.2.1, o.1, o.2, gx.2.2.2.2.2.2.2)) ++ wCi cI adc gc ++ wSw cI cJ cZ adn gn ++ wSw cI cJ cZ adt gt)) ([.ref (adx 0), .int p1, .int p2] : List Value).toArray s 0 0 A) (F0 m 144 ls []) := by
                intro x5_144 H locs ls hf hP hD hS hl
                unfold f_X2_keepRing_J144 at hf
                refine lv_iinc (v := l9_106 + 1) (lv' := [(9, .int (l9_106 + 1)), (0, .ref (adx 0)), (2, .int p2)]) hx hb dX2_keepRing_144 hl (k := 2) rfl (by rfl) (by decide) rfl (fun ls hl => ?_)
                refine lv_goto (tgt := 106) hx hb dX2_keepRing_147 (by decide) ?_
                exact ih106 (l9_106 + 1) x5_144 _ _ _ hf hP hD hS (lv_sub hl [1, 2, 0] rfl)
              refine lv_if_ne (tgt := 144) hx hb dX2_keepRing_121 (by decide) (fun q21 => ?_) (fun q21 => ?_)
              · replace hf := ifT q21 hf
                exact J144 x5_106 _ _ _ hf hP hD hS (lv_sub hl [0, 1, 2] rfl)
              · replace hf := ifN q21 hf
                refine lv_aload_n hx hb dX2_keepRing_124 rfl (lv_at hl 0 rfl) ?_
                refine va_get (D := D) (ci := 2) (v := .ref (adx 5)) (C := RX2) (T := TX2) (N := 17) hx hb hts hinX2 hown hK.1 hP 0 rfl rfl 8 (by decide) hw0 (fun _ h9 => h9) rfl dX2_keepRing_125 ?_
                refine lv_iconst (v := 4) hx hb dX2_keepRing_128 (by decide) ?_
                refine lv_aload_n hx hb dX2_keepRing_129 rfl (lv_at hl 0 rfl) ?_
                refine lv_iload hx hb dX2_keepRing_130 (lv_at hl 2 rfl) ?_
                replace hf := bdE hf
                obtain ⟨r22, hgr22, hf⟩ := hf
                refine xLw (va_runV (As := [.int l9_106]) (rest := [.int 4, .ref (adx 5)]) ⟨hx, hb, hml, hown, hts⟩ (c_X2_eventInRow l D cI cJ cZ adx adc adn adt ((gx.1, gx.2.1, gx.2.2.1, gx.2.2.2.1, gx.2.2.2.2.1, x5_106, gx.2.2.2.2.2.2)) gc gn gt l9_106 r22 hgr22 _) (cwV 1 hts gX2_keepRing_X2_eventInRow rfl rfl rfl (by decide +kernel) ⟨Nat.le_of_ble_eq_true rfl, Nat.le_of_ble_eq_true rfl⟩) ⟨PreW.blind, xRecv (q0 := 0) hK hP rfl rfl, (xPrew hK hP hD _)⟩ rfl rfl hl.1 rfl (lv_room (Nat.le_of_ble_eq_true rfl)) dX2_keepRing_132 ⟨Nat.le_of_ble_eq_true rfl, Nat.le_of_ble_eq_true rfl⟩) hD hS hA (fun H locs hP hD hS => ?_)
                replace hP : va_P D vwCl (wX cI cJ adx adc adn adt ((gx.1, gx.2.1, gx.2.2.1, gx.2.2.2.1, gx.2.2.2.2.1, x5_106, gx.2.2.2.2.2.2)) ++ wCi cI adc gc ++ wSw cI cJ cZ adn gn ++ wSw cI cJ cZ adt gt) H := hP
                replace hD : va_D A (wX cI cJ adx adc adn adt ((gx.1, gx.2.1, gx.2.2.1, gx.2.2.2.1, gx.2.2.2.2.1, x5_106, gx.2.2.2.2.2.2)) ++ wCi cI adc gc ++ wSw cI cJ cZ adn gn ++ wSw cI cJ cZ adt gt) := hD
                replace hf := bdE hf
                obtain ⟨r23, hgr23, hf⟩ := hf
                refine xI0 (va_runS (As := [.long r22]) (rest := [.int 4, .ref (adx 5)]) ⟨hx, hb, hml, hown, hts⟩ (c_X2_turnedIn l D cI cJ cZ r22 r23 hgr23 _) (va_cwS 1 hts gX2_keepRing_X2_turnedIn rfl rfl rfl (by decide +kernel) ⟨Nat.le_of_ble_eq_true rfl, Nat.le_of_ble_eq_true rfl⟩) ⟨PreW.blind, (xPre0 hK _)⟩ rfl rfl hl.1 rfl (lv_room (Nat.le_of_ble_eq_true rfl)) dX2_keepRing_135 ⟨Nat.le_of_ble_eq_true rfl, Nat.le_of_ble_eq_true rfl⟩) hP hS hA (fun H locs hP hS => ?_)
                refine lv_iadd hx hb dX2_keepRing_138 ?_
                refine lv_dup2_11 hx hb dX2_keepRing_139 rfl rfl ?_
                replace hf := gdE hf
                obtain ⟨h24, hf⟩ := hf
                refine va_lald hx hb hK.1 hP 5 1 rfl rfl (ib_in h24) dX2_keepRing_140 ?_
                refine lv_lconst (v := 1) hx hb dX2_keepRing_141 (by decide) ?_
                refine lv_ladd hx hb dX2_keepRing_142 ?_
                refine lv_topl (fun v25 ev25 => ?_)
                replace hf := bndE hf ev25
                refine va_last hx hb hK.1 hP hD hS 5 1 rfl rfl (ib_in h24) dX2_keepRing_143 (fun H locs hP hD hS => ?_)
                replace hP : va_P D vwCl (wX cI cJ adx adc adn adt ((gx.1, gx.2.1, gx.2.2.1, gx.2.2.2.1, gx.2.2.2.2.1, vp_updL x5_106 (4 + r23).toNatClampNeg v25, gx.2.2.2.2.2.2)) ++ wCi cI adc gc ++ wSw cI cJ cZ adn gn ++ wSw cI cJ cZ adt gt) H := hP
                replace hD : va_D A (wX cI cJ adx adc adn adt ((gx.1, gx.2.1, gx.2.2.1, gx.2.2.2.1, gx.2.2.2.2.1, vp_updL x5_106 (4 + r23).toNatClampNeg v25, gx.2.2.2.2.2.2)) ++ wCi cI adc gc ++ wSw cI cJ cZ adn gn ++ wSw cI cJ cZ adt gt) := hD
                exact J144 (vp_updL x5_106 (4 + r23).toNatClampNeg v25) _ _ _ hf hP hD hS (lv_sub hl [0, 1, 2] rfl)
        exact L106 fuel v17 x5_79 _ _ _ hf hP hD hS (lv_sub hl [1, 3, 0] rfl)
      · replace hf := ifF q16 hf
        refine lv_aload_n hx hb dX2_keepRing_85 rfl (lv_at hl 0 rfl) ?_
        refine va_get (D := D) (ci := 2) (v := .ref (adx 5)) (C := RX2) (T := TX2) (N := 17) hx hb hts hinX2 hown hK.1 hP 0 rfl rfl 8 (by decide) hw0 (fun _ h9 => h9) rfl dX2_keepRing_86 ?_
        refine lv_iconst (v := 4) hx hb dX2_keepRing_89 (by decide) ?_
        refine lv_iload hx hb dX2_keepRing_90 (lv_at hl 3 rfl) ?_
        refine lv_iadd hx hb dX2_keepRing_92 ?_
        refine lv_lconst (v := 0) hx hb dX2_keepRing_93 (by decide) ?_
        replace hf := gdE hf
        obtain ⟨h26, hf⟩ := hf
        refine va_last hx hb hK.1 hP hD hS 5 1 rfl rfl (ib_in h26) dX2_keepRing_94 (fun H locs hP hD hS => ?_)
        replace hP : va_P D vwCl (wX cI cJ adx adc adn adt ((gx.1, gx.2.1, gx.2.2.1, gx.2.2.2.1, gx.2.2.2.2.1, vp_updL x5_79 (4 + l9_79).toNatClampNeg 0, gx.2.2.2.2.2.2)) ++ wCi cI adc gc ++ wSw cI cJ cZ adn gn ++ wSw cI cJ cZ adt gt) H := hP
        replace hD : va_D A (wX cI cJ adx adc adn adt ((gx.1, gx.2.1, gx.2.2.1, gx.2.2.2.1, gx.2.2.2.2.1, vp_updL x5_79 (4 + l9_79).toNatClampNeg 0, gx.2.2.2.2.2.2)) ++ wCi cI adc gc ++ wSw cI cJ cZ adn gn ++ wSw cI cJ cZ adt gt) := hD
        refine lv_iinc (v := l9_79 + 1) (lv' := [(9, .int (l9_79 + 1)), (0, .ref (adx 0)), (1, .int p1), (2, .int p2)]) hx hb dX2_keepRing_95 hl (k := 3) rfl (by rfl) (by decide) rfl (fun ls hl => ?_)
        refine lv_goto (tgt := 79) hx hb dX2_keepRing_98 (by decide) ?_
        exact ih79 (l9_79 + 1) (vp_updL x5_79 (4 + l9_79).toNatClampNeg 0) _ _ _ hf hP hD hS (lv_sub hl [1, 2, 3, 0] rfl)
  exact L79 fuel 0 (vp_updL (vp_updL (vp_updL (vp_updL gx.2.2.2.2.2.1 (0 : Int32).toNatClampNeg p1.toInt64) (1 : Int32).toNatClampNeg v9) (2 : Int32).toNatClampNeg v12) (3 : Int32).toNatClampNeg v14) _ _ _ hf hP hD hS (lv_sub hl [4, 5, 6, 0] rfl)

def f_X2_ring_B42 (gx : Xo) (gc : Ci) (p1 : Int32) (rec42 : Int32 → Al → Int64 → Int64 → Al → Al → Ar → Ar → Int32 → Int32 → Int64 → Int64 → Option (Int32 × Al × Al × Int32 × Int64 × Int64 × Al × Al × Ar × Ar × Int32 × Int32 × Int64 × Int64)) (l2_42 : Int32) (x4_42 : Al) (t0_42 : Int64) (t1_42 : Int64) (t2_42 : Al) (t3_42 : Al) (t4_42 : Ar) (t5_42 : Ar) (t6_42 : Int32) (t7_42 : Int32) (t8_42 : Int64) (t9_42 : Int64) : Option (Int32 × Al × Al × Int32 × Int64 × Int64 × Al × Al × Ar × Ar × Int32 × Int32 × Int64 × Int64) :=
if p1 < l2_42 then
some ((-2), x4_42, gx.2.2.2.2.2.1, gx.2.2.2.2.2.2.1, t0_42, t1_42, t2_42, t3_42, t4_42, t5_42, t6_42, t7_42, t8_42, t9_42)
else
(f_X1_advance ((t0_42, t1_42, t2_42, t3_42, t4_42, t5_42, t6_42, t7_42, t8_42, t9_42)) gc).bind (fun r7 =>
if ¬ (b2i r7.1) = 0 then
(f_X2_writeTrail ((gx.1, gx.2.1, gx.2.2.1, gx.2.2.2.1, x4_42, gx.2.2.2.2.2)) r7.2 l2_42).bind (fun r9 =>
(f_X2_sameAhead ((gx.1, gx.2.1, gx.2.2.1, gx.2.2.2.1, r9, gx.2.2.2.2.2)) l2_42).bind (fun r10 =>
if r10 = ((-1)) then
rec42 (l2_42 + 1) r9 r7.2.1 r7.2.2.1 r7.2.2.2.1 r7.2.2.2.2.1 r7.2.2.2.2.2.1 r7.2.2.2.2.2.2.1 r7.2.2.2.2.2.2.2.1 r7.2.2.2.2.2.2.2.2.1 r7.2.2.2.2.2.2.2.2.2.1 r7.2.2.2.2.2.2.2.2.2.2
else
(f_X2_keepRing ((gx.1, gx.2.1, gx.2.2.1, gx.2.2.2.1, r9, gx.2.2.2.2.2)) r10 l2_42).bind (fun r12 =>
some (l2_42 - r10, r9, r12.1, r12.2, r7.2.1, r7.2.2.1, r7.2.2.2.1, r7.2.2.2.2.1, r7.2.2.2.2.2.1, r7.2.2.2.2.2.2.1, r7.2.2.2.2.2.2.2.1, r7.2.2.2.2.2.2.2.2.1, r7.2.2.2.2.2.2.2.2.2.1, r7.2.2.2.2.2.2.2.2.2.2))))
else
some ((-3), x4_42, gx.2.2.2.2.2.1, gx.2.2.2.2.2.2.1, r7.2.1, r7.2.2.1, r7.2.2.2.1, r7.2.2.2.2.1, r7.2.2.2.2.2.1, r7.2.2.2.2.2.2.1, r7.2.2.2.2.2.2.2.1, r7.2.2.2.2.2.2.2.2.1, r7.2.2.2.2.2.2.2.2.2.1, r7.2.2.2.2.2.2.2.2.2.2))
def f_X2_ring_L42 (gx : Xo) (gc : Ci) (p1 : Int32) : Nat → Int32 → Al → Int64 → Int64 → Al → Al → Ar → Ar → Int32 → Int32 → Int64 → Int64 → Option (Int32 × Al × Al × Int32 × Int64 × Int64 × Al × Al × Ar × Ar × Int32 × Int32 × Int64 × Int64)
  | 0 => fun _ _ _ _ _ _ _ _ _ _ _ _ => none
  | n + 1 => f_X2_ring_B42 gx gc p1 (f_X2_ring_L42 gx gc p1 n)
def f_X2_ring (gx : Xo) (gc : Ci) (gn : Sw) (gt : Sw) (p1 : Int32) : Option (Int32 × Al × Al × Int32 × Int64 × Int64 × Al × Al × Ar × Ar × Int32 × Int32 × Int64 × Int64) :=
if p1 < 1 then
some ((-1), gx.2.2.2.2.1, gx.2.2.2.2.2.1, gx.2.2.2.2.2.2.1, gt.1, gt.2.1, gt.2.2.1, gt.2.2.2.1, gt.2.2.2.2.1, gt.2.2.2.2.2.1, gt.2.2.2.2.2.2.1, gt.2.2.2.2.2.2.2.1, gt.2.2.2.2.2.2.2.2.1, gt.2.2.2.2.2.2.2.2.2)
else
if (300 : Int32) < p1 then
some ((-1), gx.2.2.2.2.1, gx.2.2.2.2.2.1, gx.2.2.2.2.2.2.1, gt.1, gt.2.1, gt.2.2.1, gt.2.2.2.1, gt.2.2.2.2.1, gt.2.2.2.2.2.1, gt.2.2.2.2.2.2.1, gt.2.2.2.2.2.2.2.1, gt.2.2.2.2.2.2.2.2.1, gt.2.2.2.2.2.2.2.2.2)
else
if ¬ gc.1 = 0 then
(f_X1_copyFrom gt gn).bind (fun r4 =>
(f_X2_writeTrail gx ((r4.1, r4.2.1, r4.2.2.1, r4.2.2.2.1, r4.2.2.2.2.1, r4.2.2.2.2.2, gt.2.2.2.2.2.2)) 0).bind (fun r5 =>
f_X2_ring_L42 gx gc p1 fuel 1 r5 r4.1 r4.2.1 r4.2.2.1 r4.2.2.2.1 r4.2.2.2.2.1 r4.2.2.2.2.2 gt.2.2.2.2.2.2.1 gt.2.2.2.2.2.2.2.1 gt.2.2.2.2.2.2.2.2.1 gt.2.2.2.2.2.2.2.2.2))
else
some ((-1), gx.2.2.2.2.1, gx.2.2.2.2.2.1, gx.2.2.2.2.2.2.1, gt.1, gt.2.1, gt.2.2.1, gt.2.2.2.1, gt.2.2.2.2.1, gt.2.2.2.2.2.1, gt.2.2.2.2.2.2.1, gt.2.2.2.2.2.2.2.1, gt.2.2.2.2.2.2.2.2.1, gt.2.2.2.2.2.2.2.2.2)
abbrev rmX2_ring : Room := { frames := 4, cells := 0, slots := 0, locals := 88 }
set_option maxHeartbeats 40000000 in
set_option maxRecDepth 100000 in
theorem c_X2_ring (l : Launch) (D : va_G) (cI cJ cZ : ClassId) (adx : Nat → Nat) (adc : Nat → Nat) (adn : Nat → Nat) (adt : Nat → Nat) (gx : Xo) (gc : Ci) (gn : Sw) (gt : Sw) (p1 : Int32) (o : (Int32 × Al × Al × Int32 × Int64 × Int64 × Al × Al × Ar × Ar × Int32 × Int32 × Int64 × Int64)) (hf : f_X2_ring gx gc gn gt p1 = some o) : CtI l yX2_ring wsX2_ring rmX2_ring D cI cJ cZ [.ref (adx 0), .int p1] (wX cI cJ adx adc adn adt gx ++ wCi cI adc gc ++ wSw cI cJ cZ adn gn ++ wSw cI cJ cZ adt gt) (wX cI cJ adx adc adn adt ((gx.1, gx.2.1, gx.2.2.1, gx.2.2.2.1, o.2.1, o.2.2.1, o.2.2.2.1, gx.2.2.2.2.2.2.2)) ++ wCi cI adc gc ++ wSw cI cJ cZ adn gn ++ wSw cI cJ cZ adt o.2.2.2.2) o.1 := by
  intro sz
  refine Met.ofW (cc := cX2_ring) (maxL := 4) (ret := (some .int)) (by decide) rfl ?_
  intro p e s m args below meth c s₁ B hml hv
  obtain ⟨rfl, hsz, hP, hK, hD0⟩ := hv
  have hx := B.exec
  have hb := B.bytes
  have hr := B.returns
  have hts := atoms_spec (ws := wsX2_ring) B.pre
  have hown : s.vm.findClass RX2 = some m.cls := findClass_of_methodNamed B.named
  have hlocks := B.notSynchronized
  subst hsz
  have hD := hD0.self (sz := s.heap.size)
  clear hD0
  generalize hAe : va_A (wX cI cJ adx adc adn adt gx ++ wCi cI adc gc ++ wSw cI cJ cZ adn gn ++ wSw cI cJ cZ adt gt) s.heap.size = A at hD ⊢
  have hA : ∀ q : Nat, s.heap.size ≤ q → A q := fun q h => by rw [← hAe]; exact Or.inr h
  have hS : va_S A s.heap s.heap [] := va_S.rf
  have hinX0 : ∀ w ∈ wsX00, w ∈ wsX2_ring := by decide +kernel
  have hinX2 : ∀ w ∈ wsX20, w ∈ wsX2_ring := by decide +kernel
  have hw0 : (Cond.fieldLink RX2 12 "SwingCircuits" "circuit" "LSwingCircuits$Circuit;").before _ s = true := hts _ (by decide +kernel)
  have hw1 : (Cond.fieldLink RX2 76 "SwingCircuits$Circuit" "cells" "I").before _ s = true := hts _ (by decide +kernel)
  have hw2 : (Cond.fieldLink RX2 23 "SwingCircuits" "trial" "LSwingCircuits$Swing;").before _ s = true := hts _ (by decide +kernel)
  have hw3 : (Cond.fieldLink RX2 19 "SwingCircuits" "now" "LSwingCircuits$Swing;").before _ s = true := hts _ (by decide +kernel)
  have hl := lv_entry ([.ref (adx 0), .int p1]) (n := 4) (Nat.le_of_ble_eq_true rfl)
  rw [lg_entry_eq]
  generalize (lg_sl ([.ref (adx 0), .int p1]) ++ List.replicate (4 - (lg_sl ([.ref (adx 0), .int p1])).length) Slot.unset).toArray = ls at hl ⊢
  replace hl : lv_has ls 4 [(0, .ref (adx 0)), (1, .int p1)] := hl
  unfold f_X2_ring at hf
  refine lv_iload_n hx hb dX2_ring_0 rfl (lv_at hl 1 rfl) ?_
  refine lv_iconst (v := 1) hx hb dX2_ring_1 (by decide) ?_
  refine lv_icmp_lt (tgt := 22) hx hb dX2_ring_2 (by decide) (fun q1 => ?_) (fun q1 => ?_)
  · replace hf := ifT q1 hf
    refine lv_iconst (v := (-1)) hx hb dX2_ring_22 (by decide) ?_
    obtain rfl := Option.some.inj hf
    exact retI hx hb hr hlocks hP hD hS dX2_ring_23
  · replace hf := ifF q1 hf
    refine lv_iload_n hx hb dX2_ring_5 rfl (lv_at hl 1 rfl) ?_
    refine lv_sipush (v := 300) hx hb dX2_ring_6 (by decide) ?_
    refine lv_icmp_gt (tgt := 22) hx hb dX2_ring_9 (by decide) (fun q2 => ?_) (fun q2 => ?_)
    · replace hf := ifT q2 hf
      refine lv_iconst (v := (-1)) hx hb dX2_ring_22 (by decide) ?_
      obtain rfl := Option.some.inj hf
      exact retI hx hb hr hlocks hP hD hS dX2_ring_23
    · replace hf := ifF q2 hf
      refine lv_aload_n hx hb dX2_ring_12 rfl (lv_at hl 0 rfl) ?_
      refine va_get (D := D) (ci := 2) (v := .ref (adc 0)) (C := RX2) (T := TX2) (N := 17) hx hb hts hinX2 hown hK.1 hP 0 rfl rfl 0 (by decide) hw0 (fun _ h9 => h9) rfl dX2_ring_13 ?_
      refine va_get (D := D) (ci := 0) (v := .int gc.1) (C := RX0) (T := TX0) (N := 12) hx hb hts hinX0 hown hK.1 hP 11 rfl rfl 0 (by decide) hw1 (fun _ h9 => h9) rfl dX2_ring_16 ?_
      refine lv_if_ne (tgt := 24) hx hb dX2_ring_19 (by decide) (fun q3 => ?_) (fun q3 => ?_)
      · replace hf := ifT q3 hf
        refine lv_aload_n hx hb dX2_ring_24 rfl (lv_at hl 0 rfl) ?_
        refine va_get (D := D) (ci := 2) (v := .ref (adt 0)) (C := RX2) (T := TX2) (N := 17) hx hb hts hinX2 hown hK.1 hP 0 rfl rfl 2 (by decide) hw2 (fun _ h9 => h9) rfl dX2_ring_25 ?_
        refine lv_aload_n hx hb dX2_ring_28 rfl (lv_at hl 0 rfl) ?_
        refine va_get (D := D) (ci := 2) (v := .ref (adn 0)) (C := RX2) (T := TX2) (N := 17) hx hb hts hinX2 hown hK.1 hP 0 rfl rfl 1 (by decide) hw3 (fun _ h9 => h9) rfl dX2_ring_29 ?_
        replace hf := bdE hf
        obtain ⟨r4, hgr4, hf⟩ := hf
        refine xV (w2 := (wX cI cJ adx adc adn adt gx ++ wCi cI adc gc ++ wSw cI cJ cZ adn gn ++ wSw cI cJ cZ adt ((r4.1, r4.2.1, r4.2.2.1, r4.2.2.2.1, r4.2.2.2.2.1, r4.2.2.2.2.2, gt.2.2.2.2.2.2)))) (wr := (wX cI cJ adx adc adn adt gx ++ wCi cI adc gc)) (va_runV (As := [.ref (adn 0)]) (rest := []) ⟨hx, hb, hml, hown, hts⟩ (c_X1_copyFrom l D cI cJ cZ adt adn gt gn r4 hgr4 _) (cwV 1 hts gX2_ring_X1_copyFrom rfl rfl rfl (by decide +kernel) ⟨Nat.le_of_ble_eq_true rfl, Nat.le_of_ble_eq_true rfl⟩) ⟨PreW.blind, xRecv (q0 := 27) hK hP rfl rfl, (xPre hK hP hD [27, 28, 29, 30, 31, 22, 23, 24, 25, 26] rfl (by decide) _)⟩ rfl rfl hl.1 rfl (lv_room (Nat.le_of_ble_eq_true rfl)) dX2_ring_32 ⟨Nat.le_of_ble_eq_true rfl, Nat.le_of_ble_eq_true rfl⟩) hP hD hS hA [27, 28, 29, 30, 31, 22, 23, 24, 25, 26] [0, 1, 2, 3, 4, 5, 6, 7, 8, 9, 10, 11, 12, 13, 14, 15, 16, 17, 18, 19, 20, 21] [0, 1, 2, 3, 4, 5, 6, 7, 8, 9, 10, 11, 12, 13, 14, 15, 16, 17, 18, 19, 20, 21, 27, 28, 29, 30, 31, 22, 23, 24, 25, 26] rfl rfl (by decide) (by decide) rfl (by decide) (fun H locs hP hD hS => ?_)
        refine lv_aload_n hx hb dX2_ring_35 rfl (lv_at hl 0 rfl) ?_
        refine lv_iconst (v := 0) hx hb dX2_ring_36 (by decide) ?_
        replace hf := bdE hf
        obtain ⟨r5, hgr5, hf⟩ := hf
        refine xVw (va_runV (As := [.int 0]) (rest := []) ⟨hx, hb, hml, hown, hts⟩ (c_X2_writeTrail l D cI cJ cZ adx adc adn adt gx gc gn ((r4.1, r4.2.1, r4.2.2.1, r4.2.2.2.1, r4.2.2.2.2.1, r4.2.2.2.2.2, gt.2.2.2.2.2.2)) 0 r5 hgr5 _) (cwV 1 hts gX2_ring_X2_writeTrail rfl rfl rfl (by decide +kernel) ⟨Nat.le_of_ble_eq_true rfl, Nat.le_of_ble_eq_true rfl⟩) ⟨PreW.blind, xRecv (q0 := 0) hK hP rfl rfl, (xPrew hK hP hD _)⟩ rfl rfl hl.1 rfl (lv_room (Nat.le_of_ble_eq_true rfl)) dX2_ring_37 ⟨Nat.le_of_ble_eq_true rfl, Nat.le_of_ble_eq_true rfl⟩) hD hS hA (fun H locs hP hD hS => ?_)
        replace hP : va_P D vwCl (wX cI cJ adx adc adn adt ((gx.1, gx.2.1, gx.2.2.1, gx.2.2.2.1, r5, gx.2.2.2.2.2)) ++ wCi cI adc gc ++ wSw cI cJ cZ adn gn ++ wSw cI cJ cZ adt ((r4.1, r4.2.1, r4.2.2.1, r4.2.2.2.1, r4.2.2.2.2.1, r4.2.2.2.2.2, gt.2.2.2.2.2.2))) H := hP
        replace hD : va_D A (wX cI cJ adx adc adn adt ((gx.1, gx.2.1, gx.2.2.1, gx.2.2.2.1, r5, gx.2.2.2.2.2)) ++ wCi cI adc gc ++ wSw cI cJ cZ adn gn ++ wSw cI cJ cZ adt ((r4.1, r4.2.1, r4.2.2.1, r4.2.2.2.1, r4.2.2.2.2.1, r4.2.2.2.2.2, gt.2.2.2.2.2.2))) := hD
        refine lv_iconst (v := 1) hx hb dX2_ring_40 (by decide) ?_
        refine lv_istore_n (lv' := [(2, .int 1), (0, .ref (adx 0)), (1, .int p1)]) hx hb dX2_ring_41 rfl hl (by decide) rfl (fun ls hl => ?_)
        have L42 : ∀ (n : Nat) (l2_42 : Int32) (x4_42 : Al) (t0_42 : Int64) (t1_42 : Int64) (t2_42 : Al) (t3_42 : Al) (t4_42 : Ar) (t5_42 : Ar) (t6_42 : Int32) (t7_42 : Int32) (t8_42 : Int64) (t9_42 : Int64) (H : Heap) (locs : List Loc) (ls : Array Slot), f_X2_ring_L42 gx gc p1 n l2_42 x4_42 t0_42 t1_42 t2_42 t3_42 t4_42 t5_42 t6_42 t7_42 t8_42 t9_42 = some o → va_P D vwCl (wX cI cJ adx adc adn adt ((gx.1, gx.2.1, gx.2.2.1, gx.2.2.2.1, x4_42, gx.2.2.2.2.2)) ++ wCi cI adc gc ++ wSw cI cJ cZ adn gn ++ wSw cI cJ cZ adt ((t0_42, t1_42, t2_42, t3_42, t4_42, t5_42, t6_42, t7_42, t8_42, t9_42))) H → va_D A (wX cI cJ adx adc adn adt ((gx.1, gx.2.1, gx.2.2.1, gx.2.2.2.1, x4_42, gx.2.2.2.2.2)) ++ wCi cI adc gc ++ wSw cI cJ cZ adn gn ++ wSw cI cJ cZ adt ((t0_42, t1_42, t2_42, t3_42, t4_42, t5_42, t6_42, t7_42, t8_42, t9_42))) → va_S A s.heap H locs → lv_has ls 4 [(0, .ref (adx 0)), (1, .int p1), (2, .int l2_42)] → W p l e (headSpec wsX2_ring rmX2_ring).room s m ([.ref (adx 0), .int p1] : List Value).toArray below meth c H locs 0 0 (MQ below (QI D A o.1 (wX cI cJ adx adc adn adt ((gx.1, gx.2.1, gx.2.2.1, gx.2.2.2.1, o.2.1, o.2.2.1, o.2.2.2.1, gx.2.2.2.2.2.2.2)) ++ wCi cI adc gc ++ wSw cI cJ cZ adn gn ++ wSw cI cJ cZ adt o.2.2.2.2)) ([.ref (adx 0), .int p1] : List Value).toArray s 0 0 A) (F0 m 42 ls []) := by
          intro n
          induction n with
          | zero => intro l2_42 x4_42 t0_42 t1_42 t2_42 t3_42 t4_42 t5_42 t6_42 t7_42 t8_42 t9_42 H locs ls hf; cases hf
          | succ n ih42 =>
            intro l2_42 x4_42 t0_42 t1_42 t2_42 t3_42 t4_42 t5_42 t6_42 t7_42 t8_42 t9_42 H locs ls hf hP hD hS hl
            replace hf : f_X2_ring_B42 gx gc p1 (f_X2_ring_L42 gx gc p1 n) l2_42 x4_42 t0_42 t1_42 t2_42 t3_42 t4_42 t5_42 t6_42 t7_42 t8_42 t9_42 = some o := hf
            generalize f_X2_ring_L42 gx gc p1 n = rec42 at ih42 hf
            unfold f_X2_ring_B42 at hf
            refine lv_iload_n hx hb dX2_ring_42 rfl (lv_at hl 2 rfl) ?_
            refine lv_iload_n hx hb dX2_ring_43 rfl (lv_at hl 1 rfl) ?_
            refine lv_icmp_gt (tgt := 96) hx hb dX2_ring_44 (by decide) (fun q6 => ?_) (fun q6 => ?_)
            · replace hf := ifT q6 hf
              refine lv_bipush (v := (-2)) hx hb dX2_ring_96 (by decide) ?_
              obtain rfl := Option.some.inj hf
              exact retI hx hb hr hlocks hP hD hS dX2_ring_98
            · replace hf := ifF q6 hf
              refine lv_aload_n hx hb dX2_ring_47 rfl (lv_at hl 0 rfl) ?_
              refine va_get (D := D) (ci := 2) (v := .ref (adt 0)) (C := RX2) (T := TX2) (N := 17) hx hb hts hinX2 hown hK.1 hP 0 rfl rfl 2 (by decide) hw2 (fun _ h9 => h9) rfl dX2_ring_48 ?_
              refine lv_aload_n hx hb dX2_ring_51 rfl (lv_at hl 0 rfl) ?_
              refine va_get (D := D) (ci := 2) (v := .ref (adc 0)) (C := RX2) (T := TX2) (N := 17) hx hb hts hinX2 hown hK.1 hP 0 rfl rfl 0 (by decide) hw0 (fun _ h9 => h9) rfl dX2_ring_52 ?_
              replace hf := bdE hf
              obtain ⟨r7, hgr7, hf⟩ := hf
              refine xI (w2 := (wX cI cJ adx adc adn adt ((gx.1, gx.2.1, gx.2.2.1, gx.2.2.2.1, x4_42, gx.2.2.2.2.2)) ++ wCi cI adc gc ++ wSw cI cJ cZ adn gn ++ wSw cI cJ cZ adt r7.2)) (wr := (wX cI cJ adx adc adn adt ((gx.1, gx.2.1, gx.2.2.1, gx.2.2.2.1, x4_42, gx.2.2.2.2.2)) ++ wSw cI cJ cZ adn gn)) (va_runV (As := [.ref (adc 0)]) (rest := []) ⟨hx, hb, hml, hown, hts⟩ (c_X1_advance l D cI cJ cZ adt adc ((t0_42, t1_42, t2_42, t3_42, t4_42, t5_42, t6_42, t7_42, t8_42, t9_42)) gc r7 hgr7 _) (cwV 1 hts gX2_ring_X1_advance rfl rfl rfl (by decide +kernel) ⟨Nat.le_of_ble_eq_true rfl, Nat.le_of_ble_eq_true rfl⟩) ⟨PreW.blind, xRecv (q0 := 27) hK hP rfl rfl, (xPre hK hP hD [27, 28, 29, 30, 31, 11, 12, 13, 14, 15, 16, 17, 18, 19, 20, 21] rfl (by decide) _)⟩ rfl rfl hl.1 rfl (lv_room (Nat.le_of_ble_eq_true rfl)) dX2_ring_55 ⟨Nat.le_of_ble_eq_true rfl, Nat.le_of_ble_eq_true rfl⟩) hP hD hS hA [27, 28, 29, 30, 31, 11, 12, 13, 14, 15, 16, 17, 18, 19, 20, 21] [0, 1, 2, 3, 4, 5, 6, 7, 8, 9, 10, 22, 23, 24, 25, 26] [0, 1, 2, 3, 4, 5, 6, 7, 8, 9, 10, 21, 22, 23, 24, 25, 26, 27, 28, 29, 30, 31, 11, 12, 13, 14, 15, 16, 17, 18, 19, 20] rfl rfl (by decide) (by decide) rfl (by decide) (fun H locs hP hD hS => ?_)
              refine lv_if_ne (tgt := 64) hx hb dX2_ring_58 (by decide) (fun q8 => ?_) (fun q8 => ?_)
              · replace hf := ifT q8 hf
                refine lv_aload_n hx hb dX2_ring_64 rfl (lv_at hl 0 rfl) ?_
                refine lv_iload_n hx hb dX2_ring_65 rfl (lv_at hl 2 rfl) ?_
                replace hf := bdE hf
                obtain ⟨r9, hgr9, hf⟩ := hf
                refine xVw (va_runV (As := [.int l2_42]) (rest := []) ⟨hx, hb, hml, hown, hts⟩ (c_X2_writeTrail l D cI cJ cZ adx adc adn adt ((gx.1, gx.2.1, gx.2.2.1, gx.2.2.2.1, x4_42, gx.2.2.2.2.2)) gc gn r7.2 l2_42 r9 hgr9 _) (cwV 1 hts gX2_ring_X2_writeTrail rfl rfl rfl (by decide +kernel) ⟨Nat.le_of_ble_eq_true rfl, Nat.le_of_ble_eq_true rfl⟩) ⟨PreW.blind, xRecv (q0 := 0) hK hP rfl rfl, (xPrew hK hP hD _)⟩ rfl rfl hl.1 rfl (lv_room (Nat.le_of_ble_eq_true rfl)) dX2_ring_66 ⟨Nat.le_of_ble_eq_true rfl, Nat.le_of_ble_eq_true rfl⟩) hD hS hA (fun H locs hP hD hS => ?_)
                replace hP : va_P D vwCl (wX cI cJ adx adc adn adt ((gx.1, gx.2.1, gx.2.2.1, gx.2.2.2.1, r9, gx.2.2.2.2.2)) ++ wCi cI adc gc ++ wSw cI cJ cZ adn gn ++ wSw cI cJ cZ adt r7.2) H := hP
                replace hD : va_D A (wX cI cJ adx adc adn adt ((gx.1, gx.2.1, gx.2.2.1, gx.2.2.2.1, r9, gx.2.2.2.2.2)) ++ wCi cI adc gc ++ wSw cI cJ cZ adn gn ++ wSw cI cJ cZ adt r7.2) := hD
                refine lv_aload_n hx hb dX2_ring_69 rfl (lv_at hl 0 rfl) ?_
                refine lv_iload_n hx hb dX2_ring_70 rfl (lv_at hl 2 rfl) ?_
                replace hf := bdE hf
                obtain ⟨r10, hgr10, hf⟩ := hf
                refine xIw (va_runV (As := [.int l2_42]) (rest := []) ⟨hx, hb, hml, hown, hts⟩ (c_X2_sameAhead l D cI cJ cZ adx adc adn adt ((gx.1, gx.2.1, gx.2.2.1, gx.2.2.2.1, r9, gx.2.2.2.2.2)) gc gn r7.2 l2_42 r10 hgr10 _) (cwV 1 hts gX2_ring_X2_sameAhead rfl rfl rfl (by decide +kernel) ⟨Nat.le_of_ble_eq_true rfl, Nat.le_of_ble_eq_true rfl⟩) ⟨PreW.blind, xRecv (q0 := 0) hK hP rfl rfl, (xPrew hK hP hD _)⟩ rfl rfl hl.1 rfl (lv_room (Nat.le_of_ble_eq_true rfl)) dX2_ring_71 ⟨Nat.le_of_ble_eq_true rfl, Nat.le_of_ble_eq_true rfl⟩) hD hS hA (fun H locs hP hD hS => ?_)
                replace hP : va_P D vwCl (wX cI cJ adx adc adn adt ((gx.1, gx.2.1, gx.2.2.1, gx.2.2.2.1, r9, gx.2.2.2.2.2)) ++ wCi cI adc gc ++ wSw cI cJ cZ adn gn ++ wSw cI cJ cZ adt r7.2) H := hP
                replace hD : va_D A (wX cI cJ adx adc adn adt ((gx.1, gx.2.1, gx.2.2.1, gx.2.2.2.1, r9, gx.2.2.2.2.2)) ++ wCi cI adc gc ++ wSw cI cJ cZ adn gn ++ wSw cI cJ cZ adt r7.2) := hD
                refine lv_istore_n (lv' := [(3, .int r10), (0, .ref (adx 0)), (1, .int p1), (2, .int l2_42)]) hx hb dX2_ring_74 rfl hl (by decide) rfl (fun ls hl => ?_)
                refine lv_iload_n hx hb dX2_ring_75 rfl (lv_at hl 0 rfl) ?_
                refine lv_iconst (v := (-1)) hx hb dX2_ring_76 (by decide) ?_
                refine lv_icmp_eq (tgt := 90) hx hb dX2_ring_77 (by decide) (fun q11 => ?_) (fun q11 => ?_)
                · replace hf := ifT q11 hf
                  refine lv_iinc (v := l2_42 + 1) (lv' := [(2, .int (l2_42 + 1)), (3, .int r10), (0, .ref (adx 0)), (1, .int p1)]) hx hb dX2_ring_90 hl (k := 3) rfl (by rfl) (by decide) rfl (fun ls hl => ?_)
                  refine lv_goto (tgt := 42) hx hb dX2_ring_93 (by decide) ?_
                  exact ih42 (l2_42 + 1) r9 r7.2.1 r7.2.2.1 r7.2.2.2.1 r7.2.2.2.2.1 r7.2.2.2.2.2.1 r7.2.2.2.2.2.2.1 r7.2.2.2.2.2.2.2.1 r7.2.2.2.2.2.2.2.2.1 r7.2.2.2.2.2.2.2.2.2.1 r7.2.2.2.2.2.2.2.2.2.2 _ _ _ hf hP hD hS (lv_sub hl [2, 3, 0] rfl)
                · replace hf := ifF q11 hf
                  refine lv_aload_n hx hb dX2_ring_80 rfl (lv_at hl 1 rfl) ?_
                  refine lv_iload_n hx hb dX2_ring_81 rfl (lv_at hl 0 rfl) ?_
                  refine lv_iload_n hx hb dX2_ring_82 rfl (lv_at hl 3 rfl) ?_
                  replace hf := bdE hf
                  obtain ⟨r12, hgr12, hf⟩ := hf
                  refine xVw (va_runV (As := [.int r10, .int l2_42]) (rest := []) ⟨hx, hb, hml, hown, hts⟩ (c_X2_keepRing l D cI cJ cZ adx adc adn adt ((gx.1, gx.2.1, gx.2.2.1, gx.2.2.2.1, r9, gx.2.2.2.2.2)) gc gn r7.2 r10 l2_42 r12 hgr12 _) (cwV 2 hts gX2_ring_X2_keepRing rfl rfl rfl (by decide +kernel) ⟨Nat.le_of_ble_eq_true rfl, Nat.le_of_ble_eq_true rfl⟩) ⟨PreW.blind, xRecv (q0 := 0) hK hP rfl rfl, (xPrew hK hP hD _)⟩ rfl rfl hl.1 rfl (lv_room (Nat.le_of_ble_eq_true rfl)) dX2_ring_83 ⟨Nat.le_of_ble_eq_true rfl, Nat.le_of_ble_eq_true rfl⟩) hD hS hA (fun H locs hP hD hS => ?_)
                  replace hP : va_P D vwCl (wX cI cJ adx adc adn adt ((gx.1, gx.2.1, gx.2.2.1, gx.2.2.2.1, r9, r12.1, r12.2, gx.2.2.2.2.2.2.2)) ++ wCi cI adc gc ++ wSw cI cJ cZ adn gn ++ wSw cI cJ cZ adt r7.2) H := hP
                  replace hD : va_D A (wX cI cJ adx adc adn adt ((gx.1, gx.2.1, gx.2.2.1, gx.2.2.2.1, r9, r12.1, r12.2, gx.2.2.2.2.2.2.2)) ++ wCi cI adc gc ++ wSw cI cJ cZ adn gn ++ wSw cI cJ cZ adt r7.2) := hD
                  refine lv_iload_n hx hb dX2_ring_86 rfl (lv_at hl 3 rfl) ?_
                  refine lv_iload_n hx hb dX2_ring_87 rfl (lv_at hl 0 rfl) ?_
                  refine lv_isub hx hb dX2_ring_88 ?_
                  obtain rfl := Option.some.inj hf
                  exact retI hx hb hr hlocks hP hD hS dX2_ring_89
              · replace hf := ifN q8 hf
                refine lv_bipush (v := (-3)) hx hb dX2_ring_61 (by decide) ?_
                obtain rfl := Option.some.inj hf
                exact retI hx hb hr hlocks hP hD hS dX2_ring_63
        exact L42 fuel 1 r5 r4.1 r4.2.1 r4.2.2.1 r4.2.2.2.1 r4.2.2.2.2.1 r4.2.2.2.2.2 gt.2.2.2.2.2.2.1 gt.2.2.2.2.2.2.2.1 gt.2.2.2.2.2.2.2.2.1 gt.2.2.2.2.2.2.2.2.2 _ _ _ hf hP hD hS (lv_sub hl [1, 2, 0] rfl)
      · replace hf := ifN q3 hf
        refine lv_iconst (v := (-1)) hx hb dX2_ring_22 (by decide) ?_
        obtain rfl := Option.some.inj hf
        exact retI hx hb hr hlocks hP hD hS dX2_ring_23

def f_X2_run_B15 (gx : Xo) (gc : Ci) (p1 : Int32) (rec15 : Int32 → Int32 → Ar → Ar → Al → (Nat → Nat) → Int64 → Int64 → Al → Al → Ar → Ar → Int32 → Int32 → Int64 → Int64 → (Nat → Nat) → Int64 → Int64 → Al → Al → Ar → Ar → Int32 → Int32 → Int64 → Int64 → Option (Int32 × Int32 × Ar × Ar × Al × (Nat → Nat) × Int64 × Int64 × Al × Al × Ar × Ar × Int32 × Int32 × Int64 × Int64 × (Nat → Nat) × Int64 × Int64 × Al × Al × Ar × Ar × Int32 × Int32 × Int64 × Int64)) (l2_15 : Int32) (x0_15 : Int32) (x1_15 : Ar) (x2_15 : Ar) (x3_15 : Al) (an_15 : (Nat → Nat)) (n0_15 : Int64) (n1_15 : Int64) (n2_15 : Al) (n3_15 : Al) (n4_15 : Ar) (n5_15 : Ar) (n6_15 : Int32) (n7_15 : Int32) (n8_15 : Int64) (n9_15 : Int64) (at_15 : (Nat → Nat)) (t0_15 : Int64) (t1_15 : Int64) (t2_15 : Al) (t3_15 : Al) (t4_15 : Ar) (t5_15 : Ar) (t6_15 : Int32) (t7_15 : Int32) (t8_15 : Int64) (t9_15 : Int64) : Option (Int32 × Int32 × Ar × Ar × Al × (Nat → Nat) × Int64 × Int64 × Al × Al × Ar × Ar × Int32 × Int32 × Int64 × Int64 × (Nat → Nat) × Int64 × Int64 × Al × Al × Ar × Ar × Int32 × Int32 × Int64 × Int64) :=
if p1 ≤ l2_15 then
some (p1, x0_15, x1_15, x2_15, x3_15, an_15, n0_15, n1_15, n2_15, n3_15, n4_15, n5_15, n6_15, n7_15, n8_15, n9_15, at_15, t0_15, t1_15, t2_15, t3_15, t4_15, t5_15, t6_15, t7_15, t8_15, t9_15)
else
(f_X1_copyFrom ((t0_15, t1_15, t2_15, t3_15, t4_15, t5_15, t6_15, t7_15, t8_15, t9_15)) ((n0_15, n1_15, n2_15, n3_15, n4_15, n5_15, n6_15, n7_15, n8_15, n9_15))).bind (fun r4 =>
(f_X1_advance ((r4.1, r4.2.1, r4.2.2.1, r4.2.2.2.1, r4.2.2.2.2.1, r4.2.2.2.2.2, t6_15, t7_15, t8_15, t9_15)) gc).bind (fun r5 =>
if ¬ (b2i r5.1) = 0 then
(f_X2_noteEvent ((x0_15, x1_15, x2_15, x3_15, gx.2.2.2.2)) r5.2).bind (fun r7 =>
rec15 (l2_15 + 1) r7.1 r7.2.1 r7.2.2.1 r7.2.2.2 at_15 r5.2.1 r5.2.2.1 r5.2.2.2.1 r5.2.2.2.2.1 r5.2.2.2.2.2.1 r5.2.2.2.2.2.2.1 r5.2.2.2.2.2.2.2.1 r5.2.2.2.2.2.2.2.2.1 r5.2.2.2.2.2.2.2.2.2.1 r5.2.2.2.2.2.2.2.2.2.2 an_15 n0_15 n1_15 n2_15 n3_15 n4_15 n5_15 n6_15 n7_15 n8_15 n9_15)
else
some (l2_15, x0_15, x1_15, x2_15, x3_15, an_15, n0_15, n1_15, n2_15, n3_15, n4_15, n5_15, n6_15, n7_15, n8_15, n9_15, at_15, r5.2.1, r5.2.2.1, r5.2.2.2.1, r5.2.2.2.2.1, r5.2.2.2.2.2.1, r5.2.2.2.2.2.2.1, r5.2.2.2.2.2.2.2.1, r5.2.2.2.2.2.2.2.2.1, r5.2.2.2.2.2.2.2.2.2.1, r5.2.2.2.2.2.2.2.2.2.2)))
def f_X2_run_L15 (gx : Xo) (gc : Ci) (p1 : Int32) : Nat → Int32 → Int32 → Ar → Ar → Al → (Nat → Nat) → Int64 → Int64 → Al → Al → Ar → Ar → Int32 → Int32 → Int64 → Int64 → (Nat → Nat) → Int64 → Int64 → Al → Al → Ar → Ar → Int32 → Int32 → Int64 → Int64 → Option (Int32 × Int32 × Ar × Ar × Al × (Nat → Nat) × Int64 × Int64 × Al × Al × Ar × Ar × Int32 × Int32 × Int64 × Int64 × (Nat → Nat) × Int64 × Int64 × Al × Al × Ar × Ar × Int32 × Int32 × Int64 × Int64)
  | 0 => fun _ _ _ _ _ _ _ _ _ _ _ _ _ _ _ _ _ _ _ _ _ _ _ _ _ _ _ => none
  | n + 1 => f_X2_run_B15 gx gc p1 (f_X2_run_L15 gx gc p1 n)
def f_X2_run (adn : (Nat → Nat)) (adt : (Nat → Nat)) (gx : Xo) (gc : Ci) (gn : Sw) (gt : Sw) (p1 : Int32) : Option (Int32 × Int32 × Ar × Ar × Al × (Nat → Nat) × Int64 × Int64 × Al × Al × Ar × Ar × Int32 × Int32 × Int64 × Int64 × (Nat → Nat) × Int64 × Int64 × Al × Al × Ar × Ar × Int32 × Int32 × Int64 × Int64) :=
if p1 < 0 then
some ((-1), gx.1, gx.2.1, gx.2.2.1, gx.2.2.2.1, adn, gn.1, gn.2.1, gn.2.2.1, gn.2.2.2.1, gn.2.2.2.2.1, gn.2.2.2.2.2.1, gn.2.2.2.2.2.2.1, gn.2.2.2.2.2.2.2.1, gn.2.2.2.2.2.2.2.2.1, gn.2.2.2.2.2.2.2.2.2, adt, gt.1, gt.2.1, gt.2.2.1, gt.2.2.2.1, gt.2.2.2.2.1, gt.2.2.2.2.2.1, gt.2.2.2.2.2.2.1, gt.2.2.2.2.2.2.2.1, gt.2.2.2.2.2.2.2.2.1, gt.2.2.2.2.2.2.2.2.2)
else
if p1 ≤ 500 then
f_X2_run_L15 gx gc p1 fuel 0 gx.1 gx.2.1 gx.2.2.1 gx.2.2.2.1 adn gn.1 gn.2.1 gn.2.2.1 gn.2.2.2.1 gn.2.2.2.2.1 gn.2.2.2.2.2.1 gn.2.2.2.2.2.2.1 gn.2.2.2.2.2.2.2.1 gn.2.2.2.2.2.2.2.2.1 gn.2.2.2.2.2.2.2.2.2 adt gt.1 gt.2.1 gt.2.2.1 gt.2.2.2.1 gt.2.2.2.2.1 gt.2.2.2.2.2.1 gt.2.2.2.2.2.2.1 gt.2.2.2.2.2.2.2.1 gt.2.2.2.2.2.2.2.2.1 gt.2.2.2.2.2.2.2.2.2
else
some ((-1), gx.1, gx.2.1, gx.2.2.1, gx.2.2.2.1, adn, gn.1, gn.2.1, gn.2.2.1, gn.2.2.2.1, gn.2.2.2.2.1, gn.2.2.2.2.2.1, gn.2.2.2.2.2.2.1, gn.2.2.2.2.2.2.2.1, gn.2.2.2.2.2.2.2.2.1, gn.2.2.2.2.2.2.2.2.2, adt, gt.1, gt.2.1, gt.2.2.1, gt.2.2.2.1, gt.2.2.2.2.1, gt.2.2.2.2.2.1, gt.2.2.2.2.2.2.1, gt.2.2.2.2.2.2.2.1, gt.2.2.2.2.2.2.2.2.1, gt.2.2.2.2.2.2.2.2.2)
abbrev rmX2_run : Room := { frames := 4, cells := 0, slots := 0, locals := 88 }
set_option maxHeartbeats 40000000 in
set_option maxRecDepth 100000 in
theorem c_X2_run (l : Launch) (D : va_G) (cI cJ cZ : ClassId) (adx : Nat → Nat) (adc : Nat → Nat) (adn : Nat → Nat) (adt : Nat → Nat) (gx : Xo) (gc : Ci) (gn : Sw) (gt : Sw) (p1 : Int32) (o : (Int32 × Int32 × Ar × Ar × Al × (Nat → Nat) × Int64 × Int64 × Al × Al × Ar × Ar × Int32 × Int32 × Int64 × Int64 × (Nat → Nat) × Int64 × Int64 × Al × Al × Ar × Ar × Int32 × Int32 × Int64 × Int64)) (hf : f_X2_run adn adt gx gc gn gt p1 = some o) : CtI l yX2_run wsX2_run rmX2_run D cI cJ cZ [.ref (adx 0), .int p1] (wX cI cJ adx adc adn adt gx ++ wCi cI adc gc ++ wSw cI cJ cZ adn gn ++ wSw cI cJ cZ adt gt) (wX cI cJ adx adc o.2.2.2.2.2.1 o.2.2.2.2.2.2.2.2.2.2.2.2.2.2.2.2.1 ((o.2.1, o.2.2.1, o.2.2.2.1, o.2.2.2.2.1, gx.2.2.2.2)) ++ wCi cI adc gc ++ wSw cI cJ cZ o.2.2.2.2.2.1 ((o.2.2.2.2.2.2.1, o.2.2.2.2.2.2.2.1, o.2.2.2.2.2.2.2.2.1, o.2.2.2.2.2.2.2.2.2.1, o.2.2.2.2.2.2.2.2.2.2.1, o.2.2.2.2.2.2.2.2.2.2.2.1, o.2.2.2.2.2.2.2.2.2.2.2.2.1, o.2.2.2.2.2.2.2.2.2.2.2.2.2.1, o.2.2.2.2.2.2.2.2.2.2.2.2.2.2.1, o.2.2.2.2.2.2.2.2.2.2.2.2.2.2.2.1)) ++ wSw cI cJ cZ o.2.2.2.2.2.2.2.2.2.2.2.2.2.2.2.2.1 o.2.2.2.2.2.2.2.2.2.2.2.2.2.2.2.2.2) o.1 := by
  intro sz
  refine Met.ofW (cc := cX2_run) (maxL := 4) (ret := (some .int)) (by decide) rfl ?_
  intro p e s m args below meth c s₁ B hml hv
  obtain ⟨rfl, hsz, hP, hK, hD0⟩ := hv
  have hx := B.exec
  have hb := B.bytes
  have hr := B.returns
  have hts := atoms_spec (ws := wsX2_run) B.pre
  have hown : s.vm.findClass RX2 = some m.cls := findClass_of_methodNamed B.named
  have hlocks := B.notSynchronized
  subst hsz
  have hD := hD0.self (sz := s.heap.size)
  clear hD0
  generalize hAe : va_A (wX cI cJ adx adc adn adt gx ++ wCi cI adc gc ++ wSw cI cJ cZ adn gn ++ wSw cI cJ cZ adt gt) s.heap.size = A at hD ⊢
  have hA : ∀ q : Nat, s.heap.size ≤ q → A q := fun q h => by rw [← hAe]; exact Or.inr h
  have hS : va_S A s.heap s.heap [] := va_S.rf
  have hinX2 : ∀ w ∈ wsX20, w ∈ wsX2_run := by decide +kernel
  have hw0 : (Cond.fieldLink RX2 23 "SwingCircuits" "trial" "LSwingCircuits$Swing;").before _ s = true := hts _ (by decide +kernel)
  have hw1 : (Cond.fieldLink RX2 19 "SwingCircuits" "now" "LSwingCircuits$Swing;").before _ s = true := hts _ (by decide +kernel)
  have hw2 : (Cond.fieldLink RX2 12 "SwingCircuits" "circuit" "LSwingCircuits$Circuit;").before _ s = true := hts _ (by decide +kernel)
  have hl := lv_entry ([.ref (adx 0), .int p1]) (n := 4) (Nat.le_of_ble_eq_true rfl)
  rw [lg_entry_eq]
  generalize (lg_sl ([.ref (adx 0), .int p1]) ++ List.replicate (4 - (lg_sl ([.ref (adx 0), .int p1])).length) Slot.unset).toArray = ls at hl ⊢
  replace hl : lv_has ls 4 [(0, .ref (adx 0)), (1, .int p1)] := hl
  unfold f_X2_run at hf
  refine lv_iload_n hx hb dX2_run_0 rfl (lv_at hl 1 rfl) ?_
  refine lv_if_lt (tgt := 11) hx hb dX2_run_1 (by decide) (fun q1 => ?_) (fun q1 => ?_)
  · replace hf := ifT q1 hf
    refine lv_iconst (v := (-1)) hx hb dX2_run_11 (by decide) ?_
    obtain rfl := Option.some.inj hf
    exact retI hx hb hr hlocks hP hD hS dX2_run_12
  · replace hf := ifF q1 hf
    refine lv_iload_n hx hb dX2_run_4 rfl (lv_at hl 1 rfl) ?_
    refine lv_sipush (v := 500) hx hb dX2_run_5 (by decide) ?_
    refine lv_icmp_le (tgt := 13) hx hb dX2_run_8 (by decide) (fun q2 => ?_) (fun q2 => ?_)
    · replace hf := ifT q2 hf
      refine lv_iconst (v := 0) hx hb dX2_run_13 (by decide) ?_
      refine lv_istore_n (lv' := [(2, .int 0), (0, .ref (adx 0)), (1, .int p1)]) hx hb dX2_run_14 rfl hl (by decide) rfl (fun ls hl => ?_)
      have L15 : ∀ (n : Nat) (l2_15 : Int32) (x0_15 : Int32) (x1_15 : Ar) (x2_15 : Ar) (x3_15 : Al) (an_15 : (Nat → Nat)) (n0_15 : Int64) (n1_15 : Int64) (n2_15 : Al) (n3_15 : Al) (n4_15 : Ar) (n5_15 : Ar) (n6_15 : Int32) (n7_15 : Int32) (n8_15 : Int64) (n9_15 : Int64) (at_15 : (Nat → Nat)) (t0_15 : Int64) (t1_15 : Int64) (t2_15 : Al) (t3_15 : Al) (t4_15 : Ar) (t5_15 : Ar) (t6_15 : Int32) (t7_15 : Int32) (t8_15 : Int64) (t9_15 : Int64) (H : Heap) (locs : List Loc) (ls : Array Slot), f_X2_run_L15 gx gc p1 n l2_15 x0_15 x1_15 x2_15 x3_15 an_15 n0_15 n1_15 n2_15 n3_15 n4_15 n5_15 n6_15 n7_15 n8_15 n9_15 at_15 t0_15 t1_15 t2_15 t3_15 t4_15 t5_15 t6_15 t7_15 t8_15 t9_15 = some o → va_P D vwCl (wX cI cJ adx adc an_15 at_15 ((x0_15, x1_15, x2_15, x3_15, gx.2.2.2.2)) ++ wCi cI adc gc ++ wSw cI cJ cZ an_15 ((n0_15, n1_15, n2_15, n3_15, n4_15, n5_15, n6_15, n7_15, n8_15, n9_15)) ++ wSw cI cJ cZ at_15 ((t0_15, t1_15, t2_15, t3_15, t4_15, t5_15, t6_15, t7_15, t8_15, t9_15))) H → va_D A (wX cI cJ adx adc an_15 at_15 ((x0_15, x1_15, x2_15, x3_15, gx.2.2.2.2)) ++ wCi cI adc gc ++ wSw cI cJ cZ an_15 ((n0_15, n1_15, n2_15, n3_15, n4_15, n5_15, n6_15, n7_15, n8_15, n9_15)) ++ wSw cI cJ cZ at_15 ((t0_15, t1_15, t2_15, t3_15, t4_15, t5_15, t6_15, t7_15, t8_15, t9_15))) → va_S A s.heap H locs → lv_has ls 4 [(0, .ref (adx 0)), (1, .int p1), (2, .int l2_15)] → W p l e (headSpec wsX2_run rmX2_run).room s m ([.ref (adx 0), .int p1] : List Value).toArray below meth c H locs 0 0 (MQ below (QI D A o.1 (wX cI cJ adx adc o.2.2.2.2.2.1 o.2.2.2.2.2.2.2.2.2.2.2.2.2.2.2.2.1 ((o.2.1, o.2.2.1, o.2.2.2.1, o.2.2.2.2.1, gx.2.2.2.2)) ++ wCi cI adc gc ++ wSw cI cJ cZ o.2.2.2.2.2.1 ((o.2.2.2.2.2.2.1, o.2.2.2.2.2.2.2.1, o.2.2.2.2.2.2.2.2.1, o.2.2.2.2.2.2.2.2.2.1, o.2.2.2.2.2.2.2.2.2.2.1, o.2.2.2.2.2.2.2.2.2.2.2.1, o.2.2.2.2.2.2.2.2.2.2.2.2.1, o.2.2.2.2.2.2.2.2.2.2.2.2.2.1, o.2.2.2.2.2.2.2.2.2.2.2.2.2.2.1, o.2.2.2.2.2.2.2.2.2.2.2.2.2.2.2.1)) ++ wSw cI cJ cZ o.2.2.2.2.2.2.2.2.2.2.2.2.2.2.2.2.1 o.2.2.2.2.2.2.2.2.2.2.2.2.2.2.2.2.2)) ([.ref (adx 0), .int p1] : List Value).toArray s 0 0 A) (F0 m 15 ls []) := by
        intro n
        induction n with
        | zero => intro l2_15 x0_15 x1_15 x2_15 x3_15 an_15 n0_15 n1_15 n2_15 n3_15 n4_15 n5_15 n6_15 n7_15 n8_15 n9_15 at_15 t0_15 t1_15 t2_15 t3_15 t4_15 t5_15 t6_15 t7_15 t8_15 t9_15 H locs ls hf; cases hf
        | succ n ih15 =>
          intro l2_15 x0_15 x1_15 x2_15 x3_15 an_15 n0_15 n1_15 n2_15 n3_15 n4_15 n5_15 n6_15 n7_15 n8_15 n9_15 at_15 t0_15 t1_15 t2_15 t3_15 t4_15 t5_15 t6_15 t7_15 t8_15 t9_15 H locs ls hf hP hD hS hl
          replace hf : f_X2_run_B15 gx gc p1 (f_X2_run_L15 gx gc p1 n) l2_15 x0_15 x1_15 x2_15 x3_15 an_15 n0_15 n1_15 n2_15 n3_15 n4_15 n5_15 n6_15 n7_15 n8_15 n9_15 at_15 t0_15 t1_15 t2_15 t3_15 t4_15 t5_15 t6_15 t7_15 t8_15 t9_15 = some o := hf
          generalize f_X2_run_L15 gx gc p1 n = rec15 at ih15 hf
          unfold f_X2_run_B15 at hf
          refine lv_iload_n hx hb dX2_run_15 rfl (lv_at hl 2 rfl) ?_
          refine lv_iload_n hx hb dX2_run_16 rfl (lv_at hl 1 rfl) ?_
          refine lv_icmp_ge (tgt := 75) hx hb dX2_run_17 (by decide) (fun q3 => ?_) (fun q3 => ?_)
          · replace hf := ifT q3 hf
            refine lv_iload_n hx hb dX2_run_75 rfl (lv_at hl 1 rfl) ?_
            obtain rfl := Option.some.inj hf
            exact retI hx hb hr hlocks hP hD hS dX2_run_76
          · replace hf := ifF q3 hf
            refine lv_aload_n hx hb dX2_run_20 rfl (lv_at hl 0 rfl) ?_
            refine va_get (D := D) (ci := 2) (v := .ref (at_15 0)) (C := RX2) (T := TX2) (N := 17) hx hb hts hinX2 hown hK.1 hP 0 rfl rfl 2 (by decide) hw0 (fun _ h9 => h9) rfl dX2_run_21 ?_
            refine lv_aload_n hx hb dX2_run_24 rfl (lv_at hl 0 rfl) ?_
            refine va_get (D := D) (ci := 2) (v := .ref (an_15 0)) (C := RX2) (T := TX2) (N := 17) hx hb hts hinX2 hown hK.1 hP 0 rfl rfl 1 (by decide) hw1 (fun _ h9 => h9) rfl dX2_run_25 ?_
            replace hf := bdE hf
            obtain ⟨r4, hgr4, hf⟩ := hf
            refine xV (w2 := (wX cI cJ adx adc an_15 at_15 ((x0_15, x1_15, x2_15, x3_15, gx.2.2.2.2)) ++ wCi cI adc gc ++ wSw cI cJ cZ an_15 ((n0_15, n1_15, n2_15, n3_15, n4_15, n5_15, n6_15, n7_15, n8_15, n9_15)) ++ wSw cI cJ cZ at_15 ((r4.1, r4.2.1, r4.2.2.1, r4.2.2.2.1, r4.2.2.2.2.1, r4.2.2.2.2.2, t6_15, t7_15, t8_15, t9_15)))) (wr := (wX cI cJ adx adc an_15 at_15 ((x0_15, x1_15, x2_15, x3_15, gx.2.2.2.2)) ++ wCi cI adc gc)) (va_runV (As := [.ref (an_15 0)]) (rest := []) ⟨hx, hb, hml, hown, hts⟩ (c_X1_copyFrom l D cI cJ cZ at_15 an_15 ((t0_15, t1_15, t2_15, t3_15, t4_15, t5_15, t6_15, t7_15, t8_15, t9_15)) ((n0_15, n1_15, n2_15, n3_15, n4_15, n5_15, n6_15, n7_15, n8_15, n9_15)) r4 hgr4 _) (cwV 1 hts gX2_run_X1_copyFrom rfl rfl rfl (by decide +kernel) ⟨Nat.le_of_ble_eq_true rfl, Nat.le_of_ble_eq_true rfl⟩) ⟨PreW.blind, xRecv (q0 := 27) hK hP rfl rfl, (xPre hK hP hD [27, 28, 29, 30, 31, 22, 23, 24, 25, 26] rfl (by decide) _)⟩ rfl rfl hl.1 rfl (lv_room (Nat.le_of_ble_eq_true rfl)) dX2_run_28 ⟨Nat.le_of_ble_eq_true rfl, Nat.le_of_ble_eq_true rfl⟩) hP hD hS hA [27, 28, 29, 30, 31, 22, 23, 24, 25, 26] [0, 1, 2, 3, 4, 5, 6, 7, 8, 9, 10, 11, 12, 13, 14, 15, 16, 17, 18, 19, 20, 21] [0, 1, 2, 3, 4, 5, 6, 7, 8, 9, 10, 11, 12, 13, 14, 15, 16, 17, 18, 19, 20, 21, 27, 28, 29, 30, 31, 22, 23, 24, 25, 26] rfl rfl (by decide) (by decide) rfl (by decide) (fun H locs hP hD hS => ?_)
            refine lv_aload_n hx hb dX2_run_31 rfl (lv_at hl 0 rfl) ?_
            refine va_get (D := D) (ci := 2) (v := .ref (at_15 0)) (C := RX2) (T := TX2) (N := 17) hx hb hts hinX2 hown hK.1 hP 0 rfl rfl 2 (by decide) hw0 (fun _ h9 => h9) rfl dX2_run_32 ?_
            refine lv_aload_n hx hb dX2_run_35 rfl (lv_at hl 0 rfl) ?_
            refine va_get (D := D) (ci := 2) (v := .ref (adc 0)) (C := RX2) (T := TX2) (N := 17) hx hb hts hinX2 hown hK.1 hP 0 rfl rfl 0 (by decide) hw2 (fun _ h9 => h9) rfl dX2_run_36 ?_
            replace hf := bdE hf
            obtain ⟨r5, hgr5, hf⟩ := hf
            refine xI (w2 := (wX cI cJ adx adc an_15 at_15 ((x0_15, x1_15, x2_15, x3_15, gx.2.2.2.2)) ++ wCi cI adc gc ++ wSw cI cJ cZ an_15 ((n0_15, n1_15, n2_15, n3_15, n4_15, n5_15, n6_15, n7_15, n8_15, n9_15)) ++ wSw cI cJ cZ at_15 r5.2)) (wr := (wX cI cJ adx adc an_15 at_15 ((x0_15, x1_15, x2_15, x3_15, gx.2.2.2.2)) ++ wSw cI cJ cZ an_15 ((n0_15, n1_15, n2_15, n3_15, n4_15, n5_15, n6_15, n7_15, n8_15, n9_15)))) (va_runV (As := [.ref (adc 0)]) (rest := []) ⟨hx, hb, hml, hown, hts⟩ (c_X1_advance l D cI cJ cZ at_15 adc ((r4.1, r4.2.1, r4.2.2.1, r4.2.2.2.1, r4.2.2.2.2.1, r4.2.2.2.2.2, t6_15, t7_15, t8_15, t9_15)) gc r5 hgr5 _) (cwV 1 hts gX2_run_X1_advance rfl rfl rfl (by decide +kernel) ⟨Nat.le_of_ble_eq_true rfl, Nat.le_of_ble_eq_true rfl⟩) ⟨PreW.blind, xRecv (q0 := 27) hK hP rfl rfl, (xPre hK hP hD [27, 28, 29, 30, 31, 11, 12, 13, 14, 15, 16, 17, 18, 19, 20, 21] rfl (by decide) _)⟩ rfl rfl hl.1 rfl (lv_room (Nat.le_of_ble_eq_true rfl)) dX2_run_39 ⟨Nat.le_of_ble_eq_true rfl, Nat.le_of_ble_eq_true rfl⟩) hP hD hS hA [27, 28, 29, 30, 31, 11, 12, 13, 14, 15, 16, 17, 18, 19, 20, 21] [0, 1, 2, 3, 4, 5, 6, 7, 8, 9, 10, 22, 23, 24, 25, 26] [0, 1, 2, 3, 4, 5, 6, 7, 8, 9, 10, 21, 22, 23, 24, 25, 26, 27, 28, 29, 30, 31, 11, 12, 13, 14, 15, 16, 17, 18, 19, 20] rfl rfl (by decide) (by decide) rfl (by decide) (fun H locs hP hD hS => ?_)
            refine lv_if_ne (tgt := 47) hx hb dX2_run_42 (by decide) (fun q6 => ?_) (fun q6 => ?_)
            · replace hf := ifT q6 hf
              refine lv_aload_n hx hb dX2_run_47 rfl (lv_at hl 0 rfl) ?_
              refine va_get (D := D) (ci := 2) (v := .ref (an_15 0)) (C := RX2) (T := TX2) (N := 17) hx hb hts hinX2 hown hK.1 hP 0 rfl rfl 1 (by decide) hw1 (fun _ h9 => h9) rfl dX2_run_48 ?_
              refine lv_astore_n (lv' := [(3, .ref (an_15 0)), (0, .ref (adx 0)), (1, .int p1), (2, .int l2_15)]) hx hb dX2_run_51 rfl hl (by decide) rfl (fun ls hl => ?_)
              refine lv_aload_n hx hb dX2_run_52 rfl (lv_at hl 1 rfl) ?_
              refine lv_aload_n hx hb dX2_run_53 rfl (lv_at hl 1 rfl) ?_
              refine va_get (D := D) (ci := 2) (v := .ref (at_15 0)) (C := RX2) (T := TX2) (N := 17) hx hb hts hinX2 hown hK.1 hP 0 rfl rfl 2 (by decide) hw0 (fun _ h9 => h9) rfl dX2_run_54 ?_
              refine va_put (D := D) (ci := 2) (v := .ref (at_15 0)) (ty := .object "SwingCircuits$Swing") (C := RX2) (T := TX2) (N := 17) hx hb hts hinX2 tyX2 tyX2_ok nmX2 hown hK.1 hP hD hS 0 rfl rfl 1 (by decide) hw1 (fun _ h9 => h9) rfl (by decide +kernel) rfl rfl (Nat.le_of_ble_eq_true rfl) dX2_run_57 (fun H locs hP hD hS => ?_)
              replace hP : va_P D vwCl (wX cI cJ adx adc at_15 at_15 ((x0_15, x1_15, x2_15, x3_15, gx.2.2.2.2)) ++ wCi cI adc gc ++ wSw cI cJ cZ an_15 ((n0_15, n1_15, n2_15, n3_15, n4_15, n5_15, n6_15, n7_15, n8_15, n9_15)) ++ wSw cI cJ cZ at_15 r5.2) H := hP
              replace hD : va_D A (wX cI cJ adx adc at_15 at_15 ((x0_15, x1_15, x2_15, x3_15, gx.2.2.2.2)) ++ wCi cI adc gc ++ wSw cI cJ cZ an_15 ((n0_15, n1_15, n2_15, n3_15, n4_15, n5_15, n6_15, n7_15, n8_15, n9_15)) ++ wSw cI cJ cZ at_15 r5.2) := hD
              refine lv_aload_n hx hb dX2_run_60 rfl (lv_at hl 1 rfl) ?_
              refine lv_aload_n hx hb dX2_run_61 rfl (lv_at hl 0 rfl) ?_
              refine va_put (D := D) (ci := 2) (v := .ref (an_15 0)) (ty := .object "SwingCircuits$Swing") (C := RX2) (T := TX2) (N := 17) hx hb hts hinX2 tyX2 tyX2_ok nmX2 hown hK.1 hP hD hS 0 rfl rfl 2 (by decide) hw0 (fun _ h9 => h9) rfl (by decide +kernel) rfl rfl (Nat.le_of_ble_eq_true rfl) dX2_run_62 (fun H locs hP hD hS => ?_)
              replace hP : va_P D vwCl (wX cI cJ adx adc at_15 an_15 ((x0_15, x1_15, x2_15, x3_15, gx.2.2.2.2)) ++ wCi cI adc gc ++ wSw cI cJ cZ an_15 ((n0_15, n1_15, n2_15, n3_15, n4_15, n5_15, n6_15, n7_15, n8_15, n9_15)) ++ wSw cI cJ cZ at_15 r5.2) H := hP
              replace hD : va_D A (wX cI cJ adx adc at_15 an_15 ((x0_15, x1_15, x2_15, x3_15, gx.2.2.2.2)) ++ wCi cI adc gc ++ wSw cI cJ cZ an_15 ((n0_15, n1_15, n2_15, n3_15, n4_15, n5_15, n6_15, n7_15, n8_15, n9_15)) ++ wSw cI cJ cZ at_15 r5.2) := hD
              refine lv_aload_n hx hb dX2_run_65 rfl (lv_at hl 1 rfl) ?_
              replace hf := bdE hf
              obtain ⟨r7, hgr7, hf⟩ := hf
              refine xV (w2 := (wX cI cJ adx adc at_15 an_15 ((r7.1, r7.2.1, r7.2.2.1, r7.2.2.2, gx.2.2.2.2)) ++ wCi cI adc gc ++ wSw cI cJ cZ an_15 ((n0_15, n1_15, n2_15, n3_15, n4_15, n5_15, n6_15, n7_15, n8_15, n9_15)) ++ wSw cI cJ cZ at_15 r5.2)) (wr := []) (va_runV (As := []) (rest := []) ⟨hx, hb, hml, hown, hts⟩ (c_X2_noteEvent l D cI cJ cZ adx adc at_15 an_15 ((x0_15, x1_15, x2_15, x3_15, gx.2.2.2.2)) gc r5.2 ((n0_15, n1_15, n2_15, n3_15, n4_15, n5_15, n6_15, n7_15, n8_15, n9_15)) r7 hgr7 _) (cwV 0 hts gX2_run_X2_noteEvent rfl rfl rfl (by decide +kernel) ⟨Nat.le_of_ble_eq_true rfl, Nat.le_of_ble_eq_true rfl⟩) ⟨PreW.blind, xRecv (q0 := 0) hK hP rfl rfl, (xPre hK hP hD [0, 1, 2, 3, 4, 5, 6, 7, 8, 9, 10, 11, 12, 13, 14, 15, 16, 17, 18, 19, 20, 21, 27, 28, 29, 30, 31, 22, 23, 24, 25, 26] rfl (by decide) _)⟩ rfl rfl hl.1 rfl (lv_room (Nat.le_of_ble_eq_true rfl)) dX2_run_66 ⟨Nat.le_of_ble_eq_true rfl, Nat.le_of_ble_eq_true rfl⟩) hP hD hS hA [0, 1, 2, 3, 4, 5, 6, 7, 8, 9, 10, 11, 12, 13, 14, 15, 16, 17, 18, 19, 20, 21, 27, 28, 29, 30, 31, 22, 23, 24, 25, 26] [] [0, 1, 2, 3, 4, 5, 6, 7, 8, 9, 10, 11, 12, 13, 14, 15, 16, 17, 18, 19, 20, 21, 27, 28, 29, 30, 31, 22, 23, 24, 25, 26] rfl rfl (by decide) (by decide) rfl (by decide) (fun H locs hP hD hS => ?_)
              refine lv_iinc (v := l2_15 + 1) (lv' := [(2, .int (l2_15 + 1)), (3, .ref (an_15 0)), (0, .ref (adx 0)), (1, .int p1)]) hx hb dX2_run_69 hl (k := 3) rfl (by rfl) (by decide) rfl (fun ls hl => ?_)
              refine lv_goto (tgt := 15) hx hb dX2_run_72 (by decide) ?_
              replace hP : va_P D vwCl (wX cI cJ adx adc at_15 an_15 ((r7.1, r7.2.1, r7.2.2.1, r7.2.2.2, gx.2.2.2.2)) ++ wCi cI adc gc ++ wSw cI cJ cZ at_15 r5.2 ++ wSw cI cJ cZ an_15 ((n0_15, n1_15, n2_15, n3_15, n4_15, n5_15, n6_15, n7_15, n8_15, n9_15))) H := P_subm hP [0, 1, 2, 3, 4, 5, 6, 7, 8, 9, 10, 11, 12, 13, 14, 15, 16, 17, 18, 19, 20, 21, 27, 28, 29, 30, 31, 22, 23, 24, 25, 26] rfl
              replace hD : va_D A (wX cI cJ adx adc at_15 an_15 ((r7.1, r7.2.1, r7.2.2.1, r7.2.2.2, gx.2.2.2.2)) ++ wCi cI adc gc ++ wSw cI cJ cZ at_15 r5.2 ++ wSw cI cJ cZ an_15 ((n0_15, n1_15, n2_15, n3_15, n4_15, n5_15, n6_15, n7_15, n8_15, n9_15))) := hD.sub [0, 1, 2, 3, 4, 5, 6, 7, 8, 9, 10, 11, 12, 13, 14, 15, 16, 17, 18, 19, 20, 21, 27, 28, 29, 30, 31, 22, 23, 24, 25, 26] (by decide) rfl
              exact ih15 (l2_15 + 1) r7.1 r7.2.1 r7.2.2.1 r7.2.2.2 at_15 r5.2.1 r5.2.2.1 r5.2.2.2.1 r5.2.2.2.2.1 r5.2.2.2.2.2.1 r5.2.2.2.2.2.2.1 r5.2.2.2.2.2.2.2.1 r5.2.2.2.2.2.2.2.2.1 r5.2.2.2.2.2.2.2.2.2.1 r5.2.2.2.2.2.2.2.2.2.2 an_15 n0_15 n1_15 n2_15 n3_15 n4_15 n5_15 n6_15 n7_15 n8_15 n9_15 _ _ _ hf hP hD hS (lv_sub hl [2, 3, 0] rfl)
            · replace hf := ifN q6 hf
              refine lv_iload_n hx hb dX2_run_45 rfl (lv_at hl 2 rfl) ?_
              obtain rfl := Option.some.inj hf
              exact retI hx hb hr hlocks hP hD hS dX2_run_46
      exact L15 fuel 0 gx.1 gx.2.1 gx.2.2.1 gx.2.2.2.1 adn gn.1 gn.2.1 gn.2.2.1 gn.2.2.2.1 gn.2.2.2.2.1 gn.2.2.2.2.2.1 gn.2.2.2.2.2.2.1 gn.2.2.2.2.2.2.2.1 gn.2.2.2.2.2.2.2.2.1 gn.2.2.2.2.2.2.2.2.2 adt gt.1 gt.2.1 gt.2.2.1 gt.2.2.2.1 gt.2.2.2.2.1 gt.2.2.2.2.2.1 gt.2.2.2.2.2.2.1 gt.2.2.2.2.2.2.2.1 gt.2.2.2.2.2.2.2.2.1 gt.2.2.2.2.2.2.2.2.2 _ _ _ hf hP hD hS (lv_sub hl [1, 2, 0] rfl)
    · replace hf := ifF q2 hf
      refine lv_iconst (v := (-1)) hx hb dX2_run_11 (by decide) ?_
      obtain rfl := Option.some.inj hf
      exact retI hx hb hr hlocks hP hD hS dX2_run_12
