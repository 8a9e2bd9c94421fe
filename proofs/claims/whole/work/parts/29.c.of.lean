def f_X2_of (gx : Xo) (gc : Ci) (gn : Sw) (p1 : Int32) (p2 : Int32) : Option (Option Int32) :=
(f_X2_isCell gc p1).bind (fun r1 =>
if ¬ (b2i r1) = 0 then
if p2 = 0 then
gd (ib p1 4) (
some (some ((gn.2.2.1 p1.toNatClampNeg).toInt32)))
else
if p2 = 1 then
gd (ib p1 4) (
some (some ((gn.2.2.2.1 p1.toNatClampNeg).toInt32)))
else
if p2 = 2 then
gd (ib p1 4) (
if (gn.2.2.2.2.1 p1.toNatClampNeg) = 0 then
some (some 0)
else
some (some 1))
else
if p2 = 3 then
gd (ib p1 4) (
some (some (gx.2.1 p1.toNatClampNeg)))
else
if p2 = 4 then
gd (ib p1 4) (
some (some (gx.2.2.1 p1.toNatClampNeg)))
else
if p2 = 5 then
(f_X2_beatTerm gc p1 1).bind (fun r15 =>
some (some r15))
else
if p2 = 6 then
(f_X2_beatTerm gc p1 0).bind (fun r17 =>
some (some r17))
else
some none
else
some none)
abbrev rmX2_of : Room := { frames := 6, cells := 1, slots := 6, locals := 82 }
set_option maxHeartbeats 40000000 in
set_option maxRecDepth 100000 in
theorem c_X2_of (l : Launch) (hst : l.stackTraces = false) (D : va_G) (cI cJ cZ : ClassId) (adx adc adn adt : Nat → Nat) (gx : Xo) (gc : Ci) (gn gt : Sw) (p1 p2 : Int32) (sa sb : Nat) (o : (Option Int32)) (hf : f_X2_of gx gc gn p1 p2 = some o) : ∀ sz : Nat, vx_Met l yX2_of wsX2_of rmX2_of (va_Pc [.ref (adx 0), .int p1, .int p2] (PreT D cI cJ cZ (wX cI cJ adx adc adn adt gx ++ wCi cI adc gc ++ wSw cI cJ cZ adn gn ++ wSw cI cJ cZ adt gt) sz sa sb)) (va_Qi (fun x (_ : Unit) => o = some x) (fun _ t => PostW D (va_A (wX cI cJ adx adc adn adt gx ++ wCi cI adc gc ++ wSw cI cJ cZ adn gn ++ wSw cI cJ cZ adt gt) sz) (wX cI cJ adx adc adn adt gx ++ wCi cI adc gc ++ wSw cI cJ cZ adn gn ++ wSw cI cJ cZ adt gt) t) (va_A (wX cI cJ adx adc adn adt gx ++ wCi cI adc gc ++ wSw cI cJ cZ adn gn ++ wSw cI cJ cZ adt gt) sz)) (vx_X (fun _ : Unit => o = none) (fun E _ t => E = ne_NE ∧ PostW D (va_A (wX cI cJ adx adc adn adt gx ++ wCi cI adc gc ++ wSw cI cJ cZ adn gn ++ wSw cI cJ cZ adt gt) sz) (wX cI cJ adx adc adn adt gx ++ wCi cI adc gc ++ wSw cI cJ cZ adn gn ++ wSw cI cJ cZ adt gt) t) (va_A (wX cI cJ adx adc adn adt gx ++ wCi cI adc gc ++ wSw cI cJ cZ adn gn ++ wSw cI cJ cZ adt gt) sz)) 1 6 (va_A (wX cI cJ adx adc adn adt gx ++ wCi cI adc gc ++ wSw cI cJ cZ adn gn ++ wSw cI cJ cZ adt gt) sz) := by
  intro sz
  refine vx_ofW (cc := cX2_of) (maxL := 3) (ret := (some .int)) (by decide) rfl ?_
  intro p e s m args below meth c s₁ B hml hex hv
  obtain ⟨rfl, ⟨hsz, hP, hK, hD0⟩, hTw, hU, hN⟩ := hv
  have hx := B.exec
  have hb := B.bytes
  have hr := B.returns
  have hts := atoms_spec (ws := wsX2_of) B.pre
  have hown : s.vm.findClass RX2 = some m.cls := findClass_of_methodNamed B.named
  have hlocks := B.notSynchronized
  have hat := tw_at (args := ([.ref (adx 0), .int p1, .int p2] : List Value).toArray) hTw (fun w hw => hts w (wsNE_of w hw))
  have hs1 := hTw.2.2.2.2.1
  have hs2 := hTw.2.2.2.2.2
  subst hsz
  have hD := hD0.self (sz := s.heap.size)
  clear hD0
  generalize hAe : va_A (wX cI cJ adx adc adn adt gx ++ wCi cI adc gc ++ wSw cI cJ cZ adn gn ++ wSw cI cJ cZ adt gt) s.heap.size = A at hD hU hN ⊢
  have hA : ∀ q : Nat, s.heap.size ≤ q → A q := fun q h => by rw [← hAe]; exact Or.inr h
  have hS : va_S A s.heap s.heap [] := va_S.rf
  have hinX1 : ∀ w ∈ wsX10, w ∈ wsX2_of := by decide +kernel
  have hinX2 : ∀ w ∈ wsX20, w ∈ wsX2_of := by decide +kernel
  have hw0 : (Cond.fieldLink RX2 34 "SwingCircuits" "bottoms" "[I").before _ s = true := hts _ (by decide +kernel)
  have hw1 : (Cond.fieldLink RX2 30 "SwingCircuits" "tops" "[I").before _ s = true := hts _ (by decide +kernel)
  have hw2 : (Cond.fieldLink RX2 19 "SwingCircuits" "now" "LSwingCircuits$Swing;").before _ s = true := hts _ (by decide +kernel)
  have hw3 : (Cond.fieldLink RX2 161 "SwingCircuits$Swing" "filling" "[Z").before _ s = true := hts _ (by decide +kernel)
  have hw4 : (Cond.fieldLink RX2 158 "SwingCircuits$Swing" "den" "[J").before _ s = true := hts _ (by decide +kernel)
  have hw5 : (Cond.fieldLink RX2 155 "SwingCircuits$Swing" "num" "[J").before _ s = true := hts _ (by decide +kernel)
  have hw6 : (Cond.classLink RX2 148 ne_NE).before _ s = true := hts _ (by decide +kernel)
  have hw7 : (Cond.initialized ne_NE).before _ s = true := hts _ (by decide +kernel)
  have hl := lv_entry ([.ref (adx 0), .int p1, .int p2]) (n := 3) (Nat.le_of_ble_eq_true rfl)
  rw [lg_entry_eq]
  generalize (lg_sl ([.ref (adx 0), .int p1, .int p2]) ++ List.replicate (3 - (lg_sl ([.ref (adx 0), .int p1, .int p2])).length) Slot.unset).toArray = ls at hl ⊢
  replace hl : lv_has ls 3 [(0, .ref (adx 0)), (1, .int p1), (2, .int p2)] := hl
  unfold f_X2_of at hf
  refine lv_aload_n hx hb dX2_of_0 rfl (lv_at hl 0 rfl) ?_
  refine lv_iload_n hx hb dX2_of_1 rfl (lv_at hl 1 rfl) ?_
  replace hf := bdE hf
  obtain ⟨r1, hgr1, hf⟩ := hf
  refine xIw (va_runV (As := [.int p1]) (rest := []) ⟨hx, hb, hml, hown, hts⟩ (c_X2_isCell l D cI cJ cZ adx adc adn adt gx gc gn gt p1 r1 hgr1 _) (cwV 1 hts gX2_of_X2_isCell rfl rfl rfl (by decide +kernel) ⟨Nat.le_of_ble_eq_true rfl, Nat.le_of_ble_eq_true rfl⟩) ⟨PreW.blind, xRecv (q0 := 0) hK hP rfl rfl, (xPrew hK hP hD _)⟩ rfl rfl hl.1 rfl (lv_room (Nat.le_of_ble_eq_true rfl)) dX2_of_2 ⟨Nat.le_of_ble_eq_true rfl, Nat.le_of_ble_eq_true rfl⟩) hD hS hA (fun H locs hP hD hS => ?_)
  replace hP : va_P D vwCl (wX cI cJ adx adc adn adt gx ++ wCi cI adc gc ++ wSw cI cJ cZ adn gn ++ wSw cI cJ cZ adt gt) H := hP
  replace hD : va_D A (wX cI cJ adx adc adn adt gx ++ wCi cI adc gc ++ wSw cI cJ cZ adn gn ++ wSw cI cJ cZ adt gt) := hD
  refine lv_if_ne (tgt := 18) hx hb dX2_of_5 (by decide) (fun q2 => ?_) (fun q2 => ?_)
  · replace hf := ifT q2 hf
    refine lv_iload_n hx hb dX2_of_18 rfl (lv_at hl 2 rfl) ?_
    by_cases q3 : p2 = 0
    · replace hf := ifT q3 hf
      refine lv_tableIn (off := 41) (tgt := 60) hx hb dX2_of_19 (by rw [q3]; decide) (by rw [q3]; decide) (by rw [q3]; rfl) (by decide) ?_
      refine lv_aload_n hx hb dX2_of_60 rfl (lv_at hl 0 rfl) ?_
      refine va_get (D := D) (ci := 2) (v := .ref (adn 0)) (C := RX2) (T := TX2) (N := 17) hx hb hts hinX2 hown hK.1 hP 0 rfl rfl 1 (by decide) hw2 (fun _ h9 => h9) rfl dX2_of_61 ?_
      refine va_get (D := D) (ci := 1) (v := .ref (adn 1)) (C := RX1) (T := TX1) (N := 10) hx hb hts hinX1 hown hK.1 hP 22 rfl rfl 2 (by decide) hw5 (fun _ h9 => h9) rfl dX2_of_64 ?_
      refine lv_iload_n hx hb dX2_of_67 rfl (lv_at hl 1 rfl) ?_
      replace hf := gdE hf
      obtain ⟨h4, hf⟩ := hf
      refine va_lald hx hb hK.1 hP 23 1 rfl rfl (ib_in h4) dX2_of_68 ?_
      refine lv_l2i hx hb dX2_of_69 rfl ?_
      obtain rfl := Option.some.inj hf
      refine vx_ret ?_
      refine W.widen (k := 1) (n := 6) (Nat.le_of_ble_eq_true rfl) (Nat.le_of_ble_eq_true rfl) ?_
      exact W.iret hx hb hr (fun t ht _ => ⟨⟨_, (), rfl, rfl, by rw [ht]; exact hP, hD⟩, hS.F ht⟩) hS.2.2 dX2_of_70 hlocks
    · replace hf := ifF q3 hf
      by_cases q5 : p2 = 1
      · replace hf := ifT q5 hf
        refine lv_tableIn (off := 52) (tgt := 71) hx hb dX2_of_19 (by rw [q5]; decide) (by rw [q5]; decide) (by rw [q5]; rfl) (by decide) ?_
        refine lv_aload_n hx hb dX2_of_71 rfl (lv_at hl 0 rfl) ?_
        refine va_get (D := D) (ci := 2) (v := .ref (adn 0)) (C := RX2) (T := TX2) (N := 17) hx hb hts hinX2 hown hK.1 hP 0 rfl rfl 1 (by decide) hw2 (fun _ h9 => h9) rfl dX2_of_72 ?_
        refine va_get (D := D) (ci := 1) (v := .ref (adn 2)) (C := RX1) (T := TX1) (N := 10) hx hb hts hinX1 hown hK.1 hP 22 rfl rfl 3 (by decide) hw4 (fun _ h9 => h9) rfl dX2_of_75 ?_
        refine lv_iload_n hx hb dX2_of_78 rfl (lv_at hl 1 rfl) ?_
        replace hf := gdE hf
        obtain ⟨h6, hf⟩ := hf
        refine va_lald hx hb hK.1 hP 24 1 rfl rfl (ib_in h6) dX2_of_79 ?_
        refine lv_l2i hx hb dX2_of_80 rfl ?_
        obtain rfl := Option.some.inj hf
        refine vx_ret ?_
        refine W.widen (k := 1) (n := 6) (Nat.le_of_ble_eq_true rfl) (Nat.le_of_ble_eq_true rfl) ?_
        exact W.iret hx hb hr (fun t ht _ => ⟨⟨_, (), rfl, rfl, by rw [ht]; exact hP, hD⟩, hS.F ht⟩) hS.2.2 dX2_of_81 hlocks
      · replace hf := ifF q5 hf
        by_cases q7 : p2 = 2
        · replace hf := ifT q7 hf
          refine lv_tableIn (off := 63) (tgt := 82) hx hb dX2_of_19 (by rw [q7]; decide) (by rw [q7]; decide) (by rw [q7]; rfl) (by decide) ?_
          refine lv_aload_n hx hb dX2_of_82 rfl (lv_at hl 0 rfl) ?_
          refine va_get (D := D) (ci := 2) (v := .ref (adn 0)) (C := RX2) (T := TX2) (N := 17) hx hb hts hinX2 hown hK.1 hP 0 rfl rfl 1 (by decide) hw2 (fun _ h9 => h9) rfl dX2_of_83 ?_
          refine va_get (D := D) (ci := 1) (v := .ref (adn 3)) (C := RX1) (T := TX1) (N := 10) hx hb hts hinX1 hown hK.1 hP 22 rfl rfl 4 (by decide) hw3 (fun _ h9 => h9) rfl dX2_of_86 ?_
          refine lv_iload_n hx hb dX2_of_89 rfl (lv_at hl 1 rfl) ?_
          replace hf := gdE hf
          obtain ⟨h8, hf⟩ := hf
          refine va_zald hx hb hK.1 hP 25 2 rfl rfl (ib_in h8) dX2_of_90 ?_
          refine lv_if_eq (tgt := 98) hx hb dX2_of_91 (by decide) (fun q9 => ?_) (fun q9 => ?_)
          · replace hf := ifT q9 hf
            refine lv_iconst (v := 0) hx hb dX2_of_98 (by decide) ?_
            obtain rfl := Option.some.inj hf
            refine vx_ret ?_
            refine W.widen (k := 1) (n := 6) (Nat.le_of_ble_eq_true rfl) (Nat.le_of_ble_eq_true rfl) ?_
            exact W.iret hx hb hr (fun t ht _ => ⟨⟨_, (), rfl, rfl, by rw [ht]; exact hP, hD⟩, hS.F ht⟩) hS.2.2 dX2_of_99 hlocks
          · replace hf := ifF q9 hf
            refine lv_iconst (v := 1) hx hb dX2_of_94 (by decide) ?_
            refine lv_goto (tgt := 99) hx hb dX2_of_95 (by decide) ?_
            obtain rfl := Option.some.inj hf
            refine vx_ret ?_
            refine W.widen (k := 1) (n := 6) (Nat.le_of_ble_eq_true rfl) (Nat.le_of_ble_eq_true rfl) ?_
            exact W.iret hx hb hr (fun t ht _ => ⟨⟨_, (), rfl, rfl, by rw [ht]; exact hP, hD⟩, hS.F ht⟩) hS.2.2 dX2_of_99 hlocks
        · replace hf := ifF q7 hf
          by_cases q10 : p2 = 3
          · replace hf := ifT q10 hf
            refine lv_tableIn (off := 81) (tgt := 100) hx hb dX2_of_19 (by rw [q10]; decide) (by rw [q10]; decide) (by rw [q10]; rfl) (by decide) ?_
            refine lv_aload_n hx hb dX2_of_100 rfl (lv_at hl 0 rfl) ?_
            refine va_get (D := D) (ci := 2) (v := .ref (adx 1)) (C := RX2) (T := TX2) (N := 17) hx hb hts hinX2 hown hK.1 hP 0 rfl rfl 4 (by decide) hw1 (fun _ h9 => h9) rfl dX2_of_101 ?_
            refine lv_iload_n hx hb dX2_of_104 rfl (lv_at hl 1 rfl) ?_
            replace hf := gdE hf
            obtain ⟨h11, hf⟩ := hf
            refine va_iald hx hb hK.1 hP 1 0 rfl rfl (ib_in h11) dX2_of_105 ?_
            obtain rfl := Option.some.inj hf
            refine vx_ret ?_
            refine W.widen (k := 1) (n := 6) (Nat.le_of_ble_eq_true rfl) (Nat.le_of_ble_eq_true rfl) ?_
            exact W.iret hx hb hr (fun t ht _ => ⟨⟨_, (), rfl, rfl, by rw [ht]; exact hP, hD⟩, hS.F ht⟩) hS.2.2 dX2_of_106 hlocks
          · replace hf := ifF q10 hf
            by_cases q12 : p2 = 4
            · replace hf := ifT q12 hf
              refine lv_tableIn (off := 88) (tgt := 107) hx hb dX2_of_19 (by rw [q12]; decide) (by rw [q12]; decide) (by rw [q12]; rfl) (by decide) ?_
              refine lv_aload_n hx hb dX2_of_107 rfl (lv_at hl 0 rfl) ?_
              refine va_get (D := D) (ci := 2) (v := .ref (adx 2)) (C := RX2) (T := TX2) (N := 17) hx hb hts hinX2 hown hK.1 hP 0 rfl rfl 5 (by decide) hw0 (fun _ h9 => h9) rfl dX2_of_108 ?_
              refine lv_iload_n hx hb dX2_of_111 rfl (lv_at hl 1 rfl) ?_
              replace hf := gdE hf
              obtain ⟨h13, hf⟩ := hf
              refine va_iald hx hb hK.1 hP 2 0 rfl rfl (ib_in h13) dX2_of_112 ?_
              obtain rfl := Option.some.inj hf
              refine vx_ret ?_
              refine W.widen (k := 1) (n := 6) (Nat.le_of_ble_eq_true rfl) (Nat.le_of_ble_eq_true rfl) ?_
              exact W.iret hx hb hr (fun t ht _ => ⟨⟨_, (), rfl, rfl, by rw [ht]; exact hP, hD⟩, hS.F ht⟩) hS.2.2 dX2_of_113 hlocks
            · replace hf := ifF q12 hf
              by_cases q14 : p2 = 5
              · replace hf := ifT q14 hf
                refine lv_tableIn (off := 95) (tgt := 114) hx hb dX2_of_19 (by rw [q14]; decide) (by rw [q14]; decide) (by rw [q14]; rfl) (by decide) ?_
                refine lv_aload_n hx hb dX2_of_114 rfl (lv_at hl 0 rfl) ?_
                refine lv_iload_n hx hb dX2_of_115 rfl (lv_at hl 1 rfl) ?_
                refine lv_iconst (v := 1) hx hb dX2_of_116 (by decide) ?_
                replace hf := bdE hf
                obtain ⟨r15, hgr15, hf⟩ := hf
                refine xIw (va_runV (As := [.int p1, .int 1]) (rest := []) ⟨hx, hb, hml, hown, hts⟩ (c_X2_beatTerm l D cI cJ cZ adx adc adn adt gx gc gn gt p1 1 r15 hgr15 _) (cwV 2 hts gX2_of_X2_beatTerm rfl rfl rfl (by decide +kernel) ⟨Nat.le_of_ble_eq_true rfl, Nat.le_of_ble_eq_true rfl⟩) ⟨PreW.blind, xRecv (q0 := 0) hK hP rfl rfl, (xPrew hK hP hD _)⟩ rfl rfl hl.1 rfl (lv_room (Nat.le_of_ble_eq_true rfl)) dX2_of_117 ⟨Nat.le_of_ble_eq_true rfl, Nat.le_of_ble_eq_true rfl⟩) hD hS hA (fun H locs hP hD hS => ?_)
                replace hP : va_P D vwCl (wX cI cJ adx adc adn adt gx ++ wCi cI adc gc ++ wSw cI cJ cZ adn gn ++ wSw cI cJ cZ adt gt) H := hP
                replace hD : va_D A (wX cI cJ adx adc adn adt gx ++ wCi cI adc gc ++ wSw cI cJ cZ adn gn ++ wSw cI cJ cZ adt gt) := hD
                obtain rfl := Option.some.inj hf
                refine vx_ret ?_
                refine W.widen (k := 1) (n := 6) (Nat.le_of_ble_eq_true rfl) (Nat.le_of_ble_eq_true rfl) ?_
                exact W.iret hx hb hr (fun t ht _ => ⟨⟨_, (), rfl, rfl, by rw [ht]; exact hP, hD⟩, hS.F ht⟩) hS.2.2 dX2_of_120 hlocks
              · replace hf := ifF q14 hf
                by_cases q16 : p2 = 6
                · replace hf := ifT q16 hf
                  refine lv_tableIn (off := 102) (tgt := 121) hx hb dX2_of_19 (by rw [q16]; decide) (by rw [q16]; decide) (by rw [q16]; rfl) (by decide) ?_
                  refine lv_aload_n hx hb dX2_of_121 rfl (lv_at hl 0 rfl) ?_
                  refine lv_iload_n hx hb dX2_of_122 rfl (lv_at hl 1 rfl) ?_
                  refine lv_iconst (v := 0) hx hb dX2_of_123 (by decide) ?_
                  replace hf := bdE hf
                  obtain ⟨r17, hgr17, hf⟩ := hf
                  refine xIw (va_runV (As := [.int p1, .int 0]) (rest := []) ⟨hx, hb, hml, hown, hts⟩ (c_X2_beatTerm l D cI cJ cZ adx adc adn adt gx gc gn gt p1 0 r17 hgr17 _) (cwV 2 hts gX2_of_X2_beatTerm rfl rfl rfl (by decide +kernel) ⟨Nat.le_of_ble_eq_true rfl, Nat.le_of_ble_eq_true rfl⟩) ⟨PreW.blind, xRecv (q0 := 0) hK hP rfl rfl, (xPrew hK hP hD _)⟩ rfl rfl hl.1 rfl (lv_room (Nat.le_of_ble_eq_true rfl)) dX2_of_124 ⟨Nat.le_of_ble_eq_true rfl, Nat.le_of_ble_eq_true rfl⟩) hD hS hA (fun H locs hP hD hS => ?_)
                  replace hP : va_P D vwCl (wX cI cJ adx adc adn adt gx ++ wCi cI adc gc ++ wSw cI cJ cZ adn gn ++ wSw cI cJ cZ adt gt) H := hP
                  replace hD : va_D A (wX cI cJ adx adc adn adt gx ++ wCi cI adc gc ++ wSw cI cJ cZ adn gn ++ wSw cI cJ cZ adt gt) := hD
                  obtain rfl := Option.some.inj hf
                  refine vx_ret ?_
                  refine W.widen (k := 1) (n := 6) (Nat.le_of_ble_eq_true rfl) (Nat.le_of_ble_eq_true rfl) ?_
                  exact W.iret hx hb hr (fun t ht _ => ⟨⟨_, (), rfl, rfl, by rw [ht]; exact hP, hD⟩, hS.F ht⟩) hS.2.2 dX2_of_127 hlocks
                · replace hf := ifF q16 hf
                  refine lv_tableOut (tgt := 128) hx hb dX2_of_19 (by have nq3 := lv_neT q3 (a := 0) (by decide); have nq5 := lv_neT q5 (a := 1) (by decide); have nq7 := lv_neT q7 (a := 2) (by decide); have nq10 := lv_neT q10 (a := 3) (by decide); have nq12 := lv_neT q12 (a := 4) (by decide); have nq14 := lv_neT q14 (a := 5) (by decide); have nq16 := lv_neT q16 (a := 6) (by decide); omega) (by decide) ?_
                  obtain rfl := Option.some.inj hf
                  exact ne_throw (A := A) (pc := 128) (text := "a cell has no such number") (is := 169) (sa := sb) hx hb hst hown hw6 hw7 hs2 hat hU hN hS (hl.1.trans hml.symm) dX2_of_128 dX2_of_131 dX2_of_132 dX2_of_134 dX2_of_137 (fun x hx9 => (hex x hx9).elim) (Nat.le_of_ble_eq_true rfl) (Nat.le_of_ble_eq_true rfl) (Nat.le_of_ble_eq_true rfl) (Nat.le_of_ble_eq_true rfl) hlocks (fun t _ hz hk => ⟨(), rfl, ⟨rfl, hP.kept (fun k q h => hk q.1 (hP k q h).lt), hD⟩, Nat.le_trans hS.1 hz, fun q h1 h2 => (hk q (Nat.lt_of_lt_of_le h1 hS.1)).trans (hS.2.1 q h1 h2)⟩) hS.2.2 (Nat.le_of_ble_eq_true rfl) (Nat.le_of_ble_eq_true rfl)
  · replace hf := ifN q2 hf
    obtain rfl := Option.some.inj hf
    exact ne_throw (A := A) (pc := 8) (text := "no such cell") (is := 150) (sa := sa) hx hb hst hown hw6 hw7 hs1 hat hU hN hS (hl.1.trans hml.symm) dX2_of_8 dX2_of_11 dX2_of_12 dX2_of_14 dX2_of_17 (fun x hx9 => (hex x hx9).elim) (Nat.le_of_ble_eq_true rfl) (Nat.le_of_ble_eq_true rfl) (Nat.le_of_ble_eq_true rfl) (Nat.le_of_ble_eq_true rfl) hlocks (fun t _ hz hk => ⟨(), rfl, ⟨rfl, hP.kept (fun k q h => hk q.1 (hP k q h).lt), hD⟩, Nat.le_trans hS.1 hz, fun q h1 h2 => (hk q (Nat.lt_of_lt_of_le h1 hS.1)).trans (hS.2.1 q h1 h2)⟩) hS.2.2 (Nat.le_of_ble_eq_true rfl) (Nat.le_of_ble_eq_true rfl)
