abbrev rmX0_ratesOf : Room := { frames := 0, cells := 0, slots := 0, locals := 0 }
set_option maxHeartbeats 40000000 in
set_option maxRecDepth 100000 in
theorem c_X0_ratesOf_r (l : Launch) (D : va_G) (cI cJ cZ : ClassId) (ac : Nat → Nat) (gc : Ci) (p1 : Int32) (hz : p1 = 0) : CtR l yX0_ratesOf wsX0_ratesOf rmX0_ratesOf D cI cJ cZ [.ref (ac 0), .int p1] (wCi cI ac gc) (wCi cI ac gc) (ac 3) := by
  intro sz
  refine Met.ofW (cc := cX0_ratesOf) (maxL := 2) (ret := (some (.array .int))) (by decide) rfl ?_
  intro p e s m args below meth c s₁ B hml hv
  obtain ⟨rfl, hsz, hP, hK, hD0⟩ := hv
  have hx := B.exec
  have hb := B.bytes
  have hr := B.returns
  have hts := atoms_spec (ws := wsX0_ratesOf) B.pre
  have hown : s.vm.findClass RX0 = some m.cls := findClass_of_methodNamed B.named
  have hlocks := B.notSynchronized
  subst hsz
  have hD := hD0.self (sz := s.heap.size)
  clear hD0
  generalize hAe : va_A (wCi cI ac gc) s.heap.size = A at hD ⊢
  have hS : va_S A s.heap s.heap [] := va_S.rf
  have hinX0 : ∀ w ∈ wsX00, w ∈ wsX0_ratesOf := by decide +kernel
  have hl := lv_entry ([.ref (ac 0), .int p1]) (n := 2) (Nat.le_of_ble_eq_true rfl)
  rw [lg_entry_eq]
  generalize (lg_sl ([.ref (ac 0), .int p1]) ++ List.replicate (2 - (lg_sl ([.ref (ac 0), .int p1])).length) Slot.unset).toArray = ls at hl ⊢
  replace hl : lv_has ls 2 [(0, .ref (ac 0)), (1, .int p1)] := hl
  refine lv_iload_n hx hb dX0_ratesOf_0 rfl (lv_at hl 1 rfl) ?_
  refine lv_if_ne (tgt := 11) hx hb dX0_ratesOf_1 (by decide) (fun q => absurd hz q) (fun _ => ?_)
  refine lv_aload_n hx hb dX0_ratesOf_4 rfl (lv_at hl 0 rfl) ?_
  refine va_get (D := D) (ci := 0) (v := .ref (ac 3)) (C := RX0) (T := TX0) (N := 12) hx hb hts hinX0 hown hK.1 hP 0 rfl rfl 3 (by decide) (hts (Cond.fieldLink RX0 22 "SwingCircuits$Circuit" "rise" "[I") (by decide +kernel)) (fun _ h9 => h9) rfl dX0_ratesOf_5 ?_
  refine lv_goto (tgt := 15) hx hb dX0_ratesOf_8 (by decide) ?_
  exact retR hx hb hr (Or.inr ⟨_, rfl⟩) hlocks hP hD hS dX0_ratesOf_15
set_option maxHeartbeats 40000000 in
set_option maxRecDepth 100000 in
theorem c_X0_ratesOf_f (l : Launch) (D : va_G) (cI cJ cZ : ClassId) (ac : Nat → Nat) (gc : Ci) (p1 : Int32) (hz : ¬ p1 = 0) : CtR l yX0_ratesOf wsX0_ratesOf rmX0_ratesOf D cI cJ cZ [.ref (ac 0), .int p1] (wCi cI ac gc) (wCi cI ac gc) (ac 4) := by
  intro sz
  refine Met.ofW (cc := cX0_ratesOf) (maxL := 2) (ret := (some (.array .int))) (by decide) rfl ?_
  intro p e s m args below meth c s₁ B hml hv
  obtain ⟨rfl, hsz, hP, hK, hD0⟩ := hv
  have hx := B.exec
  have hb := B.bytes
  have hr := B.returns
  have hts := atoms_spec (ws := wsX0_ratesOf) B.pre
  have hown : s.vm.findClass RX0 = some m.cls := findClass_of_methodNamed B.named
  have hlocks := B.notSynchronized
  subst hsz
  have hD := hD0.self (sz := s.heap.size)
  clear hD0
  generalize hAe : va_A (wCi cI ac gc) s.heap.size = A at hD ⊢
  have hS : va_S A s.heap s.heap [] := va_S.rf
  have hinX0 : ∀ w ∈ wsX00, w ∈ wsX0_ratesOf := by decide +kernel
  have hl := lv_entry ([.ref (ac 0), .int p1]) (n := 2) (Nat.le_of_ble_eq_true rfl)
  rw [lg_entry_eq]
  generalize (lg_sl ([.ref (ac 0), .int p1]) ++ List.replicate (2 - (lg_sl ([.ref (ac 0), .int p1])).length) Slot.unset).toArray = ls at hl ⊢
  replace hl : lv_has ls 2 [(0, .ref (ac 0)), (1, .int p1)] := hl
  refine lv_iload_n hx hb dX0_ratesOf_0 rfl (lv_at hl 1 rfl) ?_
  refine lv_if_ne (tgt := 11) hx hb dX0_ratesOf_1 (by decide) (fun _ => ?_) (fun q => absurd q hz)
  refine lv_aload_n hx hb dX0_ratesOf_11 rfl (lv_at hl 0 rfl) ?_
  refine va_get (D := D) (ci := 0) (v := .ref (ac 4)) (C := RX0) (T := TX0) (N := 12) hx hb hts hinX0 hown hK.1 hP 0 rfl rfl 4 (by decide) (hts (Cond.fieldLink RX0 25 "SwingCircuits$Circuit" "fall" "[I") (by decide +kernel)) (fun _ h9 => h9) rfl dX0_ratesOf_12 ?_
  exact retR hx hb hr (Or.inr ⟨_, rfl⟩) hlocks hP hD hS dX0_ratesOf_15

def f_X0_span (gc : Ci) (p1 : Int32) : Option Int32 :=
gd (ib p1 4) (
some ((gc.2.2.1 p1.toNatClampNeg) - (gc.2.1 p1.toNatClampNeg)))
abbrev rmX0_span : Room := { frames := 0, cells := 0, slots := 0, locals := 0 }
set_option maxHeartbeats 40000000 in
set_option maxRecDepth 100000 in
theorem c_X0_span (l : Launch) (D : va_G) (cI cJ cZ : ClassId) (adc : Nat → Nat) (gc : Ci) (p1 : Int32) (o : Int32) (hf : f_X0_span gc p1 = some o) : CtI l yX0_span wsX0_span rmX0_span D cI cJ cZ [.ref (adc 0), .int p1] (wCi cI adc gc) (wCi cI adc gc) o := by
  intro sz
  refine Met.ofW (cc := cX0_span) (maxL := 2) (ret := (some .int)) (by decide) rfl ?_
  intro p e s m args below meth c s₁ B hml hv
  obtain ⟨rfl, hsz, hP, hK, hD0⟩ := hv
  have hx := B.exec
  have hb := B.bytes
  have hr := B.returns
  have hts := atoms_spec (ws := wsX0_span) B.pre
  have hown : s.vm.findClass RX0 = some m.cls := findClass_of_methodNamed B.named
  have hlocks := B.notSynchronized
  subst hsz
  have hD := hD0.self (sz := s.heap.size)
  clear hD0
  generalize hAe : va_A (wCi cI adc gc) s.heap.size = A at hD ⊢
  have hA : ∀ q : Nat, s.heap.size ≤ q → A q := fun q h => by rw [← hAe]; exact Or.inr h
  have hS : va_S A s.heap s.heap [] := va_S.rf
  have hinX0 : ∀ w ∈ wsX00, w ∈ wsX0_span := by decide +kernel
  have hw0 : (Cond.fieldLink RX0 19 "SwingCircuits$Circuit" "high" "[I").before _ s = true := hts _ (by decide +kernel)
  have hw1 : (Cond.fieldLink RX0 15 "SwingCircuits$Circuit" "low" "[I").before _ s = true := hts _ (by decide +kernel)
  have hl := lv_entry ([.ref (adc 0), .int p1]) (n := 2) (Nat.le_of_ble_eq_true rfl)
  rw [lg_entry_eq]
  generalize (lg_sl ([.ref (adc 0), .int p1]) ++ List.replicate (2 - (lg_sl ([.ref (adc 0), .int p1])).length) Slot.unset).toArray = ls at hl ⊢
  replace hl : lv_has ls 2 [(0, .ref (adc 0)), (1, .int p1)] := hl
  unfold f_X0_span at hf
  refine lv_aload_n hx hb dX0_span_0 rfl (lv_at hl 0 rfl) ?_
  refine va_get (D := D) (ci := 0) (v := .ref (adc 2)) (C := RX0) (T := TX0) (N := 12) hx hb hts hinX0 hown hK.1 hP 0 rfl rfl 2 (by decide) hw0 (fun _ h9 => h9) rfl dX0_span_1 ?_
  refine lv_iload_n hx hb dX0_span_4 rfl (lv_at hl 1 rfl) ?_
  replace hf := gdE hf
  obtain ⟨h1, hf⟩ := hf
  refine va_iald hx hb hK.1 hP 2 0 rfl rfl (ib_in h1) dX0_span_5 ?_
  refine lv_aload_n hx hb dX0_span_6 rfl (lv_at hl 0 rfl) ?_
  refine va_get (D := D) (ci := 0) (v := .ref (adc 1)) (C := RX0) (T := TX0) (N := 12) hx hb hts hinX0 hown hK.1 hP 0 rfl rfl 1 (by decide) hw1 (fun _ h9 => h9) rfl dX0_span_7 ?_
  refine lv_iload_n hx hb dX0_span_10 rfl (lv_at hl 1 rfl) ?_
  refine va_iald hx hb hK.1 hP 1 0 rfl rfl (ib_in h1) dX0_span_11 ?_
  refine lv_isub hx hb dX0_span_12 ?_
  obtain rfl := Option.some.inj hf
  exact retI hx hb hr hlocks hP hD hS dX0_span_13

def f_X2_commonOf_J67 (l4_31 : Int64)  : Option Int64 :=
if (lg_cmp l4_31 0) ≤ 0 then
some 1
else
some l4_31
def f_X2_commonOf_B31  (rec31 : Int64 → Int64 → Int32 → Option Int64) (l4_31 : Int64) (l6_31 : Int64) (l8_31 : Int32) : Option Int64 :=
if (200 : Int32) ≤ l8_31 then
f_X2_commonOf_J67 l4_31
else
if (lg_cmp l6_31 0) = 0 then
f_X2_commonOf_J67 l4_31
else
gd (nzL l6_31) (
bnd (l4_31 - l4_31 / l6_31 * l6_31) (fun v5 =>
rec31 l6_31 v5 (l8_31 + 1)))
def f_X2_commonOf_L31  : Nat → Int64 → Int64 → Int32 → Option Int64
  | 0 => fun _ _ _ => none
  | n + 1 => f_X2_commonOf_B31  (f_X2_commonOf_L31  n)
def f_X2_commonOf_J26 (k0_12 : Int64) (k0_26 : Int64) : Option Int64 :=
f_X2_commonOf_L31  fuel k0_12 k0_26 0
def f_X2_commonOf_J12 (p2 : Int64) (k0_12 : Int64) : Option Int64 :=
if (0 : Int32) ≤ (lg_cmp p2 0) then
f_X2_commonOf_J26 k0_12 p2
else
f_X2_commonOf_J26 k0_12 (-p2)
def f_X2_commonOf (p1 : Int64) (p2 : Int64) : Option Int64 :=
if (0 : Int32) ≤ (lg_cmp p1 0) then
f_X2_commonOf_J12 p2 p1
else
f_X2_commonOf_J12 p2 (-p1)
abbrev rmX2_commonOf : Room := { frames := 0, cells := 0, slots := 0, locals := 0 }
set_option maxHeartbeats 40000000 in
set_option maxRecDepth 100000 in
theorem c_X2_commonOf (l : Launch) (D : va_G) (cI cJ cZ : ClassId) (p1 : Int64) (p2 : Int64) (o : Int64) (hf : f_X2_commonOf p1 p2 = some o) : CtL l yX2_commonOf wsX2_commonOf rmX2_commonOf D cI cJ cZ [.long p1, .long p2] [] [] o := by
  intro sz
  refine Met.ofW (cc := cX2_commonOf) (maxL := 11) (ret := (some .long)) (by decide) rfl ?_
  intro p e s m args below meth c s₁ B hml hv
  obtain ⟨rfl, hsz, hP, hK, hD0⟩ := hv
  have hx := B.exec
  have hb := B.bytes
  have hr := B.returns
  have hts := atoms_spec (ws := wsX2_commonOf) B.pre
  have hown : s.vm.findClass RX2 = some m.cls := findClass_of_methodNamed B.named
  have hlocks := B.notSynchronized
  subst hsz
  have hD := hD0.self (sz := s.heap.size)
  clear hD0
  generalize hAe : va_A [] s.heap.size = A at hD ⊢
  have hA : ∀ q : Nat, s.heap.size ≤ q → A q := fun q h => by rw [← hAe]; exact Or.inr h
  have hS : va_S A s.heap s.heap [] := va_S.rf
  have hl := lv_entry ([.long p1, .long p2]) (n := 11) (Nat.le_of_ble_eq_true rfl)
  rw [lg_entry_eq]
  generalize (lg_sl ([.long p1, .long p2]) ++ List.replicate (11 - (lg_sl ([.long p1, .long p2])).length) Slot.unset).toArray = ls at hl ⊢
  replace hl : lv_has ls 11 [(0, .long p1), (2, .long p2)] := hl
  unfold f_X2_commonOf at hf
  refine lv_lload_n hx hb dX2_commonOf_0 rfl (lv_at hl 0 rfl) ?_
  refine lv_lconst (v := 0) hx hb dX2_commonOf_1 (by decide) ?_
  refine W.lcmp hx hb dX2_commonOf_2 ?_
  have J12 : ∀ (k0_12 : Int64) (H : Heap) (locs : List Loc) (ls : Array Slot), f_X2_commonOf_J12 p2 k0_12 = some o → va_P D vwCl [] H → va_D A [] → va_S A s.heap H locs → lv_has ls 11 [(2, .long p2)] → W p l e (headSpec wsX2_commonOf rmX2_commonOf).room s m ([.long p1, .long p2] : List Value).toArray below meth c H locs 0 0 (MQ below (QL D A o []) ([.long p1, .long p2] : List Value).toArray s 0 0 A) (F0 m 12 ls [.long k0_12]) := by
    intro k0_12 H locs ls hf hP hD hS hl
    unfold f_X2_commonOf_J12 at hf
    refine lv_lstore (lv' := [(4, .long k0_12), (2, .long p2)]) hx hb dX2_commonOf_12 hl (by decide) rfl (fun ls hl => ?_)
    refine lv_lload_n hx hb dX2_commonOf_14 rfl (lv_at hl 1 rfl) ?_
    refine lv_lconst (v := 0) hx hb dX2_commonOf_15 (by decide) ?_
    refine W.lcmp hx hb dX2_commonOf_16 ?_
    have J26 : ∀ (k0_26 : Int64) (H : Heap) (locs : List Loc) (ls : Array Slot), f_X2_commonOf_J26 k0_12 k0_26 = some o → va_P D vwCl [] H → va_D A [] → va_S A s.heap H locs → lv_has ls 11 [(4, .long k0_12)] → W p l e (headSpec wsX2_commonOf rmX2_commonOf).room s m ([.long p1, .long p2] : List Value).toArray below meth c H locs 0 0 (MQ below (QL D A o []) ([.long p1, .long p2] : List Value).toArray s 0 0 A) (F0 m 26 ls [.long k0_26]) := by
      intro k0_26 H locs ls hf hP hD hS hl
      unfold f_X2_commonOf_J26 at hf
      refine lv_lstore (lv' := [(6, .long k0_26), (4, .long k0_12)]) hx hb dX2_commonOf_26 hl (by decide) rfl (fun ls hl => ?_)
      refine lv_iconst (v := 0) hx hb dX2_commonOf_28 (by decide) ?_
      refine lv_istore (lv' := [(8, .int 0), (6, .long k0_26), (4, .long k0_12)]) hx hb dX2_commonOf_29 hl (by decide) rfl (fun ls hl => ?_)
      have L31 : ∀ (n : Nat) (l4_31 : Int64) (l6_31 : Int64) (l8_31 : Int32) (H : Heap) (locs : List Loc) (ls : Array Slot), f_X2_commonOf_L31  n l4_31 l6_31 l8_31 = some o → va_P D vwCl [] H → va_D A [] → va_S A s.heap H locs → lv_has ls 11 [(4, .long l4_31), (6, .long l6_31), (8, .int l8_31)] → W p l e (headSpec wsX2_commonOf rmX2_commonOf).room s m ([.long p1, .long p2] : List Value).toArray below meth c H locs 0 0 (MQ below (QL D A o []) ([.long p1, .long p2] : List Value).toArray s 0 0 A) (F0 m 31 ls []) := by
        intro n
        induction n with
        | zero => intro l4_31 l6_31 l8_31 H locs ls hf; cases hf
        | succ n ih31 =>
          intro l4_31 l6_31 l8_31 H locs ls hf hP hD hS hl
          replace hf : f_X2_commonOf_B31  (f_X2_commonOf_L31  n) l4_31 l6_31 l8_31 = some o := hf
          generalize f_X2_commonOf_L31  n = rec31 at ih31 hf
          unfold f_X2_commonOf_B31 at hf
          refine lv_iload hx hb dX2_commonOf_31 (lv_at hl 2 rfl) ?_
          refine lv_sipush (v := 200) hx hb dX2_commonOf_33 (by decide) ?_
          have J67 : ∀  (H : Heap) (locs : List Loc) (ls : Array Slot), f_X2_commonOf_J67 l4_31  = some o → va_P D vwCl [] H → va_D A [] → va_S A s.heap H locs → lv_has ls 11 [(4, .long l4_31)] → W p l e (headSpec wsX2_commonOf rmX2_commonOf).room s m ([.long p1, .long p2] : List Value).toArray below meth c H locs 0 0 (MQ below (QL D A o []) ([.long p1, .long p2] : List Value).toArray s 0 0 A) (F0 m 67 ls []) := by
            intro  H locs ls hf hP hD hS hl
            unfold f_X2_commonOf_J67 at hf
            refine lv_lload hx hb dX2_commonOf_67 (lv_at hl 0 rfl) ?_
            refine lv_lconst (v := 0) hx hb dX2_commonOf_69 (by decide) ?_
            refine W.lcmp hx hb dX2_commonOf_70 ?_
            refine lv_if_le (tgt := 79) hx hb dX2_commonOf_71 (by decide) (fun q1 => ?_) (fun q1 => ?_)
            · replace hf := ifT q1 hf
              refine lv_lconst (v := 1) hx hb dX2_commonOf_79 (by decide) ?_
              obtain rfl := Option.some.inj hf
              exact retL hx hb hr hlocks hP hD hS dX2_commonOf_80
            · replace hf := ifF q1 hf
              refine lv_lload hx hb dX2_commonOf_74 (lv_at hl 0 rfl) ?_
              refine lv_goto (tgt := 80) hx hb dX2_commonOf_76 (by decide) ?_
              obtain rfl := Option.some.inj hf
              exact retL hx hb hr hlocks hP hD hS dX2_commonOf_80
          refine lv_icmp_ge (tgt := 67) hx hb dX2_commonOf_36 (by decide) (fun q2 => ?_) (fun q2 => ?_)
          · replace hf := ifT q2 hf
            exact J67  _ _ _ hf hP hD hS (lv_sub hl [0] rfl)
          · replace hf := ifF q2 hf
            refine lv_lload hx hb dX2_commonOf_39 (lv_at hl 1 rfl) ?_
            refine lv_lconst (v := 0) hx hb dX2_commonOf_41 (by decide) ?_
            refine W.lcmp hx hb dX2_commonOf_42 ?_
            refine lv_if_eq (tgt := 67) hx hb dX2_commonOf_43 (by decide) (fun q3 => ?_) (fun q3 => ?_)
            · replace hf := ifT q3 hf
              exact J67  _ _ _ hf hP hD hS (lv_sub hl [0] rfl)
            · replace hf := ifF q3 hf
              refine lv_lload hx hb dX2_commonOf_46 (lv_at hl 0 rfl) ?_
              refine lv_lload hx hb dX2_commonOf_48 (lv_at hl 1 rfl) ?_
              replace hf := gdE hf
              obtain ⟨h4, hf⟩ := hf
              refine lv_lrem hx hb dX2_commonOf_50 (nzL_ne h4) ?_
              refine lv_topl (fun v5 ev5 => ?_)
              replace hf := bndE hf ev5
              refine lv_lstore (lv' := [(9, .long v5), (4, .long l4_31), (6, .long l6_31), (8, .int l8_31)]) hx hb dX2_commonOf_51 hl (by decide) rfl (fun ls hl => ?_)
              refine lv_lload hx hb dX2_commonOf_53 (lv_at hl 2 rfl) ?_
              refine lv_lstore (lv' := [(4, .long l6_31), (9, .long v5), (6, .long l6_31), (8, .int l8_31)]) hx hb dX2_commonOf_55 hl (by decide) rfl (fun ls hl => ?_)
              refine lv_lload hx hb dX2_commonOf_57 (lv_at hl 1 rfl) ?_
              refine lv_lstore (lv' := [(6, .long v5), (4, .long l6_31), (9, .long v5), (8, .int l8_31)]) hx hb dX2_commonOf_59 hl (by decide) rfl (fun ls hl => ?_)
              refine lv_iinc (v := l8_31 + 1) (lv' := [(8, .int (l8_31 + 1)), (6, .long v5), (4, .long l6_31), (9, .long v5)]) hx hb dX2_commonOf_61 hl (k := 3) rfl (by rfl) (by decide) rfl (fun ls hl => ?_)
              refine lv_goto (tgt := 31) hx hb dX2_commonOf_64 (by decide) ?_
              exact ih31 l6_31 v5 (l8_31 + 1) _ _ _ hf hP hD hS (lv_sub hl [2, 1, 0] rfl)
      exact L31 fuel k0_12 k0_26 0 _ _ _ hf hP hD hS (lv_sub hl [2, 1, 0] rfl)
    refine lv_if_ge (tgt := 25) hx hb dX2_commonOf_17 (by decide) (fun q6 => ?_) (fun q6 => ?_)
    · replace hf := ifT q6 hf
      refine lv_lload_n hx hb dX2_commonOf_25 rfl (lv_at hl 1 rfl) ?_
      exact J26 p2 _ _ _ hf hP hD hS (lv_sub hl [0] rfl)
    · replace hf := ifF q6 hf
      refine lv_lload_n hx hb dX2_commonOf_20 rfl (lv_at hl 1 rfl) ?_
      refine lv_lneg hx hb dX2_commonOf_21 ?_
      refine lv_goto (tgt := 26) hx hb dX2_commonOf_22 (by decide) ?_
      exact J26 (-p2) _ _ _ hf hP hD hS (lv_sub hl [0] rfl)
  refine lv_if_ge (tgt := 11) hx hb dX2_commonOf_3 (by decide) (fun q7 => ?_) (fun q7 => ?_)
  · replace hf := ifT q7 hf
    refine lv_lload_n hx hb dX2_commonOf_11 rfl (lv_at hl 0 rfl) ?_
    exact J12 p1 _ _ _ hf hP hD hS (lv_sub hl [1] rfl)
  · replace hf := ifF q7 hf
    refine lv_lload_n hx hb dX2_commonOf_6 rfl (lv_at hl 0 rfl) ?_
    refine lv_lneg hx hb dX2_commonOf_7 ?_
    refine lv_goto (tgt := 12) hx hb dX2_commonOf_8 (by decide) ?_
    exact J12 (-p1) _ _ _ hf hP hD hS (lv_sub hl [1] rfl)

def f_X2_packed (p1 : Int64) (p2 : Int64) : Option Int64 :=
some ((p1 <<< ((20 : Int32).toInt64 &&& 63)) + p2)
abbrev rmX2_packed : Room := { frames := 0, cells := 0, slots := 0, locals := 0 }
set_option maxHeartbeats 40000000 in
set_option maxRecDepth 100000 in
theorem c_X2_packed (l : Launch) (D : va_G) (cI cJ cZ : ClassId) (p1 : Int64) (p2 : Int64) (o : Int64) (hf : f_X2_packed p1 p2 = some o) : CtL l yX2_packed wsX2_packed rmX2_packed D cI cJ cZ [.long p1, .long p2] [] [] o := by
  intro sz
  refine Met.ofW (cc := cX2_packed) (maxL := 4) (ret := (some .long)) (by decide) rfl ?_
  intro p e s m args below meth c s₁ B hml hv
  obtain ⟨rfl, hsz, hP, hK, hD0⟩ := hv
  have hx := B.exec
  have hb := B.bytes
  have hr := B.returns
  have hts := atoms_spec (ws := wsX2_packed) B.pre
  have hown : s.vm.findClass RX2 = some m.cls := findClass_of_methodNamed B.named
  have hlocks := B.notSynchronized
  subst hsz
  have hD := hD0.self (sz := s.heap.size)
  clear hD0
  generalize hAe : va_A [] s.heap.size = A at hD ⊢
  have hA : ∀ q : Nat, s.heap.size ≤ q → A q := fun q h => by rw [← hAe]; exact Or.inr h
  have hS : va_S A s.heap s.heap [] := va_S.rf
  have hl := lv_entry ([.long p1, .long p2]) (n := 4) (Nat.le_of_ble_eq_true rfl)
  rw [lg_entry_eq]
  generalize (lg_sl ([.long p1, .long p2]) ++ List.replicate (4 - (lg_sl ([.long p1, .long p2])).length) Slot.unset).toArray = ls at hl ⊢
  replace hl : lv_has ls 4 [(0, .long p1), (2, .long p2)] := hl
  unfold f_X2_packed at hf
  refine lv_lload_n hx hb dX2_packed_0 rfl (lv_at hl 0 rfl) ?_
  refine lv_bipush (v := 20) hx hb dX2_packed_1 (by decide) ?_
  refine lv_lshl hx hb dX2_packed_3 rfl ?_
  refine lv_lload_n hx hb dX2_packed_4 rfl (lv_at hl 1 rfl) ?_
  refine lv_ladd hx hb dX2_packed_5 ?_
  obtain rfl := Option.some.inj hf
  exact retL hx hb hr hlocks hP hD hS dX2_packed_6

def f_X1_isTooLong (p1 : Int64) (p2 : Int64) : Option Bool :=
if (0 : Int32) < (lg_cmp p1 1000000) then
some true
else
if (lg_cmp p1 ((-1000000))) < 0 then
some true
else
if (lg_cmp p2 1000000) ≤ 0 then
some false
else
some true
abbrev rmX1_isTooLong : Room := { frames := 0, cells := 0, slots := 0, locals := 0 }
set_option maxHeartbeats 40000000 in
set_option maxRecDepth 100000 in
theorem c_X1_isTooLong (l : Launch) (D : va_G) (cI cJ cZ : ClassId) (p1 : Int64) (p2 : Int64) (o : Bool) (hf : f_X1_isTooLong p1 p2 = some o) : CtI l yX1_isTooLong wsX1_isTooLong rmX1_isTooLong D cI cJ cZ [.long p1, .long p2] [] [] (b2i o) := by
  intro sz
  refine Met.ofW (cc := cX1_isTooLong) (maxL := 4) (ret := (some .boolean)) (by decide) rfl ?_
  intro p e s m args below meth c s₁ B hml hv
  obtain ⟨rfl, hsz, hP, hK, hD0⟩ := hv
  have hx := B.exec
  have hb := B.bytes
  have hr := B.returns
  have hts := atoms_spec (ws := wsX1_isTooLong) B.pre
  have hown : s.vm.findClass RX1 = some m.cls := findClass_of_methodNamed B.named
  have hlocks := B.notSynchronized
  subst hsz
  have hD := hD0.self (sz := s.heap.size)
  clear hD0
  generalize hAe : va_A [] s.heap.size = A at hD ⊢
  have hA : ∀ q : Nat, s.heap.size ≤ q → A q := fun q h => by rw [← hAe]; exact Or.inr h
  have hS : va_S A s.heap s.heap [] := va_S.rf
  have hw0 : (Cond.constantLong RX1 113 (1000000)).before _ s = true := hts _ (by decide +kernel)
  have hw1 : (Cond.constantLong RX1 115 (-1000000)).before _ s = true := hts _ (by decide +kernel)
  have hl := lv_entry ([.long p1, .long p2]) (n := 4) (Nat.le_of_ble_eq_true rfl)
  rw [lg_entry_eq]
  generalize (lg_sl ([.long p1, .long p2]) ++ List.replicate (4 - (lg_sl ([.long p1, .long p2])).length) Slot.unset).toArray = ls at hl ⊢
  replace hl : lv_has ls 4 [(0, .long p1), (2, .long p2)] := hl
  unfold f_X1_isTooLong at hf
  refine lv_lload_n hx hb dX1_isTooLong_0 rfl (lv_at hl 0 rfl) ?_
  refine lv_ldc2 hx hb hown hw0 dX1_isTooLong_1 ?_
  refine W.lcmp hx hb dX1_isTooLong_4 ?_
  refine lv_if_gt (tgt := 24) hx hb dX1_isTooLong_5 (by decide) (fun q1 => ?_) (fun q1 => ?_)
  · replace hf := ifT q1 hf
    refine lv_iconst (v := 1) hx hb dX1_isTooLong_24 (by decide) ?_
    refine lv_goto (tgt := 29) hx hb dX1_isTooLong_25 (by decide) ?_
    obtain rfl := Option.some.inj hf
    exact retZ true rfl hx hb hr hlocks hP hD hS dX1_isTooLong_29
  · replace hf := ifF q1 hf
    refine lv_lload_n hx hb dX1_isTooLong_8 rfl (lv_at hl 0 rfl) ?_
    refine lv_ldc2 hx hb hown hw1 dX1_isTooLong_9 ?_
    refine W.lcmp hx hb dX1_isTooLong_12 ?_
    refine lv_if_lt (tgt := 24) hx hb dX1_isTooLong_13 (by decide) (fun q2 => ?_) (fun q2 => ?_)
    · replace hf := ifT q2 hf
      refine lv_iconst (v := 1) hx hb dX1_isTooLong_24 (by decide) ?_
      refine lv_goto (tgt := 29) hx hb dX1_isTooLong_25 (by decide) ?_
      obtain rfl := Option.some.inj hf
      exact retZ true rfl hx hb hr hlocks hP hD hS dX1_isTooLong_29
    · replace hf := ifF q2 hf
      refine lv_lload_n hx hb dX1_isTooLong_16 rfl (lv_at hl 1 rfl) ?_
      refine lv_ldc2 hx hb hown hw0 dX1_isTooLong_17 ?_
      refine W.lcmp hx hb dX1_isTooLong_20 ?_
      refine lv_if_le (tgt := 28) hx hb dX1_isTooLong_21 (by decide) (fun q3 => ?_) (fun q3 => ?_)
      · replace hf := ifT q3 hf
        refine lv_iconst (v := 0) hx hb dX1_isTooLong_28 (by decide) ?_
        obtain rfl := Option.some.inj hf
        exact retZ false rfl hx hb hr hlocks hP hD hS dX1_isTooLong_29
      · replace hf := ifF q3 hf
        refine lv_iconst (v := 1) hx hb dX1_isTooLong_24 (by decide) ?_
        refine lv_goto (tgt := 29) hx hb dX1_isTooLong_25 (by decide) ?_
        obtain rfl := Option.some.inj hf
        exact retZ true rfl hx hb hr hlocks hP hD hS dX1_isTooLong_29

def f_X1_restart_B52 (s2_12 : Al) (s3_12 : Al) (s4_12 : Ar) (rec52 : Int32 → Ar → Option (Int64 × Int64 × Al × Al × Ar × Ar)) (l2_52 : Int32) (s5_52 : Ar) : Option (Int64 × Int64 × Al × Al × Ar × Ar) :=
if (8 : Int32) ≤ l2_52 then
some (0, 1, s2_12, s3_12, s4_12, s5_52)
else
gd (ib l2_52 8) (
rec52 (l2_52 + 1) (upd s5_52 l2_52.toNatClampNeg 0))
def f_X1_restart_L52 (s2_12 : Al) (s3_12 : Al) (s4_12 : Ar) : Nat → Int32 → Ar → Option (Int64 × Int64 × Al × Al × Ar × Ar)
  | 0 => fun _ _ => none
  | n + 1 => f_X1_restart_B52 s2_12 s3_12 s4_12 (f_X1_restart_L52 s2_12 s3_12 s4_12 n)
def f_X1_restart_B12 (gs : Sw) (gc : Ci) (rec12 : Int32 → Al → Al → Ar → Option (Int64 × Int64 × Al × Al × Ar × Ar)) (l2_12 : Int32) (s2_12 : Al) (s3_12 : Al) (s4_12 : Ar) : Option (Int64 × Int64 × Al × Al × Ar × Ar) :=
if (4 : Int32) ≤ l2_12 then
f_X1_restart_L52 s2_12 s3_12 s4_12 fuel 0 gs.2.2.2.2.2.1
else
gd (ib l2_12 4) (
bnd ((gc.2.1 l2_12.toNatClampNeg).toInt64) (fun v5 =>
rec12 (l2_12 + 1) (vp_updL s2_12 l2_12.toNatClampNeg v5) (vp_updL s3_12 l2_12.toNatClampNeg 1) (upd s4_12 l2_12.toNatClampNeg (vp_nar .boolean 1))))
def f_X1_restart_L12 (gs : Sw) (gc : Ci) : Nat → Int32 → Al → Al → Ar → Option (Int64 × Int64 × Al × Al × Ar × Ar)
  | 0 => fun _ _ _ _ => none
  | n + 1 => f_X1_restart_B12 gs gc (f_X1_restart_L12 gs gc n)
def f_X1_restart (gs : Sw) (gc : Ci) : Option (Int64 × Int64 × Al × Al × Ar × Ar) :=
f_X1_restart_L12 gs gc fuel 0 gs.2.2.1 gs.2.2.2.1 gs.2.2.2.2.1
abbrev rmX1_restart : Room := { frames := 0, cells := 0, slots := 0, locals := 0 }
set_option maxHeartbeats 40000000 in
set_option maxRecDepth 100000 in
theorem c_X1_restart (l : Launch) (D : va_G) (cI cJ cZ : ClassId) (ads : Nat → Nat) (adc : Nat → Nat) (gs : Sw) (gc : Ci) (o : (Int64 × Int64 × Al × Al × Ar × Ar)) (hf : f_X1_restart gs gc = some o) : CtV l yX1_restart wsX1_restart rmX1_restart D cI cJ cZ [.ref (ads 0), .ref (adc 0)] (wSw cI cJ cZ ads gs ++ wCi cI adc gc) (wSw cI cJ cZ ads ((o.1, o.2.1, o.2.2.1, o.2.2.2.1, o.2.2.2.2.1, o.2.2.2.2.2, gs.2.2.2.2.2.2)) ++ wCi cI adc gc) := by
  intro sz
  refine Met.ofW (cc := cX1_restart) (maxL := 3) (ret := none) (by decide) rfl ?_
  intro p e s m args below meth c s₁ B hml hv
  obtain ⟨rfl, hsz, hP, hK, hD0⟩ := hv
  have hx := B.exec
  have hb := B.bytes
  have hr := B.returns
  have hts := atoms_spec (ws := wsX1_restart) B.pre
  have hown : s.vm.findClass RX1 = some m.cls := findClass_of_methodNamed B.named
  have hlocks := B.notSynchronized
  subst hsz
  have hD := hD0.self (sz := s.heap.size)
  clear hD0
  generalize hAe : va_A (wSw cI cJ cZ ads gs ++ wCi cI adc gc) s.heap.size = A at hD ⊢
  have hA : ∀ q : Nat, s.heap.size ≤ q → A q := fun q h => by rw [← hAe]; exact Or.inr h
  have hS : va_S A s.heap s.heap [] := va_S.rf
  have hinX0 : ∀ w ∈ wsX00, w ∈ wsX1_restart := by decide +kernel
  have hinX1 : ∀ w ∈ wsX10, w ∈ wsX1_restart := by decide +kernel
  have hw0 : (Cond.fieldLink RX1 9 "SwingCircuits$Swing" "timeNum" "J").before _ s = true := hts _ (by decide +kernel)
  have hw1 : (Cond.fieldLink RX1 15 "SwingCircuits$Swing" "timeDen" "J").before _ s = true := hts _ (by decide +kernel)
  have hw2 : (Cond.fieldLink RX1 18 "SwingCircuits$Swing" "num" "[J").before _ s = true := hts _ (by decide +kernel)
  have hw3 : (Cond.fieldLink RX1 46 "SwingCircuits$Circuit" "low" "[I").before _ s = true := hts _ (by decide +kernel)
  have hw4 : (Cond.fieldLink RX1 22 "SwingCircuits$Swing" "den" "[J").before _ s = true := hts _ (by decide +kernel)
  have hw5 : (Cond.fieldLink RX1 25 "SwingCircuits$Swing" "filling" "[Z").before _ s = true := hts _ (by decide +kernel)
  have hw6 : (Cond.fieldLink RX1 29 "SwingCircuits$Swing" "counts" "[I").before _ s = true := hts _ (by decide +kernel)
  have hl := lv_entry ([.ref (ads 0), .ref (adc 0)]) (n := 3) (Nat.le_of_ble_eq_true rfl)
  rw [lg_entry_eq]
  generalize (lg_sl ([.ref (ads 0), .ref (adc 0)]) ++ List.replicate (3 - (lg_sl ([.ref (ads 0), .ref (adc 0)])).length) Slot.unset).toArray = ls at hl ⊢
  replace hl : lv_has ls 3 [(0, .ref (ads 0)), (1, .ref (adc 0))] := hl
  unfold f_X1_restart at hf
  refine lv_aload_n hx hb dX1_restart_0 rfl (lv_at hl 0 rfl) ?_
  refine lv_lconst (v := 0) hx hb dX1_restart_1 (by decide) ?_
  refine va_put (D := D) (ci := 1) (v := .long 0) (ty := .long) (C := RX1) (T := TX1) (N := 10) hx hb hts hinX1 tyX1 tyX1_ok nmX1 hown hK.1 hP hD hS 0 rfl rfl 0 (by decide) hw0 (fun _ h9 => h9) rfl (by decide +kernel) rfl rfl (Nat.le_of_ble_eq_true rfl) dX1_restart_2 (fun H locs hP hD hS => ?_)
  replace hP : va_P D vwCl (wSw cI cJ cZ ads ((0, gs.2)) ++ wCi cI adc gc) H := hP
  replace hD : va_D A (wSw cI cJ cZ ads ((0, gs.2)) ++ wCi cI adc gc) := hD
  refine lv_aload_n hx hb dX1_restart_5 rfl (lv_at hl 0 rfl) ?_
  refine lv_lconst (v := 1) hx hb dX1_restart_6 (by decide) ?_
  refine va_put (D := D) (ci := 1) (v := .long 1) (ty := .long) (C := RX1) (T := TX1) (N := 10) hx hb hts hinX1 tyX1 tyX1_ok nmX1 hown hK.1 hP hD hS 0 rfl rfl 1 (by decide) hw1 (fun _ h9 => h9) rfl (by decide +kernel) rfl rfl (Nat.le_of_ble_eq_true rfl) dX1_restart_7 (fun H locs hP hD hS => ?_)
  replace hP : va_P D vwCl (wSw cI cJ cZ ads ((0, 1, gs.2.2)) ++ wCi cI adc gc) H := hP
  replace hD : va_D A (wSw cI cJ cZ ads ((0, 1, gs.2.2)) ++ wCi cI adc gc) := hD
  refine lv_iconst (v := 0) hx hb dX1_restart_10 (by decide) ?_
  refine lv_istore_n (lv' := [(2, .int 0), (0, .ref (ads 0)), (1, .ref (adc 0))]) hx hb dX1_restart_11 rfl hl (by decide) rfl (fun ls hl => ?_)
  have L12 : ∀ (n : Nat) (l2_12 : Int32) (s2_12 : Al) (s3_12 : Al) (s4_12 : Ar) (H : Heap) (locs : List Loc) (ls : Array Slot), f_X1_restart_L12 gs gc n l2_12 s2_12 s3_12 s4_12 = some o → va_P D vwCl (wSw cI cJ cZ ads ((0, 1, s2_12, s3_12, s4_12, gs.2.2.2.2.2)) ++ wCi cI adc gc) H → va_D A (wSw cI cJ cZ ads ((0, 1, s2_12, s3_12, s4_12, gs.2.2.2.2.2)) ++ wCi cI adc gc) → va_S A s.heap H locs → lv_has ls 3 [(0, .ref (ads 0)), (1, .ref (adc 0)), (2, .int l2_12)] → W p l e (headSpec wsX1_restart rmX1_restart).room s m ([.ref (ads 0), .ref (adc 0)] : List Value).toArray below meth c H locs 0 0 (MQ below (QV D A (wSw cI cJ cZ ads ((o.1, o.2.1, o.2.2.1, o.2.2.2.1, o.2.2.2.2.1, o.2.2.2.2.2, gs.2.2.2.2.2.2)) ++ wCi cI adc gc)) ([.ref (ads 0), .ref (adc 0)] : List Value).toArray s 0 0 A) (F0 m 12 ls []) := by
    intro n
    induction n with
    | zero => intro l2_12 s2_12 s3_12 s4_12 H locs ls hf; cases hf
    | succ n ih12 =>
      intro l2_12 s2_12 s3_12 s4_12 H locs ls hf hP hD hS hl
      replace hf : f_X1_restart_B12 gs gc (f_X1_restart_L12 gs gc n) l2_12 s2_12 s3_12 s4_12 = some o := hf
      generalize f_X1_restart_L12 gs gc n = rec12 at ih12 hf
      unfold f_X1_restart_B12 at hf
      refine lv_iload_n hx hb dX1_restart_12 rfl (lv_at hl 2 rfl) ?_
      refine lv_iconst (v := 4) hx hb dX1_restart_13 (by decide) ?_
      refine lv_icmp_ge (tgt := 50) hx hb dX1_restart_14 (by decide) (fun q1 => ?_) (fun q1 => ?_)
      · replace hf := ifT q1 hf
        refine lv_iconst (v := 0) hx hb dX1_restart_50 (by decide) ?_
        refine lv_istore_n (lv' := [(2, .int 0), (0, .ref (ads 0)), (1, .ref (adc 0))]) hx hb dX1_restart_51 rfl hl (by decide) rfl (fun ls hl => ?_)
        have L52 : ∀ (n : Nat) (l2_52 : Int32) (s5_52 : Ar) (H : Heap) (locs : List Loc) (ls : Array Slot), f_X1_restart_L52 s2_12 s3_12 s4_12 n l2_52 s5_52 = some o → va_P D vwCl (wSw cI cJ cZ ads ((0, 1, s2_12, s3_12, s4_12, s5_52, gs.2.2.2.2.2.2)) ++ wCi cI adc gc) H → va_D A (wSw cI cJ cZ ads ((0, 1, s2_12, s3_12, s4_12, s5_52, gs.2.2.2.2.2.2)) ++ wCi cI adc gc) → va_S A s.heap H locs → lv_has ls 3 [(0, .ref (ads 0)), (2, .int l2_52)] → W p l e (headSpec wsX1_restart rmX1_restart).room s m ([.ref (ads 0), .ref (adc 0)] : List Value).toArray below meth c H locs 0 0 (MQ below (QV D A (wSw cI cJ cZ ads ((o.1, o.2.1, o.2.2.1, o.2.2.2.1, o.2.2.2.2.1, o.2.2.2.2.2, gs.2.2.2.2.2.2)) ++ wCi cI adc gc)) ([.ref (ads 0), .ref (adc 0)] : List Value).toArray s 0 0 A) (F0 m 52 ls []) := by
          intro n
          induction n with
          | zero => intro l2_52 s5_52 H locs ls hf; cases hf
          | succ n ih52 =>
            intro l2_52 s5_52 H locs ls hf hP hD hS hl
            replace hf : f_X1_restart_B52 s2_12 s3_12 s4_12 (f_X1_restart_L52 s2_12 s3_12 s4_12 n) l2_52 s5_52 = some o := hf
            generalize f_X1_restart_L52 s2_12 s3_12 s4_12 n = rec52 at ih52 hf
            unfold f_X1_restart_B52 at hf
            refine lv_iload_n hx hb dX1_restart_52 rfl (lv_at hl 1 rfl) ?_
            refine lv_bipush (v := 8) hx hb dX1_restart_53 (by decide) ?_
            refine lv_icmp_ge (tgt := 71) hx hb dX1_restart_55 (by decide) (fun q2 => ?_) (fun q2 => ?_)
            · replace hf := ifT q2 hf
              obtain rfl := Option.some.inj hf
              exact retV hx hb hr hlocks hP hD hS dX1_restart_71
            · replace hf := ifF q2 hf
              refine lv_aload_n hx hb dX1_restart_58 rfl (lv_at hl 0 rfl) ?_
              refine va_get (D := D) (ci := 1) (v := .ref (ads 4)) (C := RX1) (T := TX1) (N := 10) hx hb hts hinX1 hown hK.1 hP 0 rfl rfl 5 (by decide) hw6 (fun _ h9 => h9) rfl dX1_restart_59 ?_
              refine lv_iload_n hx hb dX1_restart_62 rfl (lv_at hl 1 rfl) ?_
              refine lv_iconst (v := 0) hx hb dX1_restart_63 (by decide) ?_
              replace hf := gdE hf
              obtain ⟨h3, hf⟩ := hf
              refine va_iast hx hb hK.1 hP hD hS 4 0 rfl rfl (ib_in h3) dX1_restart_64 (fun H locs hP hD hS => ?_)
              replace hP : va_P D vwCl (wSw cI cJ cZ ads ((0, 1, s2_12, s3_12, s4_12, upd s5_52 l2_52.toNatClampNeg 0, gs.2.2.2.2.2.2)) ++ wCi cI adc gc) H := hP
              replace hD : va_D A (wSw cI cJ cZ ads ((0, 1, s2_12, s3_12, s4_12, upd s5_52 l2_52.toNatClampNeg 0, gs.2.2.2.2.2.2)) ++ wCi cI adc gc) := hD
              refine lv_iinc (v := l2_52 + 1) (lv' := [(2, .int (l2_52 + 1)), (0, .ref (ads 0))]) hx hb dX1_restart_65 hl (k := 1) rfl (by rfl) (by decide) rfl (fun ls hl => ?_)
              refine lv_goto (tgt := 52) hx hb dX1_restart_68 (by decide) ?_
              exact ih52 (l2_52 + 1) (upd s5_52 l2_52.toNatClampNeg 0) _ _ _ hf hP hD hS (lv_sub hl [1, 0] rfl)
        exact L52 fuel 0 gs.2.2.2.2.2.1 _ _ _ hf hP hD hS (lv_sub hl [1, 0] rfl)
      · replace hf := ifF q1 hf
        refine lv_aload_n hx hb dX1_restart_17 rfl (lv_at hl 0 rfl) ?_
        refine va_get (D := D) (ci := 1) (v := .ref (ads 1)) (C := RX1) (T := TX1) (N := 10) hx hb hts hinX1 hown hK.1 hP 0 rfl rfl 2 (by decide) hw2 (fun _ h9 => h9) rfl dX1_restart_18 ?_
        refine lv_iload_n hx hb dX1_restart_21 rfl (lv_at hl 2 rfl) ?_
        refine lv_aload_n hx hb dX1_restart_22 rfl (lv_at hl 1 rfl) ?_
        refine va_get (D := D) (ci := 0) (v := .ref (adc 1)) (C := RX0) (T := TX0) (N := 12) hx hb hts hinX0 hown hK.1 hP 5 rfl rfl 1 (by decide) hw3 (fun _ h9 => h9) rfl dX1_restart_23 ?_
        refine lv_iload_n hx hb dX1_restart_26 rfl (lv_at hl 2 rfl) ?_
        replace hf := gdE hf
        obtain ⟨h4, hf⟩ := hf
        refine va_iald hx hb hK.1 hP 6 0 rfl rfl (ib_in h4) dX1_restart_27 ?_
        refine lv_i2l hx hb dX1_restart_28 rfl ?_
        refine lv_topl (fun v5 ev5 => ?_)
        replace hf := bndE hf ev5
        refine va_last hx hb hK.1 hP hD hS 1 1 rfl rfl (ib_in h4) dX1_restart_29 (fun H locs hP hD hS => ?_)
        replace hP : va_P D vwCl (wSw cI cJ cZ ads ((0, 1, vp_updL s2_12 l2_12.toNatClampNeg v5, s3_12, s4_12, gs.2.2.2.2.2)) ++ wCi cI adc gc) H := hP
        replace hD : va_D A (wSw cI cJ cZ ads ((0, 1, vp_updL s2_12 l2_12.toNatClampNeg v5, s3_12, s4_12, gs.2.2.2.2.2)) ++ wCi cI adc gc) := hD
        refine lv_aload_n hx hb dX1_restart_30 rfl (lv_at hl 0 rfl) ?_
        refine va_get (D := D) (ci := 1) (v := .ref (ads 2)) (C := RX1) (T := TX1) (N := 10) hx hb hts hinX1 hown hK.1 hP 0 rfl rfl 3 (by decide) hw4 (fun _ h9 => h9) rfl dX1_restart_31 ?_
        refine lv_iload_n hx hb dX1_restart_34 rfl (lv_at hl 2 rfl) ?_
        refine lv_lconst (v := 1) hx hb dX1_restart_35 (by decide) ?_
        refine va_last hx hb hK.1 hP hD hS 2 1 rfl rfl (ib_in h4) dX1_restart_36 (fun H locs hP hD hS => ?_)
        replace hP : va_P D vwCl (wSw cI cJ cZ ads ((0, 1, vp_updL s2_12 l2_12.toNatClampNeg v5, vp_updL s3_12 l2_12.toNatClampNeg 1, s4_12, gs.2.2.2.2.2)) ++ wCi cI adc gc) H := hP
        replace hD : va_D A (wSw cI cJ cZ ads ((0, 1, vp_updL s2_12 l2_12.toNatClampNeg v5, vp_updL s3_12 l2_12.toNatClampNeg 1, s4_12, gs.2.2.2.2.2)) ++ wCi cI adc gc) := hD
        refine lv_aload_n hx hb dX1_restart_37 rfl (lv_at hl 0 rfl) ?_
        refine va_get (D := D) (ci := 1) (v := .ref (ads 3)) (C := RX1) (T := TX1) (N := 10) hx hb hts hinX1 hown hK.1 hP 0 rfl rfl 4 (by decide) hw5 (fun _ h9 => h9) rfl dX1_restart_38 ?_
        refine lv_iload_n hx hb dX1_restart_41 rfl (lv_at hl 2 rfl) ?_
        refine lv_iconst (v := 1) hx hb dX1_restart_42 (by decide) ?_
        refine va_zast hx hb hK.1 hP hD hS 3 2 rfl rfl (ib_in h4) dX1_restart_43 (fun H locs hP hD hS => ?_)
        replace hP : va_P D vwCl (wSw cI cJ cZ ads ((0, 1, vp_updL s2_12 l2_12.toNatClampNeg v5, vp_updL s3_12 l2_12.toNatClampNeg 1, upd s4_12 l2_12.toNatClampNeg (vp_nar .boolean 1), gs.2.2.2.2.2)) ++ wCi cI adc gc) H := hP
        replace hD : va_D A (wSw cI cJ cZ ads ((0, 1, vp_updL s2_12 l2_12.toNatClampNeg v5, vp_updL s3_12 l2_12.toNatClampNeg 1, upd s4_12 l2_12.toNatClampNeg (vp_nar .boolean 1), gs.2.2.2.2.2)) ++ wCi cI adc gc) := hD
        refine lv_iinc (v := l2_12 + 1) (lv' := [(2, .int (l2_12 + 1)), (0, .ref (ads 0)), (1, .ref (adc 0))]) hx hb dX1_restart_44 hl (k := 2) rfl (by rfl) (by decide) rfl (fun ls hl => ?_)
        refine lv_goto (tgt := 12) hx hb dX1_restart_47 (by decide) ?_
        exact ih12 (l2_12 + 1) (vp_updL s2_12 l2_12.toNatClampNeg v5) (vp_updL s3_12 l2_12.toNatClampNeg 1) (upd s4_12 l2_12.toNatClampNeg (vp_nar .boolean 1)) _ _ _ hf hP hD hS (lv_sub hl [1, 2, 0] rfl)
  exact L12 fuel 0 gs.2.2.1 gs.2.2.2.1 gs.2.2.2.2.1 _ _ _ hf hP hD hS (lv_sub hl [1, 2, 0] rfl)

def f_X1_copyFrom_B67 (go : Sw) (s2_18 : Al) (s3_18 : Al) (s4_18 : Ar) (rec67 : Int32 → Ar → Option (Int64 × Int64 × Al × Al × Ar × Ar)) (l2_67 : Int32) (s5_67 : Ar) : Option (Int64 × Int64 × Al × Al × Ar × Ar) :=
if (8 : Int32) ≤ l2_67 then
some (go.1, go.2.1, s2_18, s3_18, s4_18, s5_67)
else
gd (ib l2_67 8) (
bnd (go.2.2.2.2.2.1 l2_67.toNatClampNeg) (fun v4 =>
rec67 (l2_67 + 1) (upd s5_67 l2_67.toNatClampNeg v4)))
def f_X1_copyFrom_L67 (go : Sw) (s2_18 : Al) (s3_18 : Al) (s4_18 : Ar) : Nat → Int32 → Ar → Option (Int64 × Int64 × Al × Al × Ar × Ar)
  | 0 => fun _ _ => none
  | n + 1 => f_X1_copyFrom_B67 go s2_18 s3_18 s4_18 (f_X1_copyFrom_L67 go s2_18 s3_18 s4_18 n)
def f_X1_copyFrom_B18 (gs : Sw) (go : Sw) (rec18 : Int32 → Al → Al → Ar → Option (Int64 × Int64 × Al × Al × Ar × Ar)) (l2_18 : Int32) (s2_18 : Al) (s3_18 : Al) (s4_18 : Ar) : Option (Int64 × Int64 × Al × Al × Ar × Ar) :=
if (4 : Int32) ≤ l2_18 then
f_X1_copyFrom_L67 go s2_18 s3_18 s4_18 fuel 0 gs.2.2.2.2.2.1
else
gd (ib l2_18 4) (
bnd (go.2.2.1 l2_18.toNatClampNeg) (fun v6 =>
bnd (go.2.2.2.1 l2_18.toNatClampNeg) (fun v7 =>
bnd (go.2.2.2.2.1 l2_18.toNatClampNeg) (fun v8 =>
rec18 (l2_18 + 1) (vp_updL s2_18 l2_18.toNatClampNeg v6) (vp_updL s3_18 l2_18.toNatClampNeg v7) (upd s4_18 l2_18.toNatClampNeg (vp_nar .boolean v8))))))
def f_X1_copyFrom_L18 (gs : Sw) (go : Sw) : Nat → Int32 → Al → Al → Ar → Option (Int64 × Int64 × Al × Al × Ar × Ar)
  | 0 => fun _ _ _ _ => none
  | n + 1 => f_X1_copyFrom_B18 gs go (f_X1_copyFrom_L18 gs go n)
def f_X1_copyFrom (gs : Sw) (go : Sw) : Option (Int64 × Int64 × Al × Al × Ar × Ar) :=
f_X1_copyFrom_L18 gs go fuel 0 gs.2.2.1 gs.2.2.2.1 gs.2.2.2.2.1
abbrev rmX1_copyFrom : Room := { frames := 0, cells := 0, slots := 0, locals := 0 }
set_option maxHeartbeats 40000000 in
set_option maxRecDepth 100000 in
theorem c_X1_copyFrom (l : Launch) (D : va_G) (cI cJ cZ : ClassId) (ads : Nat → Nat) (ado : Nat → Nat) (gs : Sw) (go : Sw) (o : (Int64 × Int64 × Al × Al × Ar × Ar)) (hf : f_X1_copyFrom gs go = some o) : CtV l yX1_copyFrom wsX1_copyFrom rmX1_copyFrom D cI cJ cZ [.ref (ads 0), .ref (ado 0)] (wSw cI cJ cZ ads gs ++ wSw cI cJ cZ ado go) (wSw cI cJ cZ ads ((o.1, o.2.1, o.2.2.1, o.2.2.2.1, o.2.2.2.2.1, o.2.2.2.2.2, gs.2.2.2.2.2.2)) ++ wSw cI cJ cZ ado go) := by
  intro sz
  refine Met.ofW (cc := cX1_copyFrom) (maxL := 3) (ret := none) (by decide) rfl ?_
  intro p e s m args below meth c s₁ B hml hv
  obtain ⟨rfl, hsz, hP, hK, hD0⟩ := hv
  have hx := B.exec
  have hb := B.bytes
  have hr := B.returns
  have hts := atoms_spec (ws := wsX1_copyFrom) B.pre
  have hown : s.vm.findClass RX1 = some m.cls := findClass_of_methodNamed B.named
  have hlocks := B.notSynchronized
  subst hsz
  have hD := hD0.self (sz := s.heap.size)
  clear hD0
  generalize hAe : va_A (wSw cI cJ cZ ads gs ++ wSw cI cJ cZ ado go) s.heap.size = A at hD ⊢
  have hA : ∀ q : Nat, s.heap.size ≤ q → A q := fun q h => by rw [← hAe]; exact Or.inr h
  have hS : va_S A s.heap s.heap [] := va_S.rf
  have hinX1 : ∀ w ∈ wsX10, w ∈ wsX1_copyFrom := by decide +kernel
  have hw0 : (Cond.fieldLink RX1 9 "SwingCircuits$Swing" "timeNum" "J").before _ s = true := hts _ (by decide +kernel)
  have hw1 : (Cond.fieldLink RX1 15 "SwingCircuits$Swing" "timeDen" "J").before _ s = true := hts _ (by decide +kernel)
  have hw2 : (Cond.fieldLink RX1 18 "SwingCircuits$Swing" "num" "[J").before _ s = true := hts _ (by decide +kernel)
  have hw3 : (Cond.fieldLink RX1 22 "SwingCircuits$Swing" "den" "[J").before _ s = true := hts _ (by decide +kernel)
  have hw4 : (Cond.fieldLink RX1 25 "SwingCircuits$Swing" "filling" "[Z").before _ s = true := hts _ (by decide +kernel)
  have hw5 : (Cond.fieldLink RX1 29 "SwingCircuits$Swing" "counts" "[I").before _ s = true := hts _ (by decide +kernel)
  have hl := lv_entry ([.ref (ads 0), .ref (ado 0)]) (n := 3) (Nat.le_of_ble_eq_true rfl)
  rw [lg_entry_eq]
  generalize (lg_sl ([.ref (ads 0), .ref (ado 0)]) ++ List.replicate (3 - (lg_sl ([.ref (ads 0), .ref (ado 0)])).length) Slot.unset).toArray = ls at hl ⊢
  replace hl : lv_has ls 3 [(0, .ref (ads 0)), (1, .ref (ado 0))] := hl
  unfold f_X1_copyFrom at hf
  refine lv_aload_n hx hb dX1_copyFrom_0 rfl (lv_at hl 0 rfl) ?_
  refine lv_aload_n hx hb dX1_copyFrom_1 rfl (lv_at hl 1 rfl) ?_
  refine va_get (D := D) (ci := 1) (v := .long go.1) (C := RX1) (T := TX1) (N := 10) hx hb hts hinX1 hown hK.1 hP 5 rfl rfl 0 (by decide) hw0 (fun _ h9 => h9) rfl dX1_copyFrom_2 ?_
  refine va_put (D := D) (ci := 1) (v := .long go.1) (ty := .long) (C := RX1) (T := TX1) (N := 10) hx hb hts hinX1 tyX1 tyX1_ok nmX1 hown hK.1 hP hD hS 0 rfl rfl 0 (by decide) hw0 (fun _ h9 => h9) rfl (by decide +kernel) rfl rfl (Nat.le_of_ble_eq_true rfl) dX1_copyFrom_5 (fun H locs hP hD hS => ?_)
  replace hP : va_P D vwCl (wSw cI cJ cZ ads ((go.1, gs.2)) ++ wSw cI cJ cZ ado go) H := hP
  replace hD : va_D A (wSw cI cJ cZ ads ((go.1, gs.2)) ++ wSw cI cJ cZ ado go) := hD
  refine lv_aload_n hx hb dX1_copyFrom_8 rfl (lv_at hl 0 rfl) ?_
  refine lv_aload_n hx hb dX1_copyFrom_9 rfl (lv_at hl 1 rfl) ?_
  refine va_get (D := D) (ci := 1) (v := .long go.2.1) (C := RX1) (T := TX1) (N := 10) hx hb hts hinX1 hown hK.1 hP 5 rfl rfl 1 (by decide) hw1 (fun _ h9 => h9) rfl dX1_copyFrom_10 ?_
  refine va_put (D := D) (ci := 1) (v := .long go.2.1) (ty := .long) (C := RX1) (T := TX1) (N := 10) hx hb hts hinX1 tyX1 tyX1_ok nmX1 hown hK.1 hP hD hS 0 rfl rfl 1 (by decide) hw1 (fun _ h9 => h9) rfl (by decide +kernel) rfl rfl (Nat.le_of_ble_eq_true rfl) dX1_copyFrom_13 (fun H locs hP hD hS => ?_)
  replace hP : va_P D vwCl (wSw cI cJ cZ ads ((go.1, go.2.1, gs.2.2)) ++ wSw cI cJ cZ ado go) H := hP
  replace hD : va_D A (wSw cI cJ cZ ads ((go.1, go.2.1, gs.2.2)) ++ wSw cI cJ cZ ado go) := hD
  refine lv_iconst (v := 0) hx hb dX1_copyFrom_16 (by decide) ?_
  refine lv_istore_n (lv' := [(2, .int 0), (0, .ref (ads 0)), (1, .ref (ado 0))]) hx hb dX1_copyFrom_17 rfl hl (by decide) rfl (fun ls hl => ?_)
  have L18 : ∀ (n : Nat) (l2_18 : Int32) (s2_18 : Al) (s3_18 : Al) (s4_18 : Ar) (H : Heap) (locs : List Loc) (ls : Array Slot), f_X1_copyFrom_L18 gs go n l2_18 s2_18 s3_18 s4_18 = some o → va_P D vwCl (wSw cI cJ cZ ads ((go.1, go.2.1, s2_18, s3_18, s4_18, gs.2.2.2.2.2)) ++ wSw cI cJ cZ ado go) H → va_D A (wSw cI cJ cZ ads ((go.1, go.2.1, s2_18, s3_18, s4_18, gs.2.2.2.2.2)) ++ wSw cI cJ cZ ado go) → va_S A s.heap H locs → lv_has ls 3 [(0, .ref (ads 0)), (1, .ref (ado 0)), (2, .int l2_18)] → W p l e (headSpec wsX1_copyFrom rmX1_copyFrom).room s m ([.ref (ads 0), .ref (ado 0)] : List Value).toArray below meth c H locs 0 0 (MQ below (QV D A (wSw cI cJ cZ ads ((o.1, o.2.1, o.2.2.1, o.2.2.2.1, o.2.2.2.2.1, o.2.2.2.2.2, gs.2.2.2.2.2.2)) ++ wSw cI cJ cZ ado go)) ([.ref (ads 0), .ref (ado 0)] : List Value).toArray s 0 0 A) (F0 m 18 ls []) := by
    intro n
    induction n with
    | zero => intro l2_18 s2_18 s3_18 s4_18 H locs ls hf; cases hf
    | succ n ih18 =>
      intro l2_18 s2_18 s3_18 s4_18 H locs ls hf hP hD hS hl
      replace hf : f_X1_copyFrom_B18 gs go (f_X1_copyFrom_L18 gs go n) l2_18 s2_18 s3_18 s4_18 = some o := hf
      generalize f_X1_copyFrom_L18 gs go n = rec18 at ih18 hf
      unfold f_X1_copyFrom_B18 at hf
      refine lv_iload_n hx hb dX1_copyFrom_18 rfl (lv_at hl 2 rfl) ?_
      refine lv_iconst (v := 4) hx hb dX1_copyFrom_19 (by decide) ?_
      refine lv_icmp_ge (tgt := 65) hx hb dX1_copyFrom_20 (by decide) (fun q1 => ?_) (fun q1 => ?_)
      · replace hf := ifT q1 hf
        refine lv_iconst (v := 0) hx hb dX1_copyFrom_65 (by decide) ?_
        refine lv_istore_n (lv' := [(2, .int 0), (0, .ref (ads 0)), (1, .ref (ado 0))]) hx hb dX1_copyFrom_66 rfl hl (by decide) rfl (fun ls hl => ?_)
        have L67 : ∀ (n : Nat) (l2_67 : Int32) (s5_67 : Ar) (H : Heap) (locs : List Loc) (ls : Array Slot), f_X1_copyFrom_L67 go s2_18 s3_18 s4_18 n l2_67 s5_67 = some o → va_P D vwCl (wSw cI cJ cZ ads ((go.1, go.2.1, s2_18, s3_18, s4_18, s5_67, gs.2.2.2.2.2.2)) ++ wSw cI cJ cZ ado go) H → va_D A (wSw cI cJ cZ ads ((go.1, go.2.1, s2_18, s3_18, s4_18, s5_67, gs.2.2.2.2.2.2)) ++ wSw cI cJ cZ ado go) → va_S A s.heap H locs → lv_has ls 3 [(0, .ref (ads 0)), (1, .ref (ado 0)), (2, .int l2_67)] → W p l e (headSpec wsX1_copyFrom rmX1_copyFrom).room s m ([.ref (ads 0), .ref (ado 0)] : List Value).toArray below meth c H locs 0 0 (MQ below (QV D A (wSw cI cJ cZ ads ((o.1, o.2.1, o.2.2.1, o.2.2.2.1, o.2.2.2.2.1, o.2.2.2.2.2, gs.2.2.2.2.2.2)) ++ wSw cI cJ cZ ado go)) ([.ref (ads 0), .ref (ado 0)] : List Value).toArray s 0 0 A) (F0 m 67 ls []) := by
          intro n
          induction n with
          | zero => intro l2_67 s5_67 H locs ls hf; cases hf
          | succ n ih67 =>
            intro l2_67 s5_67 H locs ls hf hP hD hS hl
            replace hf : f_X1_copyFrom_B67 go s2_18 s3_18 s4_18 (f_X1_copyFrom_L67 go s2_18 s3_18 s4_18 n) l2_67 s5_67 = some o := hf
            generalize f_X1_copyFrom_L67 go s2_18 s3_18 s4_18 n = rec67 at ih67 hf
            unfold f_X1_copyFrom_B67 at hf
            refine lv_iload_n hx hb dX1_copyFrom_67 rfl (lv_at hl 2 rfl) ?_
            refine lv_bipush (v := 8) hx hb dX1_copyFrom_68 (by decide) ?_
            refine lv_icmp_ge (tgt := 91) hx hb dX1_copyFrom_70 (by decide) (fun q2 => ?_) (fun q2 => ?_)
            · replace hf := ifT q2 hf
              obtain rfl := Option.some.inj hf
              exact retV hx hb hr hlocks hP hD hS dX1_copyFrom_91
            · replace hf := ifF q2 hf
              refine lv_aload_n hx hb dX1_copyFrom_73 rfl (lv_at hl 0 rfl) ?_
              refine va_get (D := D) (ci := 1) (v := .ref (ads 4)) (C := RX1) (T := TX1) (N := 10) hx hb hts hinX1 hown hK.1 hP 0 rfl rfl 5 (by decide) hw5 (fun _ h9 => h9) rfl dX1_copyFrom_74 ?_
              refine lv_iload_n hx hb dX1_copyFrom_77 rfl (lv_at hl 2 rfl) ?_
              refine lv_aload_n hx hb dX1_copyFrom_78 rfl (lv_at hl 1 rfl) ?_
              refine va_get (D := D) (ci := 1) (v := .ref (ado 4)) (C := RX1) (T := TX1) (N := 10) hx hb hts hinX1 hown hK.1 hP 5 rfl rfl 5 (by decide) hw5 (fun _ h9 => h9) rfl dX1_copyFrom_79 ?_
              refine lv_iload_n hx hb dX1_copyFrom_82 rfl (lv_at hl 2 rfl) ?_
              replace hf := gdE hf
              obtain ⟨h3, hf⟩ := hf
              refine va_iald hx hb hK.1 hP 9 0 rfl rfl (ib_in h3) dX1_copyFrom_83 ?_
              refine lv_topi (fun v4 ev4 => ?_)
              replace hf := bndE hf ev4
              refine va_iast hx hb hK.1 hP hD hS 4 0 rfl rfl (ib_in h3) dX1_copyFrom_84 (fun H locs hP hD hS => ?_)
              replace hP : va_P D vwCl (wSw cI cJ cZ ads ((go.1, go.2.1, s2_18, s3_18, s4_18, upd s5_67 l2_67.toNatClampNeg v4, gs.2.2.2.2.2.2)) ++ wSw cI cJ cZ ado go) H := hP
              replace hD : va_D A (wSw cI cJ cZ ads ((go.1, go.2.1, s2_18, s3_18, s4_18, upd s5_67 l2_67.toNatClampNeg v4, gs.2.2.2.2.2.2)) ++ wSw cI cJ cZ ado go) := hD
              refine lv_iinc (v := l2_67 + 1) (lv' := [(2, .int (l2_67 + 1)), (0, .ref (ads 0)), (1, .ref (ado 0))]) hx hb dX1_copyFrom_85 hl (k := 2) rfl (by rfl) (by decide) rfl (fun ls hl => ?_)
              refine lv_goto (tgt := 67) hx hb dX1_copyFrom_88 (by decide) ?_
              exact ih67 (l2_67 + 1) (upd s5_67 l2_67.toNatClampNeg v4) _ _ _ hf hP hD hS (lv_sub hl [1, 2, 0] rfl)
        exact L67 fuel 0 gs.2.2.2.2.2.1 _ _ _ hf hP hD hS (lv_sub hl [1, 2, 0] rfl)
      · replace hf := ifF q1 hf
        refine lv_aload_n hx hb dX1_copyFrom_23 rfl (lv_at hl 0 rfl) ?_
        refine va_get (D := D) (ci := 1) (v := .ref (ads 1)) (C := RX1) (T := TX1) (N := 10) hx hb hts hinX1 hown hK.1 hP 0 rfl rfl 2 (by decide) hw2 (fun _ h9 => h9) rfl dX1_copyFrom_24 ?_
        refine lv_iload_n hx hb dX1_copyFrom_27 rfl (lv_at hl 2 rfl) ?_
        refine lv_aload_n hx hb dX1_copyFrom_28 rfl (lv_at hl 1 rfl) ?_
        refine va_get (D := D) (ci := 1) (v := .ref (ado 1)) (C := RX1) (T := TX1) (N := 10) hx hb hts hinX1 hown hK.1 hP 5 rfl rfl 2 (by decide) hw2 (fun _ h9 => h9) rfl dX1_copyFrom_29 ?_
        refine lv_iload_n hx hb dX1_copyFrom_32 rfl (lv_at hl 2 rfl) ?_
        replace hf := gdE hf
        obtain ⟨h5, hf⟩ := hf
        refine va_lald hx hb hK.1 hP 6 1 rfl rfl (ib_in h5) dX1_copyFrom_33 ?_
        refine lv_topl (fun v6 ev6 => ?_)
        replace hf := bndE hf ev6
        refine va_last hx hb hK.1 hP hD hS 1 1 rfl rfl (ib_in h5) dX1_copyFrom_34 (fun H locs hP hD hS => ?_)
        replace hP : va_P D vwCl (wSw cI cJ cZ ads ((go.1, go.2.1, vp_updL s2_18 l2_18.toNatClampNeg v6, s3_18, s4_18, gs.2.2.2.2.2)) ++ wSw cI cJ cZ ado go) H := hP
        replace hD : va_D A (wSw cI cJ cZ ads ((go.1, go.2.1, vp_updL s2_18 l2_18.toNatClampNeg v6, s3_18, s4_18, gs.2.2.2.2.2)) ++ wSw cI cJ cZ ado go) := hD
        refine lv_aload_n hx hb dX1_copyFrom_35 rfl (lv_at hl 0 rfl) ?_
        refine va_get (D := D) (ci := 1) (v := .ref (ads 2)) (C := RX1) (T := TX1) (N := 10) hx hb hts hinX1 hown hK.1 hP 0 rfl rfl 3 (by decide) hw3 (fun _ h9 => h9) rfl dX1_copyFrom_36 ?_
        refine lv_iload_n hx hb dX1_copyFrom_39 rfl (lv_at hl 2 rfl) ?_
        refine lv_aload_n hx hb dX1_copyFrom_40 rfl (lv_at hl 1 rfl) ?_
        refine va_get (D := D) (ci := 1) (v := .ref (ado 2)) (C := RX1) (T := TX1) (N := 10) hx hb hts hinX1 hown hK.1 hP 5 rfl rfl 3 (by decide) hw3 (fun _ h9 => h9) rfl dX1_copyFrom_41 ?_
        refine lv_iload_n hx hb dX1_copyFrom_44 rfl (lv_at hl 2 rfl) ?_
        refine va_lald hx hb hK.1 hP 7 1 rfl rfl (ib_in h5) dX1_copyFrom_45 ?_
        refine lv_topl (fun v7 ev7 => ?_)
        replace hf := bndE hf ev7
        refine va_last hx hb hK.1 hP hD hS 2 1 rfl rfl (ib_in h5) dX1_copyFrom_46 (fun H locs hP hD hS => ?_)
        replace hP : va_P D vwCl (wSw cI cJ cZ ads ((go.1, go.2.1, vp_updL s2_18 l2_18.toNatClampNeg v6, vp_updL s3_18 l2_18.toNatClampNeg v7, s4_18, gs.2.2.2.2.2)) ++ wSw cI cJ cZ ado go) H := hP
        replace hD : va_D A (wSw cI cJ cZ ads ((go.1, go.2.1, vp_updL s2_18 l2_18.toNatClampNeg v6, vp_updL s3_18 l2_18.toNatClampNeg v7, s4_18, gs.2.2.2.2.2)) ++ wSw cI cJ cZ ado go) := hD
        refine lv_aload_n hx hb dX1_copyFrom_47 rfl (lv_at hl 0 rfl) ?_
        refine va_get (D := D) (ci := 1) (v := .ref (ads 3)) (C := RX1) (T := TX1) (N := 10) hx hb hts hinX1 hown hK.1 hP 0 rfl rfl 4 (by decide) hw4 (fun _ h9 => h9) rfl dX1_copyFrom_48 ?_
        refine lv_iload_n hx hb dX1_copyFrom_51 rfl (lv_at hl 2 rfl) ?_
        refine lv_aload_n hx hb dX1_copyFrom_52 rfl (lv_at hl 1 rfl) ?_
        refine va_get (D := D) (ci := 1) (v := .ref (ado 3)) (C := RX1) (T := TX1) (N := 10) hx hb hts hinX1 hown hK.1 hP 5 rfl rfl 4 (by decide) hw4 (fun _ h9 => h9) rfl dX1_copyFrom_53 ?_
        refine lv_iload_n hx hb dX1_copyFrom_56 rfl (lv_at hl 2 rfl) ?_
        refine va_zald hx hb hK.1 hP 8 2 rfl rfl (ib_in h5) dX1_copyFrom_57 ?_
        refine lv_topi (fun v8 ev8 => ?_)
        replace hf := bndE hf ev8
        refine va_zast hx hb hK.1 hP hD hS 3 2 rfl rfl (ib_in h5) dX1_copyFrom_58 (fun H locs hP hD hS => ?_)
        replace hP : va_P D vwCl (wSw cI cJ cZ ads ((go.1, go.2.1, vp_updL s2_18 l2_18.toNatClampNeg v6, vp_updL s3_18 l2_18.toNatClampNeg v7, upd s4_18 l2_18.toNatClampNeg (vp_nar .boolean v8), gs.2.2.2.2.2)) ++ wSw cI cJ cZ ado go) H := hP
        replace hD : va_D A (wSw cI cJ cZ ads ((go.1, go.2.1, vp_updL s2_18 l2_18.toNatClampNeg v6, vp_updL s3_18 l2_18.toNatClampNeg v7, upd s4_18 l2_18.toNatClampNeg (vp_nar .boolean v8), gs.2.2.2.2.2)) ++ wSw cI cJ cZ ado go) := hD
        refine lv_iinc (v := l2_18 + 1) (lv' := [(2, .int (l2_18 + 1)), (0, .ref (ads 0)), (1, .ref (ado 0))]) hx hb dX1_copyFrom_59 hl (k := 2) rfl (by rfl) (by decide) rfl (fun ls hl => ?_)
        refine lv_goto (tgt := 18) hx hb dX1_copyFrom_62 (by decide) ?_
        exact ih18 (l2_18 + 1) (vp_updL s2_18 l2_18.toNatClampNeg v6) (vp_updL s3_18 l2_18.toNatClampNeg v7) (upd s4_18 l2_18.toNatClampNeg (vp_nar .boolean v8)) _ _ _ hf hP hD hS (lv_sub hl [1, 2, 0] rfl)
  exact L18 fuel 0 gs.2.2.1 gs.2.2.2.1 gs.2.2.2.2.1 _ _ _ hf hP hD hS (lv_sub hl [1, 2, 0] rfl)

def f_X1_chooseTurning_J136 (l2_2 : Int32) (rec2 : (Int32 → Int32 → Int64 → Int64 → Option (Int32 × Int64 × Int64))) (s6_136 : Int32) (s8_136 : Int64) (s9_136 : Int64) : Option (Int32 × Int64 × Int64) :=
rec2 (l2_2 + 1) s6_136 s8_136 s9_136
def f_X1_chooseTurning_J120 (l2_2 : Int32) (rec2 : (Int32 → Int32 → Int64 → Int64 → Option (Int32 × Int64 × Int64))) (k0_64 : Int64) (v3 : Int64)  : Option (Int32 × Int64 × Int64) :=
f_X1_chooseTurning_J136 l2_2 rec2 l2_2 k0_64 v3
def f_X1_chooseTurning_J95 (gs : Sw) (l2_2 : Int32) (s6_2 : Int32) (s8_2 : Int64) (s9_2 : Int64) (rec2 : (Int32 → Int32 → Int64 → Int64 → Option (Int32 × Int64 × Int64))) (k0_64 : Int64) (k1_95 : Int32) : Option (Int32 × Int64 × Int64) :=
bnd ((gs.2.2.2.1 l2_2.toNatClampNeg) * k1_95.toInt64) (fun v3 =>
if l2_2 = 0 then
f_X1_chooseTurning_J120 l2_2 rec2 k0_64 v3
else
if (0 : Int32) ≤ (lg_cmp (k0_64 * s9_2) (s8_2 * v3)) then
f_X1_chooseTurning_J136 l2_2 rec2 s6_2 s8_2 s9_2
else
f_X1_chooseTurning_J120 l2_2 rec2 k0_64 v3)
def f_X1_chooseTurning_J64 (gs : Sw) (gc : Ci) (l2_2 : Int32) (s6_2 : Int32) (s8_2 : Int64) (s9_2 : Int64) (rec2 : (Int32 → Int32 → Int64 → Int64 → Option (Int32 × Int64 × Int64))) (k0_64 : Int64) : Option (Int32 × Int64 × Int64) :=
if (gs.2.2.2.2.1 l2_2.toNatClampNeg) = 0 then
f_X1_chooseTurning_J95 gs l2_2 s6_2 s8_2 s9_2 rec2 k0_64 (gc.2.2.2.2.1 l2_2.toNatClampNeg)
else
f_X1_chooseTurning_J95 gs l2_2 s6_2 s8_2 s9_2 rec2 k0_64 (gc.2.2.2.1 l2_2.toNatClampNeg)
def f_X1_chooseTurning_B2 (gs : Sw) (gc : Ci) (rec2 : Int32 → Int32 → Int64 → Int64 → Option (Int32 × Int64 × Int64)) (l2_2 : Int32) (s6_2 : Int32) (s8_2 : Int64) (s9_2 : Int64) : Option (Int32 × Int64 × Int64) :=
if gc.1 ≤ l2_2 then
some (s6_2, s8_2, s9_2)
else
gd (ib l2_2 4) (
if (gs.2.2.2.2.1 l2_2.toNatClampNeg) = 0 then
f_X1_chooseTurning_J64 gs gc l2_2 s6_2 s8_2 s9_2 rec2 ((gs.2.2.1 l2_2.toNatClampNeg) - (((gc.2.1 l2_2.toNatClampNeg).toInt64) * (gs.2.2.2.1 l2_2.toNatClampNeg)))
else
f_X1_chooseTurning_J64 gs gc l2_2 s6_2 s8_2 s9_2 rec2 ((((gc.2.2.1 l2_2.toNatClampNeg).toInt64) * (gs.2.2.2.1 l2_2.toNatClampNeg)) - (gs.2.2.1 l2_2.toNatClampNeg)))
def f_X1_chooseTurning_L2 (gs : Sw) (gc : Ci) : Nat → Int32 → Int32 → Int64 → Int64 → Option (Int32 × Int64 × Int64)
  | 0 => fun _ _ _ _ => none
  | n + 1 => f_X1_chooseTurning_B2 gs gc (f_X1_chooseTurning_L2 gs gc n)
def f_X1_chooseTurning (gs : Sw) (gc : Ci) : Option (Int32 × Int64 × Int64) :=
f_X1_chooseTurning_L2 gs gc fuel 0 gs.2.2.2.2.2.2.1 gs.2.2.2.2.2.2.2.2.1 gs.2.2.2.2.2.2.2.2.2
abbrev rmX1_chooseTurning : Room := { frames := 0, cells := 0, slots := 0, locals := 0 }
set_option maxHeartbeats 40000000 in
set_option maxRecDepth 100000 in
theorem c_X1_chooseTurning (l : Launch) (D : va_G) (cI cJ cZ : ClassId) (ads : Nat → Nat) (adc : Nat → Nat) (gs : Sw) (gc : Ci) (o : (Int32 × Int64 × Int64)) (hf : f_X1_chooseTurning gs gc = some o) : CtV l yX1_chooseTurning wsX1_chooseTurning rmX1_chooseTurning D cI cJ cZ [.ref (ads 0), .ref (adc 0)] (wSw cI cJ cZ ads gs ++ wCi cI adc gc) (wSw cI cJ cZ ads ((gs.1, gs.2.1, gs.2.2.1, gs.2.2.2.1, gs.2.2.2.2.1, gs.2.2.2.2.2.1, o.1, gs.2.2.2.2.2.2.2.1, o.2.1, o.2.2)) ++ wCi cI adc gc) := by
  intro sz
  refine Met.ofW (cc := cX1_chooseTurning) (maxL := 7) (ret := none) (by decide) rfl ?_
  intro p e s m args below meth c s₁ B hml hv
  obtain ⟨rfl, hsz, hP, hK, hD0⟩ := hv
  have hx := B.exec
  have hb := B.bytes
  have hr := B.returns
  have hts := atoms_spec (ws := wsX1_chooseTurning) B.pre
  have hown : s.vm.findClass RX1 = some m.cls := findClass_of_methodNamed B.named
  have hlocks := B.notSynchronized
  subst hsz
  have hD := hD0.self (sz := s.heap.size)
  clear hD0
  generalize hAe : va_A (wSw cI cJ cZ ads gs ++ wCi cI adc gc) s.heap.size = A at hD ⊢
  have hA : ∀ q : Nat, s.heap.size ≤ q → A q := fun q h => by rw [← hAe]; exact Or.inr h
  have hS : va_S A s.heap s.heap [] := va_S.rf
  have hinX0 : ∀ w ∈ wsX00, w ∈ wsX1_chooseTurning := by decide +kernel
  have hinX1 : ∀ w ∈ wsX10, w ∈ wsX1_chooseTurning := by decide +kernel
  have hw0 : (Cond.fieldLink RX1 51 "SwingCircuits$Circuit" "cells" "I").before _ s = true := hts _ (by decide +kernel)
  have hw1 : (Cond.fieldLink RX1 25 "SwingCircuits$Swing" "filling" "[Z").before _ s = true := hts _ (by decide +kernel)
  have hw2 : (Cond.fieldLink RX1 68 "SwingCircuits$Circuit" "high" "[I").before _ s = true := hts _ (by decide +kernel)
  have hw3 : (Cond.fieldLink RX1 22 "SwingCircuits$Swing" "den" "[J").before _ s = true := hts _ (by decide +kernel)
  have hw4 : (Cond.fieldLink RX1 18 "SwingCircuits$Swing" "num" "[J").before _ s = true := hts _ (by decide +kernel)
  have hw5 : (Cond.fieldLink RX1 71 "SwingCircuits$Circuit" "rise" "[I").before _ s = true := hts _ (by decide +kernel)
  have hw6 : (Cond.fieldLink RX1 43 "SwingCircuits$Swing" "waitDen" "J").before _ s = true := hts _ (by decide +kernel)
  have hw7 : (Cond.fieldLink RX1 40 "SwingCircuits$Swing" "waitNum" "J").before _ s = true := hts _ (by decide +kernel)
  have hw8 : (Cond.fieldLink RX1 33 "SwingCircuits$Swing" "turned" "I").before _ s = true := hts _ (by decide +kernel)
  have hw9 : (Cond.fieldLink RX1 74 "SwingCircuits$Circuit" "fall" "[I").before _ s = true := hts _ (by decide +kernel)
  have hw10 : (Cond.fieldLink RX1 46 "SwingCircuits$Circuit" "low" "[I").before _ s = true := hts _ (by decide +kernel)
  have hl := lv_entry ([.ref (ads 0), .ref (adc 0)]) (n := 7) (Nat.le_of_ble_eq_true rfl)
  rw [lg_entry_eq]
  generalize (lg_sl ([.ref (ads 0), .ref (adc 0)]) ++ List.replicate (7 - (lg_sl ([.ref (ads 0), .ref (adc 0)])).length) Slot.unset).toArray = ls at hl ⊢
  replace hl : lv_has ls 7 [(0, .ref (ads 0)), (1, .ref (adc 0))] := hl
  unfold f_X1_chooseTurning at hf
  refine lv_iconst (v := 0) hx hb dX1_chooseTurning_0 (by decide) ?_
  refine lv_istore_n (lv' := [(2, .int 0), (0, .ref (ads 0)), (1, .ref (adc 0))]) hx hb dX1_chooseTurning_1 rfl hl (by decide) rfl (fun ls hl => ?_)
  have L2 : ∀ (n : Nat) (l2_2 : Int32) (s6_2 : Int32) (s8_2 : Int64) (s9_2 : Int64) (H : Heap) (locs : List Loc) (ls : Array Slot), f_X1_chooseTurning_L2 gs gc n l2_2 s6_2 s8_2 s9_2 = some o → va_P D vwCl (wSw cI cJ cZ ads ((gs.1, gs.2.1, gs.2.2.1, gs.2.2.2.1, gs.2.2.2.2.1, gs.2.2.2.2.2.1, s6_2, gs.2.2.2.2.2.2.2.1, s8_2, s9_2)) ++ wCi cI adc gc) H → va_D A (wSw cI cJ cZ ads ((gs.1, gs.2.1, gs.2.2.1, gs.2.2.2.1, gs.2.2.2.2.1, gs.2.2.2.2.2.1, s6_2, gs.2.2.2.2.2.2.2.1, s8_2, s9_2)) ++ wCi cI adc gc) → va_S A s.heap H locs → lv_has ls 7 [(0, .ref (ads 0)), (1, .ref (adc 0)), (2, .int l2_2)] → W p l e (headSpec wsX1_chooseTurning rmX1_chooseTurning).room s m ([.ref (ads 0), .ref (adc 0)] : List Value).toArray below meth c H locs 0 0 (MQ below (QV D A (wSw cI cJ cZ ads ((gs.1, gs.2.1, gs.2.2.1, gs.2.2.2.1, gs.2.2.2.2.1, gs.2.2.2.2.2.1, o.1, gs.2.2.2.2.2.2.2.1, o.2.1, o.2.2)) ++ wCi cI adc gc)) ([.ref (ads 0), .ref (adc 0)] : List Value).toArray s 0 0 A) (F0 m 2 ls []) := by
    intro n
    induction n with
    | zero => intro l2_2 s6_2 s8_2 s9_2 H locs ls hf; cases hf
    | succ n ih2 =>
      intro l2_2 s6_2 s8_2 s9_2 H locs ls hf hP hD hS hl
      replace hf : f_X1_chooseTurning_B2 gs gc (f_X1_chooseTurning_L2 gs gc n) l2_2 s6_2 s8_2 s9_2 = some o := hf
      generalize f_X1_chooseTurning_L2 gs gc n = rec2 at ih2 hf
      unfold f_X1_chooseTurning_B2 at hf
      refine lv_iload_n hx hb dX1_chooseTurning_2 rfl (lv_at hl 2 rfl) ?_
      refine lv_aload_n hx hb dX1_chooseTurning_3 rfl (lv_at hl 1 rfl) ?_
      refine va_get (D := D) (ci := 0) (v := .int gc.1) (C := RX0) (T := TX0) (N := 12) hx hb hts hinX0 hown hK.1 hP 5 rfl rfl 0 (by decide) hw0 (fun _ h9 => h9) rfl dX1_chooseTurning_4 ?_
      refine lv_icmp_ge (tgt := 142) hx hb dX1_chooseTurning_7 (by decide) (fun q1 => ?_) (fun q1 => ?_)
      · replace hf := ifT q1 hf
        obtain rfl := Option.some.inj hf
        exact retV hx hb hr hlocks hP hD hS dX1_chooseTurning_142
      · replace hf := ifF q1 hf
        refine lv_aload_n hx hb dX1_chooseTurning_10 rfl (lv_at hl 0 rfl) ?_
        refine va_get (D := D) (ci := 1) (v := .ref (ads 3)) (C := RX1) (T := TX1) (N := 10) hx hb hts hinX1 hown hK.1 hP 0 rfl rfl 4 (by decide) hw1 (fun _ h9 => h9) rfl dX1_chooseTurning_11 ?_
        refine lv_iload_n hx hb dX1_chooseTurning_14 rfl (lv_at hl 2 rfl) ?_
        replace hf := gdE hf
        obtain ⟨h2, hf⟩ := hf
        refine va_zald hx hb hK.1 hP 3 2 rfl rfl (ib_in h2) dX1_chooseTurning_15 ?_
        have J64 : ∀ (k0_64 : Int64) (H : Heap) (locs : List Loc) (ls : Array Slot), f_X1_chooseTurning_J64 gs gc l2_2 s6_2 s8_2 s9_2 rec2 k0_64 = some o → va_P D vwCl (wSw cI cJ cZ ads ((gs.1, gs.2.1, gs.2.2.1, gs.2.2.2.1, gs.2.2.2.2.1, gs.2.2.2.2.2.1, s6_2, gs.2.2.2.2.2.2.2.1, s8_2, s9_2)) ++ wCi cI adc gc) H → va_D A (wSw cI cJ cZ ads ((gs.1, gs.2.1, gs.2.2.1, gs.2.2.2.1, gs.2.2.2.2.1, gs.2.2.2.2.2.1, s6_2, gs.2.2.2.2.2.2.2.1, s8_2, s9_2)) ++ wCi cI adc gc) → va_S A s.heap H locs → lv_has ls 7 [(0, .ref (ads 0)), (1, .ref (adc 0)), (2, .int l2_2)] → W p l e (headSpec wsX1_chooseTurning rmX1_chooseTurning).room s m ([.ref (ads 0), .ref (adc 0)] : List Value).toArray below meth c H locs 0 0 (MQ below (QV D A (wSw cI cJ cZ ads ((gs.1, gs.2.1, gs.2.2.1, gs.2.2.2.1, gs.2.2.2.2.1, gs.2.2.2.2.2.1, o.1, gs.2.2.2.2.2.2.2.1, o.2.1, o.2.2)) ++ wCi cI adc gc)) ([.ref (ads 0), .ref (adc 0)] : List Value).toArray s 0 0 A) (F0 m 64 ls [.long k0_64]) := by
          intro k0_64 H locs ls hf hP hD hS hl
          unfold f_X1_chooseTurning_J64 at hf
          refine lv_lstore_n (lv' := [(3, .long k0_64), (0, .ref (ads 0)), (1, .ref (adc 0)), (2, .int l2_2)]) hx hb dX1_chooseTurning_64 rfl hl (by decide) rfl (fun ls hl => ?_)
          refine lv_aload_n hx hb dX1_chooseTurning_65 rfl (lv_at hl 1 rfl) ?_
          refine va_get (D := D) (ci := 1) (v := .ref (ads 2)) (C := RX1) (T := TX1) (N := 10) hx hb hts hinX1 hown hK.1 hP 0 rfl rfl 3 (by decide) hw3 (fun _ h9 => h9) rfl dX1_chooseTurning_66 ?_
          refine lv_iload_n hx hb dX1_chooseTurning_69 rfl (lv_at hl 3 rfl) ?_
          refine va_lald hx hb hK.1 hP 2 1 rfl rfl (ib_in h2) dX1_chooseTurning_70 ?_
          refine lv_aload_n hx hb dX1_chooseTurning_71 rfl (lv_at hl 1 rfl) ?_
          refine va_get (D := D) (ci := 1) (v := .ref (ads 3)) (C := RX1) (T := TX1) (N := 10) hx hb hts hinX1 hown hK.1 hP 0 rfl rfl 4 (by decide) hw1 (fun _ h9 => h9) rfl dX1_chooseTurning_72 ?_
          refine lv_iload_n hx hb dX1_chooseTurning_75 rfl (lv_at hl 3 rfl) ?_
          refine va_zald hx hb hK.1 hP 3 2 rfl rfl (ib_in h2) dX1_chooseTurning_76 ?_
          have J95 : ∀ (k1_95 : Int32) (H : Heap) (locs : List Loc) (ls : Array Slot), f_X1_chooseTurning_J95 gs l2_2 s6_2 s8_2 s9_2 rec2 k0_64 k1_95 = some o → va_P D vwCl (wSw cI cJ cZ ads ((gs.1, gs.2.1, gs.2.2.1, gs.2.2.2.1, gs.2.2.2.2.1, gs.2.2.2.2.2.1, s6_2, gs.2.2.2.2.2.2.2.1, s8_2, s9_2)) ++ wCi cI adc gc) H → va_D A (wSw cI cJ cZ ads ((gs.1, gs.2.1, gs.2.2.1, gs.2.2.2.1, gs.2.2.2.2.1, gs.2.2.2.2.2.1, s6_2, gs.2.2.2.2.2.2.2.1, s8_2, s9_2)) ++ wCi cI adc gc) → va_S A s.heap H locs → lv_has ls 7 [(0, .ref (ads 0)), (1, .ref (adc 0)), (2, .int l2_2), (3, .long k0_64)] → W p l e (headSpec wsX1_chooseTurning rmX1_chooseTurning).room s m ([.ref (ads 0), .ref (adc 0)] : List Value).toArray below meth c H locs 0 0 (MQ below (QV D A (wSw cI cJ cZ ads ((gs.1, gs.2.1, gs.2.2.1, gs.2.2.2.1, gs.2.2.2.2.1, gs.2.2.2.2.2.1, o.1, gs.2.2.2.2.2.2.2.1, o.2.1, o.2.2)) ++ wCi cI adc gc)) ([.ref (ads 0), .ref (adc 0)] : List Value).toArray s 0 0 A) (F0 m 95 ls [.int k1_95, .long (gs.2.2.2.1 l2_2.toNatClampNeg)]) := by
            intro k1_95 H locs ls hf hP hD hS hl
            unfold f_X1_chooseTurning_J95 at hf
            refine lv_i2l hx hb dX1_chooseTurning_95 rfl ?_
            refine lv_lmul hx hb dX1_chooseTurning_96 ?_
            refine lv_topl (fun v3 ev3 => ?_)
            replace hf := bndE hf ev3
            refine lv_lstore (lv' := [(5, .long v3), (0, .ref (ads 0)), (1, .ref (adc 0)), (2, .int l2_2), (3, .long k0_64)]) hx hb dX1_chooseTurning_97 hl (by decide) rfl (fun ls hl => ?_)
            refine lv_iload_n hx hb dX1_chooseTurning_99 rfl (lv_at hl 3 rfl) ?_
            have J136 : ∀ (s6_136 : Int32) (s8_136 : Int64) (s9_136 : Int64) (H : Heap) (locs : List Loc) (ls : Array Slot), f_X1_chooseTurning_J136 l2_2 rec2 s6_136 s8_136 s9_136 = some o → va_P D vwCl (wSw cI cJ cZ ads ((gs.1, gs.2.1, gs.2.2.1, gs.2.2.2.1, gs.2.2.2.2.1, gs.2.2.2.2.2.1, s6_136, gs.2.2.2.2.2.2.2.1, s8_136, s9_136)) ++ wCi cI adc gc) H → va_D A (wSw cI cJ cZ ads ((gs.1, gs.2.1, gs.2.2.1, gs.2.2.2.1, gs.2.2.2.2.1, gs.2.2.2.2.2.1, s6_136, gs.2.2.2.2.2.2.2.1, s8_136, s9_136)) ++ wCi cI adc gc) → va_S A s.heap H locs → lv_has ls 7 [(0, .ref (ads 0)), (1, .ref (adc 0)), (2, .int l2_2)] → W p l e (headSpec wsX1_chooseTurning rmX1_chooseTurning).room s m ([.ref (ads 0), .ref (adc 0)] : List Value).toArray below meth c H locs 0 0 (MQ below (QV D A (wSw cI cJ cZ ads ((gs.1, gs.2.1, gs.2.2.1, gs.2.2.2.1, gs.2.2.2.2.1, gs.2.2.2.2.2.1, o.1, gs.2.2.2.2.2.2.2.1, o.2.1, o.2.2)) ++ wCi cI adc gc)) ([.ref (ads 0), .ref (adc 0)] : List Value).toArray s 0 0 A) (F0 m 136 ls []) := by
              intro s6_136 s8_136 s9_136 H locs ls hf hP hD hS hl
              unfold f_X1_chooseTurning_J136 at hf
              refine lv_iinc (v := l2_2 + 1) (lv' := [(2, .int (l2_2 + 1)), (0, .ref (ads 0)), (1, .ref (adc 0))]) hx hb dX1_chooseTurning_136 hl (k := 2) rfl (by rfl) (by decide) rfl (fun ls hl => ?_)
              refine lv_goto (tgt := 2) hx hb dX1_chooseTurning_139 (by decide) ?_
              exact ih2 (l2_2 + 1) s6_136 s8_136 s9_136 _ _ _ hf hP hD hS (lv_sub hl [1, 2, 0] rfl)
            have J120 : ∀  (H : Heap) (locs : List Loc) (ls : Array Slot), f_X1_chooseTurning_J120 l2_2 rec2 k0_64 v3  = some o → va_P D vwCl (wSw cI cJ cZ ads ((gs.1, gs.2.1, gs.2.2.1, gs.2.2.2.1, gs.2.2.2.2.1, gs.2.2.2.2.2.1, s6_2, gs.2.2.2.2.2.2.2.1, s8_2, s9_2)) ++ wCi cI adc gc) H → va_D A (wSw cI cJ cZ ads ((gs.1, gs.2.1, gs.2.2.1, gs.2.2.2.1, gs.2.2.2.2.1, gs.2.2.2.2.2.1, s6_2, gs.2.2.2.2.2.2.2.1, s8_2, s9_2)) ++ wCi cI adc gc) → va_S A s.heap H locs → lv_has ls 7 [(0, .ref (ads 0)), (1, .ref (adc 0)), (2, .int l2_2), (3, .long k0_64), (5, .long v3)] → W p l e (headSpec wsX1_chooseTurning rmX1_chooseTurning).room s m ([.ref (ads 0), .ref (adc 0)] : List Value).toArray below meth c H locs 0 0 (MQ below (QV D A (wSw cI cJ cZ ads ((gs.1, gs.2.1, gs.2.2.1, gs.2.2.2.1, gs.2.2.2.2.1, gs.2.2.2.2.2.1, o.1, gs.2.2.2.2.2.2.2.1, o.2.1, o.2.2)) ++ wCi cI adc gc)) ([.ref (ads 0), .ref (adc 0)] : List Value).toArray s 0 0 A) (F0 m 120 ls []) := by
              intro  H locs ls hf hP hD hS hl
              unfold f_X1_chooseTurning_J120 at hf
              refine lv_aload_n hx hb dX1_chooseTurning_120 rfl (lv_at hl 0 rfl) ?_
              refine lv_iload_n hx hb dX1_chooseTurning_121 rfl (lv_at hl 2 rfl) ?_
              refine va_put (D := D) (ci := 1) (v := .int l2_2) (ty := .int) (C := RX1) (T := TX1) (N := 10) hx hb hts hinX1 tyX1 tyX1_ok nmX1 hown hK.1 hP hD hS 0 rfl rfl 6 (by decide) hw8 (fun _ h9 => h9) rfl (by decide +kernel) rfl rfl (Nat.le_of_ble_eq_true rfl) dX1_chooseTurning_122 (fun H locs hP hD hS => ?_)
              replace hP : va_P D vwCl (wSw cI cJ cZ ads ((gs.1, gs.2.1, gs.2.2.1, gs.2.2.2.1, gs.2.2.2.2.1, gs.2.2.2.2.2.1, l2_2, gs.2.2.2.2.2.2.2.1, s8_2, s9_2)) ++ wCi cI adc gc) H := hP
              replace hD : va_D A (wSw cI cJ cZ ads ((gs.1, gs.2.1, gs.2.2.1, gs.2.2.2.1, gs.2.2.2.2.1, gs.2.2.2.2.2.1, l2_2, gs.2.2.2.2.2.2.2.1, s8_2, s9_2)) ++ wCi cI adc gc) := hD
              refine lv_aload_n hx hb dX1_chooseTurning_125 rfl (lv_at hl 0 rfl) ?_
              refine lv_lload_n hx hb dX1_chooseTurning_126 rfl (lv_at hl 3 rfl) ?_
              refine va_put (D := D) (ci := 1) (v := .long k0_64) (ty := .long) (C := RX1) (T := TX1) (N := 10) hx hb hts hinX1 tyX1 tyX1_ok nmX1 hown hK.1 hP hD hS 0 rfl rfl 8 (by decide) hw7 (fun _ h9 => h9) rfl (by decide +kernel) rfl rfl (Nat.le_of_ble_eq_true rfl) dX1_chooseTurning_127 (fun H locs hP hD hS => ?_)
              replace hP : va_P D vwCl (wSw cI cJ cZ ads ((gs.1, gs.2.1, gs.2.2.1, gs.2.2.2.1, gs.2.2.2.2.1, gs.2.2.2.2.2.1, l2_2, gs.2.2.2.2.2.2.2.1, k0_64, s9_2)) ++ wCi cI adc gc) H := hP
              replace hD : va_D A (wSw cI cJ cZ ads ((gs.1, gs.2.1, gs.2.2.1, gs.2.2.2.1, gs.2.2.2.2.1, gs.2.2.2.2.2.1, l2_2, gs.2.2.2.2.2.2.2.1, k0_64, s9_2)) ++ wCi cI adc gc) := hD
              refine lv_aload_n hx hb dX1_chooseTurning_130 rfl (lv_at hl 0 rfl) ?_
              refine lv_lload hx hb dX1_chooseTurning_131 (lv_at hl 4 rfl) ?_
              refine va_put (D := D) (ci := 1) (v := .long v3) (ty := .long) (C := RX1) (T := TX1) (N := 10) hx hb hts hinX1 tyX1 tyX1_ok nmX1 hown hK.1 hP hD hS 0 rfl rfl 9 (by decide) hw6 (fun _ h9 => h9) rfl (by decide +kernel) rfl rfl (Nat.le_of_ble_eq_true rfl) dX1_chooseTurning_133 (fun H locs hP hD hS => ?_)
              replace hP : va_P D vwCl (wSw cI cJ cZ ads ((gs.1, gs.2.1, gs.2.2.1, gs.2.2.2.1, gs.2.2.2.2.1, gs.2.2.2.2.2.1, l2_2, gs.2.2.2.2.2.2.2.1, k0_64, v3)) ++ wCi cI adc gc) H := hP
              replace hD : va_D A (wSw cI cJ cZ ads ((gs.1, gs.2.1, gs.2.2.1, gs.2.2.2.1, gs.2.2.2.2.1, gs.2.2.2.2.2.1, l2_2, gs.2.2.2.2.2.2.2.1, k0_64, v3)) ++ wCi cI adc gc) := hD
              exact J136 l2_2 k0_64 v3 _ _ _ hf hP hD hS (lv_sub hl [0, 1, 2] rfl)
            refine lv_if_eq (tgt := 120) hx hb dX1_chooseTurning_100 (by decide) (fun q4 => ?_) (fun q4 => ?_)
            · replace hf := ifT q4 hf
              exact J120  _ _ _ hf hP hD hS (lv_sub hl [1, 2, 3, 4, 0] rfl)
            · replace hf := ifF q4 hf
              refine lv_lload_n hx hb dX1_chooseTurning_103 rfl (lv_at hl 4 rfl) ?_
              refine lv_aload_n hx hb dX1_chooseTurning_104 rfl (lv_at hl 1 rfl) ?_
              refine va_get (D := D) (ci := 1) (v := .long s9_2) (C := RX1) (T := TX1) (N := 10) hx hb hts hinX1 hown hK.1 hP 0 rfl rfl 9 (by decide) hw6 (fun _ h9 => h9) rfl dX1_chooseTurning_105 ?_
              refine lv_lmul hx hb dX1_chooseTurning_108 ?_
              refine lv_aload_n hx hb dX1_chooseTurning_109 rfl (lv_at hl 1 rfl) ?_
              refine va_get (D := D) (ci := 1) (v := .long s8_2) (C := RX1) (T := TX1) (N := 10) hx hb hts hinX1 hown hK.1 hP 0 rfl rfl 8 (by decide) hw7 (fun _ h9 => h9) rfl dX1_chooseTurning_110 ?_
              refine lv_lload hx hb dX1_chooseTurning_113 (lv_at hl 0 rfl) ?_
              refine lv_lmul hx hb dX1_chooseTurning_115 ?_
              refine W.lcmp hx hb dX1_chooseTurning_116 ?_
              refine lv_if_ge (tgt := 136) hx hb dX1_chooseTurning_117 (by decide) (fun q5 => ?_) (fun q5 => ?_)
              · replace hf := ifT q5 hf
                exact J136 s6_2 s8_2 s9_2 _ _ _ hf hP hD hS (lv_sub hl [1, 2, 3] rfl)
              · replace hf := ifF q5 hf
                exact J120  _ _ _ hf hP hD hS (lv_sub hl [1, 2, 3, 4, 0] rfl)
          refine lv_if_eq (tgt := 89) hx hb dX1_chooseTurning_77 (by decide) (fun q6 => ?_) (fun q6 => ?_)
          · replace hf := ifT q6 hf
            refine lv_aload_n hx hb dX1_chooseTurning_89 rfl (lv_at hl 2 rfl) ?_
            refine va_get (D := D) (ci := 0) (v := .ref (adc 4)) (C := RX0) (T := TX0) (N := 12) hx hb hts hinX0 hown hK.1 hP 5 rfl rfl 4 (by decide) hw9 (fun _ h9 => h9) rfl dX1_chooseTurning_90 ?_
            refine lv_iload_n hx hb dX1_chooseTurning_93 rfl (lv_at hl 3 rfl) ?_
            refine va_iald hx hb hK.1 hP 9 0 rfl rfl (ib_in h2) dX1_chooseTurning_94 ?_
            exact J95 (gc.2.2.2.2.1 l2_2.toNatClampNeg) _ _ _ hf hP hD hS (lv_sub hl [1, 2, 3, 0] rfl)
          · replace hf := ifF q6 hf
            refine lv_aload_n hx hb dX1_chooseTurning_80 rfl (lv_at hl 2 rfl) ?_
            refine va_get (D := D) (ci := 0) (v := .ref (adc 3)) (C := RX0) (T := TX0) (N := 12) hx hb hts hinX0 hown hK.1 hP 5 rfl rfl 3 (by decide) hw5 (fun _ h9 => h9) rfl dX1_chooseTurning_81 ?_
            refine lv_iload_n hx hb dX1_chooseTurning_84 rfl (lv_at hl 3 rfl) ?_
            refine va_iald hx hb hK.1 hP 8 0 rfl rfl (ib_in h2) dX1_chooseTurning_85 ?_
            refine lv_goto (tgt := 95) hx hb dX1_chooseTurning_86 (by decide) ?_
            exact J95 (gc.2.2.2.1 l2_2.toNatClampNeg) _ _ _ hf hP hD hS (lv_sub hl [1, 2, 3, 0] rfl)
        refine lv_if_eq (tgt := 43) hx hb dX1_chooseTurning_16 (by decide) (fun q7 => ?_) (fun q7 => ?_)
        · replace hf := ifT q7 hf
          refine lv_aload_n hx hb dX1_chooseTurning_43 rfl (lv_at hl 0 rfl) ?_
          refine va_get (D := D) (ci := 1) (v := .ref (ads 1)) (C := RX1) (T := TX1) (N := 10) hx hb hts hinX1 hown hK.1 hP 0 rfl rfl 2 (by decide) hw4 (fun _ h9 => h9) rfl dX1_chooseTurning_44 ?_
          refine lv_iload_n hx hb dX1_chooseTurning_47 rfl (lv_at hl 2 rfl) ?_
          refine va_lald hx hb hK.1 hP 1 1 rfl rfl (ib_in h2) dX1_chooseTurning_48 ?_
          refine lv_aload_n hx hb dX1_chooseTurning_49 rfl (lv_at hl 1 rfl) ?_
          refine va_get (D := D) (ci := 0) (v := .ref (adc 1)) (C := RX0) (T := TX0) (N := 12) hx hb hts hinX0 hown hK.1 hP 5 rfl rfl 1 (by decide) hw10 (fun _ h9 => h9) rfl dX1_chooseTurning_50 ?_
          refine lv_iload_n hx hb dX1_chooseTurning_53 rfl (lv_at hl 2 rfl) ?_
          refine va_iald hx hb hK.1 hP 6 0 rfl rfl (ib_in h2) dX1_chooseTurning_54 ?_
          refine lv_i2l hx hb dX1_chooseTurning_55 rfl ?_
          refine lv_aload_n hx hb dX1_chooseTurning_56 rfl (lv_at hl 0 rfl) ?_
          refine va_get (D := D) (ci := 1) (v := .ref (ads 2)) (C := RX1) (T := TX1) (N := 10) hx hb hts hinX1 hown hK.1 hP 0 rfl rfl 3 (by decide) hw3 (fun _ h9 => h9) rfl dX1_chooseTurning_57 ?_
          refine lv_iload_n hx hb dX1_chooseTurning_60 rfl (lv_at hl 2 rfl) ?_
          refine va_lald hx hb hK.1 hP 2 1 rfl rfl (ib_in h2) dX1_chooseTurning_61 ?_
          refine lv_lmul hx hb dX1_chooseTurning_62 ?_
          refine lv_lsub hx hb dX1_chooseTurning_63 ?_
          exact J64 ((gs.2.2.1 l2_2.toNatClampNeg) - (((gc.2.1 l2_2.toNatClampNeg).toInt64) * (gs.2.2.2.1 l2_2.toNatClampNeg))) _ _ _ hf hP hD hS (lv_sub hl [0, 1, 2] rfl)
        · replace hf := ifF q7 hf
          refine lv_aload_n hx hb dX1_chooseTurning_19 rfl (lv_at hl 1 rfl) ?_
          refine va_get (D := D) (ci := 0) (v := .ref (adc 2)) (C := RX0) (T := TX0) (N := 12) hx hb hts hinX0 hown hK.1 hP 5 rfl rfl 2 (by decide) hw2 (fun _ h9 => h9) rfl dX1_chooseTurning_20 ?_
          refine lv_iload_n hx hb dX1_chooseTurning_23 rfl (lv_at hl 2 rfl) ?_
          refine va_iald hx hb hK.1 hP 7 0 rfl rfl (ib_in h2) dX1_chooseTurning_24 ?_
          refine lv_i2l hx hb dX1_chooseTurning_25 rfl ?_
          refine lv_aload_n hx hb dX1_chooseTurning_26 rfl (lv_at hl 0 rfl) ?_
          refine va_get (D := D) (ci := 1) (v := .ref (ads 2)) (C := RX1) (T := TX1) (N := 10) hx hb hts hinX1 hown hK.1 hP 0 rfl rfl 3 (by decide) hw3 (fun _ h9 => h9) rfl dX1_chooseTurning_27 ?_
          refine lv_iload_n hx hb dX1_chooseTurning_30 rfl (lv_at hl 2 rfl) ?_
          refine va_lald hx hb hK.1 hP 2 1 rfl rfl (ib_in h2) dX1_chooseTurning_31 ?_
          refine lv_lmul hx hb dX1_chooseTurning_32 ?_
          refine lv_aload_n hx hb dX1_chooseTurning_33 rfl (lv_at hl 0 rfl) ?_
          refine va_get (D := D) (ci := 1) (v := .ref (ads 1)) (C := RX1) (T := TX1) (N := 10) hx hb hts hinX1 hown hK.1 hP 0 rfl rfl 2 (by decide) hw4 (fun _ h9 => h9) rfl dX1_chooseTurning_34 ?_
          refine lv_iload_n hx hb dX1_chooseTurning_37 rfl (lv_at hl 2 rfl) ?_
          refine va_lald hx hb hK.1 hP 1 1 rfl rfl (ib_in h2) dX1_chooseTurning_38 ?_
          refine lv_lsub hx hb dX1_chooseTurning_39 ?_
          refine lv_goto (tgt := 64) hx hb dX1_chooseTurning_40 (by decide) ?_
          exact J64 ((((gc.2.2.1 l2_2.toNatClampNeg).toInt64) * (gs.2.2.2.1 l2_2.toNatClampNeg)) - (gs.2.2.1 l2_2.toNatClampNeg)) _ _ _ hf hP hD hS (lv_sub hl [0, 1, 2] rfl)
  exact L2 fuel 0 gs.2.2.2.2.2.2.1 gs.2.2.2.2.2.2.2.2.1 gs.2.2.2.2.2.2.2.2.2 _ _ _ hf hP hD hS (lv_sub hl [1, 2, 0] rfl)

def f_X1_letTimePass_J98 (gs : Sw) (l8_59 : Int32) (s2_59 : Al) (s3_59 : Al) (rec59 : (Int32 → Al → Al → Option (Int64 × Int64 × Al × Al))) (k0_98 : Int64) : Option (Int64 × Int64 × Al × Al) :=
bnd (((s2_59 l8_59.toNatClampNeg) * gs.2.2.2.2.2.2.2.2.2) + ((k0_98 * gs.2.2.2.2.2.2.2.2.1) * (s3_59 l8_59.toNatClampNeg))) (fun v9 =>
bnd ((s3_59 l8_59.toNatClampNeg) * gs.2.2.2.2.2.2.2.2.2) (fun v10 =>
(f_X2_commonOf v9 v10).bind (fun r11 =>
gd (nzL r11) (
bnd (v9 / r11) (fun v13 =>
bnd (v10 / r11) (fun v14 =>
rec59 (l8_59 + 1) (vp_updL s2_59 l8_59.toNatClampNeg v13) (vp_updL s3_59 l8_59.toNatClampNeg v14)))))))
def f_X1_letTimePass_B59 (gs : Sw) (gc : Ci) (v5 : Int64) (v6 : Int64) (rec59 : Int32 → Al → Al → Option (Int64 × Int64 × Al × Al)) (l8_59 : Int32) (s2_59 : Al) (s3_59 : Al) : Option (Int64 × Int64 × Al × Al) :=
if gc.1 ≤ l8_59 then
some (v5, v6, s2_59, s3_59)
else
gd (ib l8_59 4) (
if (gs.2.2.2.2.1 l8_59.toNatClampNeg) = 0 then
f_X1_letTimePass_J98 gs l8_59 s2_59 s3_59 rec59 ((-(gc.2.2.2.2.1 l8_59.toNatClampNeg)).toInt64)
else
f_X1_letTimePass_J98 gs l8_59 s2_59 s3_59 rec59 ((gc.2.2.2.1 l8_59.toNatClampNeg).toInt64))
def f_X1_letTimePass_L59 (gs : Sw) (gc : Ci) (v5 : Int64) (v6 : Int64) : Nat → Int32 → Al → Al → Option (Int64 × Int64 × Al × Al)
  | 0 => fun _ _ _ => none
  | n + 1 => f_X1_letTimePass_B59 gs gc v5 v6 (f_X1_letTimePass_L59 gs gc v5 v6 n)
def f_X1_letTimePass (gs : Sw) (gc : Ci) : Option (Int64 × Int64 × Al × Al) :=
bnd ((gs.1 * gs.2.2.2.2.2.2.2.2.2) + (gs.2.2.2.2.2.2.2.2.1 * gs.2.1)) (fun v1 =>
bnd (gs.2.1 * gs.2.2.2.2.2.2.2.2.2) (fun v2 =>
(f_X2_commonOf v1 v2).bind (fun r3 =>
gd (nzL r3) (
bnd (v1 / r3) (fun v5 =>
bnd (v2 / r3) (fun v6 =>
f_X1_letTimePass_L59 gs gc v5 v6 fuel 0 gs.2.2.1 gs.2.2.2.1))))))
abbrev rmX1_letTimePass : Room := { frames := 1, cells := 0, slots := 0, locals := 30 }
set_option maxHeartbeats 40000000 in
set_option maxRecDepth 100000 in
theorem c_X1_letTimePass (l : Launch) (D : va_G) (cI cJ cZ : ClassId) (ads : Nat → Nat) (adc : Nat → Nat) (gs : Sw) (gc : Ci) (o : (Int64 × Int64 × Al × Al)) (hf : f_X1_letTimePass gs gc = some o) : CtV l yX1_letTimePass wsX1_letTimePass rmX1_letTimePass D cI cJ cZ [.ref (ads 0), .ref (adc 0)] (wSw cI cJ cZ ads gs ++ wCi cI adc gc) (wSw cI cJ cZ ads ((o.1, o.2.1, o.2.2.1, o.2.2.2, gs.2.2.2.2)) ++ wCi cI adc gc) := by
  intro sz
  refine Met.ofW (cc := cX1_letTimePass) (maxL := 11) (ret := none) (by decide) rfl ?_
  intro p e s m args below meth c s₁ B hml hv
  obtain ⟨rfl, hsz, hP, hK, hD0⟩ := hv
  have hx := B.exec
  have hb := B.bytes
  have hr := B.returns
  have hts := atoms_spec (ws := wsX1_letTimePass) B.pre
  have hown : s.vm.findClass RX1 = some m.cls := findClass_of_methodNamed B.named
  have hlocks := B.notSynchronized
  subst hsz
  have hD := hD0.self (sz := s.heap.size)
  clear hD0
  generalize hAe : va_A (wSw cI cJ cZ ads gs ++ wCi cI adc gc) s.heap.size = A at hD ⊢
  have hA : ∀ q : Nat, s.heap.size ≤ q → A q := fun q h => by rw [← hAe]; exact Or.inr h
  have hS : va_S A s.heap s.heap [] := va_S.rf
  have hinX0 : ∀ w ∈ wsX00, w ∈ wsX1_letTimePass := by decide +kernel
  have hinX1 : ∀ w ∈ wsX10, w ∈ wsX1_letTimePass := by decide +kernel
  have hw0 : (Cond.fieldLink RX1 9 "SwingCircuits$Swing" "timeNum" "J").before _ s = true := hts _ (by decide +kernel)
  have hw1 : (Cond.fieldLink RX1 43 "SwingCircuits$Swing" "waitDen" "J").before _ s = true := hts _ (by decide +kernel)
  have hw2 : (Cond.fieldLink RX1 40 "SwingCircuits$Swing" "waitNum" "J").before _ s = true := hts _ (by decide +kernel)
  have hw3 : (Cond.fieldLink RX1 15 "SwingCircuits$Swing" "timeDen" "J").before _ s = true := hts _ (by decide +kernel)
  have hw4 : (Cond.fieldLink RX1 51 "SwingCircuits$Circuit" "cells" "I").before _ s = true := hts _ (by decide +kernel)
  have hw5 : (Cond.fieldLink RX1 25 "SwingCircuits$Swing" "filling" "[Z").before _ s = true := hts _ (by decide +kernel)
  have hw6 : (Cond.fieldLink RX1 71 "SwingCircuits$Circuit" "rise" "[I").before _ s = true := hts _ (by decide +kernel)
  have hw7 : (Cond.fieldLink RX1 18 "SwingCircuits$Swing" "num" "[J").before _ s = true := hts _ (by decide +kernel)
  have hw8 : (Cond.fieldLink RX1 22 "SwingCircuits$Swing" "den" "[J").before _ s = true := hts _ (by decide +kernel)
  have hw9 : (Cond.fieldLink RX1 74 "SwingCircuits$Circuit" "fall" "[I").before _ s = true := hts _ (by decide +kernel)
  have hw10 : (Cond.initialized RX2).before _ s = true := hts _ (by decide +kernel)
  have hw11 : (Cond.static yX2_commonOf).before _ s = true := hts _ (by decide +kernel)
  have hl := lv_entry ([.ref (ads 0), .ref (adc 0)]) (n := 11) (Nat.le_of_ble_eq_true rfl)
  rw [lg_entry_eq]
  generalize (lg_sl ([.ref (ads 0), .ref (adc 0)]) ++ List.replicate (11 - (lg_sl ([.ref (ads 0), .ref (adc 0)])).length) Slot.unset).toArray = ls at hl ⊢
  replace hl : lv_has ls 11 [(0, .ref (ads 0)), (1, .ref (adc 0))] := hl
  unfold f_X1_letTimePass at hf
  refine lv_aload_n hx hb dX1_letTimePass_0 rfl (lv_at hl 0 rfl) ?_
  refine va_get (D := D) (ci := 1) (v := .long gs.1) (C := RX1) (T := TX1) (N := 10) hx hb hts hinX1 hown hK.1 hP 0 rfl rfl 0 (by decide) hw0 (fun _ h9 => h9) rfl dX1_letTimePass_1 ?_
  refine lv_aload_n hx hb dX1_letTimePass_4 rfl (lv_at hl 0 rfl) ?_
  refine va_get (D := D) (ci := 1) (v := .long gs.2.2.2.2.2.2.2.2.2) (C := RX1) (T := TX1) (N := 10) hx hb hts hinX1 hown hK.1 hP 0 rfl rfl 9 (by decide) hw1 (fun _ h9 => h9) rfl dX1_letTimePass_5 ?_
  refine lv_lmul hx hb dX1_letTimePass_8 ?_
  refine lv_aload_n hx hb dX1_letTimePass_9 rfl (lv_at hl 0 rfl) ?_
  refine va_get (D := D) (ci := 1) (v := .long gs.2.2.2.2.2.2.2.2.1) (C := RX1) (T := TX1) (N := 10) hx hb hts hinX1 hown hK.1 hP 0 rfl rfl 8 (by decide) hw2 (fun _ h9 => h9) rfl dX1_letTimePass_10 ?_
  refine lv_aload_n hx hb dX1_letTimePass_13 rfl (lv_at hl 0 rfl) ?_
  refine va_get (D := D) (ci := 1) (v := .long gs.2.1) (C := RX1) (T := TX1) (N := 10) hx hb hts hinX1 hown hK.1 hP 0 rfl rfl 1 (by decide) hw3 (fun _ h9 => h9) rfl dX1_letTimePass_14 ?_
  refine lv_lmul hx hb dX1_letTimePass_17 ?_
  refine lv_ladd hx hb dX1_letTimePass_18 ?_
  refine lv_topl (fun v1 ev1 => ?_)
  replace hf := bndE hf ev1
  refine lv_lstore_n (lv' := [(2, .long v1), (0, .ref (ads 0)), (1, .ref (adc 0))]) hx hb dX1_letTimePass_19 rfl hl (by decide) rfl (fun ls hl => ?_)
  refine lv_aload_n hx hb dX1_letTimePass_20 rfl (lv_at hl 1 rfl) ?_
  refine va_get (D := D) (ci := 1) (v := .long gs.2.1) (C := RX1) (T := TX1) (N := 10) hx hb hts hinX1 hown hK.1 hP 0 rfl rfl 1 (by decide) hw3 (fun _ h9 => h9) rfl dX1_letTimePass_21 ?_
  refine lv_aload_n hx hb dX1_letTimePass_24 rfl (lv_at hl 1 rfl) ?_
  refine va_get (D := D) (ci := 1) (v := .long gs.2.2.2.2.2.2.2.2.2) (C := RX1) (T := TX1) (N := 10) hx hb hts hinX1 hown hK.1 hP 0 rfl rfl 9 (by decide) hw1 (fun _ h9 => h9) rfl dX1_letTimePass_25 ?_
  refine lv_lmul hx hb dX1_letTimePass_28 ?_
  refine lv_topl (fun v2 ev2 => ?_)
  replace hf := bndE hf ev2
  refine lv_lstore (lv' := [(4, .long v2), (2, .long v1), (0, .ref (ads 0)), (1, .ref (adc 0))]) hx hb dX1_letTimePass_29 hl (by decide) rfl (fun ls hl => ?_)
  refine lv_lload_n hx hb dX1_letTimePass_31 rfl (lv_at hl 1 rfl) ?_
  refine lv_lload hx hb dX1_letTimePass_32 (lv_at hl 0 rfl) ?_
  replace hf := bdE hf
  obtain ⟨r3, hgr3, hf⟩ := hf
  refine xL0 (va_runSN (As := [.long v1, .long v2]) (rest := []) ⟨hx, hb, hml, hown, hts⟩ (c_X2_commonOf l D cI cJ cZ v1 v2 r3 hgr3 _) ⟨va_cnB 2 hts gX1_letTimePass_X2_commonOf_n77 rfl rfl rfl hK.2.1 hw10 (by decide +kernel) ⟨Nat.le_of_ble_eq_true rfl, Nat.le_of_ble_eq_true rfl⟩, hw11, trivial⟩ ⟨PreW.blind, (xPre0 hK _)⟩ rfl rfl hl.1 rfl (lv_room (Nat.le_of_ble_eq_true rfl)) dX1_letTimePass_34 ⟨Nat.le_of_ble_eq_true rfl, Nat.le_of_ble_eq_true rfl⟩) hP hS hA (fun H locs hP hS => ?_)
  refine lv_lstore (lv' := [(6, .long r3), (4, .long v2), (2, .long v1), (0, .ref (ads 0)), (1, .ref (adc 0))]) hx hb dX1_letTimePass_37 hl (by decide) rfl (fun ls hl => ?_)
  refine lv_aload_n hx hb dX1_letTimePass_39 rfl (lv_at hl 3 rfl) ?_
  refine lv_lload_n hx hb dX1_letTimePass_40 rfl (lv_at hl 2 rfl) ?_
  refine lv_lload hx hb dX1_letTimePass_41 (lv_at hl 0 rfl) ?_
  replace hf := gdE hf
  obtain ⟨h4, hf⟩ := hf
  refine lv_ldiv hx hb dX1_letTimePass_43 (nzL_ne h4) ?_
  refine lv_topl (fun v5 ev5 => ?_)
  replace hf := bndE hf ev5
  refine va_put (D := D) (ci := 1) (v := .long v5) (ty := .long) (C := RX1) (T := TX1) (N := 10) hx hb hts hinX1 tyX1 tyX1_ok nmX1 hown hK.1 hP hD hS 0 rfl rfl 0 (by decide) hw0 (fun _ h9 => h9) rfl (by decide +kernel) rfl rfl (Nat.le_of_ble_eq_true rfl) dX1_letTimePass_44 (fun H locs hP hD hS => ?_)
  replace hP : va_P D vwCl (wSw cI cJ cZ ads ((v5, gs.2)) ++ wCi cI adc gc) H := hP
  replace hD : va_D A (wSw cI cJ cZ ads ((v5, gs.2)) ++ wCi cI adc gc) := hD
  refine lv_aload_n hx hb dX1_letTimePass_47 rfl (lv_at hl 3 rfl) ?_
  refine lv_lload hx hb dX1_letTimePass_48 (lv_at hl 1 rfl) ?_
  refine lv_lload hx hb dX1_letTimePass_50 (lv_at hl 0 rfl) ?_
  refine lv_ldiv hx hb dX1_letTimePass_52 (nzL_ne h4) ?_
  refine lv_topl (fun v6 ev6 => ?_)
  replace hf := bndE hf ev6
  refine va_put (D := D) (ci := 1) (v := .long v6) (ty := .long) (C := RX1) (T := TX1) (N := 10) hx hb hts hinX1 tyX1 tyX1_ok nmX1 hown hK.1 hP hD hS 0 rfl rfl 1 (by decide) hw3 (fun _ h9 => h9) rfl (by decide +kernel) rfl rfl (Nat.le_of_ble_eq_true rfl) dX1_letTimePass_53 (fun H locs hP hD hS => ?_)
  replace hP : va_P D vwCl (wSw cI cJ cZ ads ((v5, v6, gs.2.2)) ++ wCi cI adc gc) H := hP
  replace hD : va_D A (wSw cI cJ cZ ads ((v5, v6, gs.2.2)) ++ wCi cI adc gc) := hD
  refine lv_iconst (v := 0) hx hb dX1_letTimePass_56 (by decide) ?_
  refine lv_istore (lv' := [(8, .int 0), (6, .long r3), (4, .long v2), (2, .long v1), (0, .ref (ads 0)), (1, .ref (adc 0))]) hx hb dX1_letTimePass_57 hl (by decide) rfl (fun ls hl => ?_)
  have L59 : ∀ (n : Nat) (l8_59 : Int32) (s2_59 : Al) (s3_59 : Al) (H : Heap) (locs : List Loc) (ls : Array Slot), f_X1_letTimePass_L59 gs gc v5 v6 n l8_59 s2_59 s3_59 = some o → va_P D vwCl (wSw cI cJ cZ ads ((v5, v6, s2_59, s3_59, gs.2.2.2.2)) ++ wCi cI adc gc) H → va_D A (wSw cI cJ cZ ads ((v5, v6, s2_59, s3_59, gs.2.2.2.2)) ++ wCi cI adc gc) → va_S A s.heap H locs → lv_has ls 11 [(0, .ref (ads 0)), (1, .ref (adc 0)), (8, .int l8_59)] → W p l e (headSpec wsX1_letTimePass rmX1_letTimePass).room s m ([.ref (ads 0), .ref (adc 0)] : List Value).toArray below meth c H locs 0 0 (MQ below (QV D A (wSw cI cJ cZ ads ((o.1, o.2.1, o.2.2.1, o.2.2.2, gs.2.2.2.2)) ++ wCi cI adc gc)) ([.ref (ads 0), .ref (adc 0)] : List Value).toArray s 0 0 A) (F0 m 59 ls []) := by
    intro n
    induction n with
    | zero => intro l8_59 s2_59 s3_59 H locs ls hf; cases hf
    | succ n ih59 =>
      intro l8_59 s2_59 s3_59 H locs ls hf hP hD hS hl
      replace hf : f_X1_letTimePass_B59 gs gc v5 v6 (f_X1_letTimePass_L59 gs gc v5 v6 n) l8_59 s2_59 s3_59 = some o := hf
      generalize f_X1_letTimePass_L59 gs gc v5 v6 n = rec59 at ih59 hf
      unfold f_X1_letTimePass_B59 at hf
      refine lv_iload hx hb dX1_letTimePass_59 (lv_at hl 2 rfl) ?_
      refine lv_aload_n hx hb dX1_letTimePass_61 rfl (lv_at hl 1 rfl) ?_
      refine va_get (D := D) (ci := 0) (v := .int gc.1) (C := RX0) (T := TX0) (N := 12) hx hb hts hinX0 hown hK.1 hP 5 rfl rfl 0 (by decide) hw4 (fun _ h9 => h9) rfl dX1_letTimePass_62 ?_
      refine lv_icmp_ge (tgt := 180) hx hb dX1_letTimePass_65 (by decide) (fun q7 => ?_) (fun q7 => ?_)
      · replace hf := ifT q7 hf
        obtain rfl := Option.some.inj hf
        exact retV hx hb hr hlocks hP hD hS dX1_letTimePass_180
      · replace hf := ifF q7 hf
        refine lv_aload_n hx hb dX1_letTimePass_68 rfl (lv_at hl 0 rfl) ?_
        refine va_get (D := D) (ci := 1) (v := .ref (ads 3)) (C := RX1) (T := TX1) (N := 10) hx hb hts hinX1 hown hK.1 hP 0 rfl rfl 4 (by decide) hw5 (fun _ h9 => h9) rfl dX1_letTimePass_69 ?_
        refine lv_iload hx hb dX1_letTimePass_72 (lv_at hl 2 rfl) ?_
        replace hf := gdE hf
        obtain ⟨h8, hf⟩ := hf
        refine va_zald hx hb hK.1 hP 3 2 rfl rfl (ib_in h8) dX1_letTimePass_74 ?_
        have J98 : ∀ (k0_98 : Int64) (H : Heap) (locs : List Loc) (ls : Array Slot), f_X1_letTimePass_J98 gs l8_59 s2_59 s3_59 rec59 k0_98 = some o → va_P D vwCl (wSw cI cJ cZ ads ((v5, v6, s2_59, s3_59, gs.2.2.2.2)) ++ wCi cI adc gc) H → va_D A (wSw cI cJ cZ ads ((v5, v6, s2_59, s3_59, gs.2.2.2.2)) ++ wCi cI adc gc) → va_S A s.heap H locs → lv_has ls 11 [(0, .ref (ads 0)), (1, .ref (adc 0)), (8, .int l8_59)] → W p l e (headSpec wsX1_letTimePass rmX1_letTimePass).room s m ([.ref (ads 0), .ref (adc 0)] : List Value).toArray below meth c H locs 0 0 (MQ below (QV D A (wSw cI cJ cZ ads ((o.1, o.2.1, o.2.2.1, o.2.2.2, gs.2.2.2.2)) ++ wCi cI adc gc)) ([.ref (ads 0), .ref (adc 0)] : List Value).toArray s 0 0 A) (F0 m 98 ls [.long k0_98]) := by
          intro k0_98 H locs ls hf hP hD hS hl
          unfold f_X1_letTimePass_J98 at hf
          refine lv_lstore (lv' := [(9, .long k0_98), (0, .ref (ads 0)), (1, .ref (adc 0)), (8, .int l8_59)]) hx hb dX1_letTimePass_98 hl (by decide) rfl (fun ls hl => ?_)
          refine lv_aload_n hx hb dX1_letTimePass_100 rfl (lv_at hl 1 rfl) ?_
          refine va_get (D := D) (ci := 1) (v := .ref (ads 1)) (C := RX1) (T := TX1) (N := 10) hx hb hts hinX1 hown hK.1 hP 0 rfl rfl 2 (by decide) hw7 (fun _ h9 => h9) rfl dX1_letTimePass_101 ?_
          refine lv_iload hx hb dX1_letTimePass_104 (lv_at hl 3 rfl) ?_
          refine va_lald hx hb hK.1 hP 1 1 rfl rfl (ib_in h8) dX1_letTimePass_106 ?_
          refine lv_aload_n hx hb dX1_letTimePass_107 rfl (lv_at hl 1 rfl) ?_
          refine va_get (D := D) (ci := 1) (v := .long gs.2.2.2.2.2.2.2.2.2) (C := RX1) (T := TX1) (N := 10) hx hb hts hinX1 hown hK.1 hP 0 rfl rfl 9 (by decide) hw1 (fun _ h9 => h9) rfl dX1_letTimePass_108 ?_
          refine lv_lmul hx hb dX1_letTimePass_111 ?_
          refine lv_lload hx hb dX1_letTimePass_112 (lv_at hl 0 rfl) ?_
          refine lv_aload_n hx hb dX1_letTimePass_114 rfl (lv_at hl 1 rfl) ?_
          refine va_get (D := D) (ci := 1) (v := .long gs.2.2.2.2.2.2.2.2.1) (C := RX1) (T := TX1) (N := 10) hx hb hts hinX1 hown hK.1 hP 0 rfl rfl 8 (by decide) hw2 (fun _ h9 => h9) rfl dX1_letTimePass_115 ?_
          refine lv_lmul hx hb dX1_letTimePass_118 ?_
          refine lv_aload_n hx hb dX1_letTimePass_119 rfl (lv_at hl 1 rfl) ?_
          refine va_get (D := D) (ci := 1) (v := .ref (ads 2)) (C := RX1) (T := TX1) (N := 10) hx hb hts hinX1 hown hK.1 hP 0 rfl rfl 3 (by decide) hw8 (fun _ h9 => h9) rfl dX1_letTimePass_120 ?_
          refine lv_iload hx hb dX1_letTimePass_123 (lv_at hl 3 rfl) ?_
          refine va_lald hx hb hK.1 hP 2 1 rfl rfl (ib_in h8) dX1_letTimePass_125 ?_
          refine lv_lmul hx hb dX1_letTimePass_126 ?_
          refine lv_ladd hx hb dX1_letTimePass_127 ?_
          refine lv_topl (fun v9 ev9 => ?_)
          replace hf := bndE hf ev9
          refine lv_lstore_n (lv' := [(2, .long v9), (9, .long k0_98), (0, .ref (ads 0)), (1, .ref (adc 0)), (8, .int l8_59)]) hx hb dX1_letTimePass_128 rfl hl (by decide) rfl (fun ls hl => ?_)
          refine lv_aload_n hx hb dX1_letTimePass_129 rfl (lv_at hl 2 rfl) ?_
          refine va_get (D := D) (ci := 1) (v := .ref (ads 2)) (C := RX1) (T := TX1) (N := 10) hx hb hts hinX1 hown hK.1 hP 0 rfl rfl 3 (by decide) hw8 (fun _ h9 => h9) rfl dX1_letTimePass_130 ?_
          refine lv_iload hx hb dX1_letTimePass_133 (lv_at hl 4 rfl) ?_
          refine va_lald hx hb hK.1 hP 2 1 rfl rfl (ib_in h8) dX1_letTimePass_135 ?_
          refine lv_aload_n hx hb dX1_letTimePass_136 rfl (lv_at hl 2 rfl) ?_
          refine va_get (D := D) (ci := 1) (v := .long gs.2.2.2.2.2.2.2.2.2) (C := RX1) (T := TX1) (N := 10) hx hb hts hinX1 hown hK.1 hP 0 rfl rfl 9 (by decide) hw1 (fun _ h9 => h9) rfl dX1_letTimePass_137 ?_
          refine lv_lmul hx hb dX1_letTimePass_140 ?_
          refine lv_topl (fun v10 ev10 => ?_)
          replace hf := bndE hf ev10
          refine lv_lstore (lv' := [(4, .long v10), (2, .long v9), (9, .long k0_98), (0, .ref (ads 0)), (1, .ref (adc 0)), (8, .int l8_59)]) hx hb dX1_letTimePass_141 hl (by decide) rfl (fun ls hl => ?_)
          refine lv_lload_n hx hb dX1_letTimePass_143 rfl (lv_at hl 1 rfl) ?_
          refine lv_lload hx hb dX1_letTimePass_144 (lv_at hl 0 rfl) ?_
          replace hf := bdE hf
          obtain ⟨r11, hgr11, hf⟩ := hf
          refine xL0 (va_runSN (As := [.long v9, .long v10]) (rest := []) ⟨hx, hb, hml, hown, hts⟩ (c_X2_commonOf l D cI cJ cZ v9 v10 r11 hgr11 _) ⟨va_cnB 2 hts gX1_letTimePass_X2_commonOf_n77 rfl rfl rfl hK.2.1 hw10 (by decide +kernel) ⟨Nat.le_of_ble_eq_true rfl, Nat.le_of_ble_eq_true rfl⟩, hw11, trivial⟩ ⟨PreW.blind, (xPre0 hK _)⟩ rfl rfl hl.1 rfl (lv_room (Nat.le_of_ble_eq_true rfl)) dX1_letTimePass_146 ⟨Nat.le_of_ble_eq_true rfl, Nat.le_of_ble_eq_true rfl⟩) hP hS hA (fun H locs hP hS => ?_)
          refine lv_lstore (lv' := [(6, .long r11), (4, .long v10), (2, .long v9), (9, .long k0_98), (0, .ref (ads 0)), (1, .ref (adc 0)), (8, .int l8_59)]) hx hb dX1_letTimePass_149 hl (by decide) rfl (fun ls hl => ?_)
          refine lv_aload_n hx hb dX1_letTimePass_151 rfl (lv_at hl 4 rfl) ?_
          refine va_get (D := D) (ci := 1) (v := .ref (ads 1)) (C := RX1) (T := TX1) (N := 10) hx hb hts hinX1 hown hK.1 hP 0 rfl rfl 2 (by decide) hw7 (fun _ h9 => h9) rfl dX1_letTimePass_152 ?_
          refine lv_iload hx hb dX1_letTimePass_155 (lv_at hl 6 rfl) ?_
          refine lv_lload_n hx hb dX1_letTimePass_157 rfl (lv_at hl 2 rfl) ?_
          refine lv_lload hx hb dX1_letTimePass_158 (lv_at hl 0 rfl) ?_
          replace hf := gdE hf
          obtain ⟨h12, hf⟩ := hf
          refine lv_ldiv hx hb dX1_letTimePass_160 (nzL_ne h12) ?_
          refine lv_topl (fun v13 ev13 => ?_)
          replace hf := bndE hf ev13
          refine va_last hx hb hK.1 hP hD hS 1 1 rfl rfl (ib_in h8) dX1_letTimePass_161 (fun H locs hP hD hS => ?_)
          replace hP : va_P D vwCl (wSw cI cJ cZ ads ((v5, v6, vp_updL s2_59 l8_59.toNatClampNeg v13, s3_59, gs.2.2.2.2)) ++ wCi cI adc gc) H := hP
          replace hD : va_D A (wSw cI cJ cZ ads ((v5, v6, vp_updL s2_59 l8_59.toNatClampNeg v13, s3_59, gs.2.2.2.2)) ++ wCi cI adc gc) := hD
          refine lv_aload_n hx hb dX1_letTimePass_162 rfl (lv_at hl 4 rfl) ?_
          refine va_get (D := D) (ci := 1) (v := .ref (ads 2)) (C := RX1) (T := TX1) (N := 10) hx hb hts hinX1 hown hK.1 hP 0 rfl rfl 3 (by decide) hw8 (fun _ h9 => h9) rfl dX1_letTimePass_163 ?_
          refine lv_iload hx hb dX1_letTimePass_166 (lv_at hl 6 rfl) ?_
          refine lv_lload hx hb dX1_letTimePass_168 (lv_at hl 1 rfl) ?_
          refine lv_lload hx hb dX1_letTimePass_170 (lv_at hl 0 rfl) ?_
          refine lv_ldiv hx hb dX1_letTimePass_172 (nzL_ne h12) ?_
          refine lv_topl (fun v14 ev14 => ?_)
          replace hf := bndE hf ev14
          refine va_last hx hb hK.1 hP hD hS 2 1 rfl rfl (ib_in h8) dX1_letTimePass_173 (fun H locs hP hD hS => ?_)
          replace hP : va_P D vwCl (wSw cI cJ cZ ads ((v5, v6, vp_updL s2_59 l8_59.toNatClampNeg v13, vp_updL s3_59 l8_59.toNatClampNeg v14, gs.2.2.2.2)) ++ wCi cI adc gc) H := hP
          replace hD : va_D A (wSw cI cJ cZ ads ((v5, v6, vp_updL s2_59 l8_59.toNatClampNeg v13, vp_updL s3_59 l8_59.toNatClampNeg v14, gs.2.2.2.2)) ++ wCi cI adc gc) := hD
          refine lv_iinc (v := l8_59 + 1) (lv' := [(8, .int (l8_59 + 1)), (6, .long r11), (4, .long v10), (2, .long v9), (9, .long k0_98), (0, .ref (ads 0)), (1, .ref (adc 0))]) hx hb dX1_letTimePass_174 hl (k := 6) rfl (by rfl) (by decide) rfl (fun ls hl => ?_)
          refine lv_goto (tgt := 59) hx hb dX1_letTimePass_177 (by decide) ?_
          exact ih59 (l8_59 + 1) (vp_updL s2_59 l8_59.toNatClampNeg v13) (vp_updL s3_59 l8_59.toNatClampNeg v14) _ _ _ hf hP hD hS (lv_sub hl [5, 6, 0] rfl)
        refine lv_if_eq (tgt := 89) hx hb dX1_letTimePass_75 (by decide) (fun q15 => ?_) (fun q15 => ?_)
        · replace hf := ifT q15 hf
          refine lv_aload_n hx hb dX1_letTimePass_89 rfl (lv_at hl 1 rfl) ?_
          refine va_get (D := D) (ci := 0) (v := .ref (adc 4)) (C := RX0) (T := TX0) (N := 12) hx hb hts hinX0 hown hK.1 hP 5 rfl rfl 4 (by decide) hw9 (fun _ h9 => h9) rfl dX1_letTimePass_90 ?_
          refine lv_iload hx hb dX1_letTimePass_93 (lv_at hl 2 rfl) ?_
          refine va_iald hx hb hK.1 hP 9 0 rfl rfl (ib_in h8) dX1_letTimePass_95 ?_
          refine lv_ineg hx hb dX1_letTimePass_96 ?_
          refine lv_i2l hx hb dX1_letTimePass_97 rfl ?_
          exact J98 ((-(gc.2.2.2.2.1 l8_59.toNatClampNeg)).toInt64) _ _ _ hf hP hD hS (lv_sub hl [0, 1, 2] rfl)
        · replace hf := ifF q15 hf
          refine lv_aload_n hx hb dX1_letTimePass_78 rfl (lv_at hl 1 rfl) ?_
          refine va_get (D := D) (ci := 0) (v := .ref (adc 3)) (C := RX0) (T := TX0) (N := 12) hx hb hts hinX0 hown hK.1 hP 5 rfl rfl 3 (by decide) hw6 (fun _ h9 => h9) rfl dX1_letTimePass_79 ?_
          refine lv_iload hx hb dX1_letTimePass_82 (lv_at hl 2 rfl) ?_
          refine va_iald hx hb hK.1 hP 8 0 rfl rfl (ib_in h8) dX1_letTimePass_84 ?_
          refine lv_i2l hx hb dX1_letTimePass_85 rfl ?_
          refine lv_goto (tgt := 98) hx hb dX1_letTimePass_86 (by decide) ?_
          exact J98 ((gc.2.2.2.1 l8_59.toNatClampNeg).toInt64) _ _ _ hf hP hD hS (lv_sub hl [0, 1, 2] rfl)
  exact L59 fuel 0 gs.2.2.1 gs.2.2.2.1 _ _ _ hf hP hD hS (lv_sub hl [4, 5, 0] rfl)

def f_X1_keepBetweenBars (gs : Sw) (gc : Ci) (p2 : Int32) : Option (Al × Al) :=
gd (ib p2 4) (
if (lg_cmp (gs.2.2.1 p2.toNatClampNeg) (((gc.2.2.1 p2.toNatClampNeg).toInt64) * (gs.2.2.2.1 p2.toNatClampNeg))) ≤ 0 then
if (0 : Int32) ≤ (lg_cmp (gs.2.2.1 p2.toNatClampNeg) (((gc.2.1 p2.toNatClampNeg).toInt64) * (gs.2.2.2.1 p2.toNatClampNeg))) then
some (gs.2.2.1, gs.2.2.2.1)
else
bnd ((gc.2.1 p2.toNatClampNeg).toInt64) (fun v4 =>
some (vp_updL gs.2.2.1 p2.toNatClampNeg v4, vp_updL gs.2.2.2.1 p2.toNatClampNeg 1))
else
bnd ((gc.2.2.1 p2.toNatClampNeg).toInt64) (fun v5 =>
some (vp_updL gs.2.2.1 p2.toNatClampNeg v5, vp_updL gs.2.2.2.1 p2.toNatClampNeg 1)))
abbrev rmX1_keepBetweenBars : Room := { frames := 0, cells := 0, slots := 0, locals := 0 }
set_option maxHeartbeats 40000000 in
set_option maxRecDepth 100000 in
theorem c_X1_keepBetweenBars (l : Launch) (D : va_G) (cI cJ cZ : ClassId) (ads : Nat → Nat) (adc : Nat → Nat) (gs : Sw) (gc : Ci) (p2 : Int32) (o : (Al × Al)) (hf : f_X1_keepBetweenBars gs gc p2 = some o) : CtV l yX1_keepBetweenBars wsX1_keepBetweenBars rmX1_keepBetweenBars D cI cJ cZ [.ref (ads 0), .ref (adc 0), .int p2] (wSw cI cJ cZ ads gs ++ wCi cI adc gc) (wSw cI cJ cZ ads ((gs.1, gs.2.1, o.1, o.2, gs.2.2.2.2)) ++ wCi cI adc gc) := by
  intro sz
  refine Met.ofW (cc := cX1_keepBetweenBars) (maxL := 3) (ret := none) (by decide) rfl ?_
  intro p e s m args below meth c s₁ B hml hv
  obtain ⟨rfl, hsz, hP, hK, hD0⟩ := hv
  have hx := B.exec
  have hb := B.bytes
  have hr := B.returns
  have hts := atoms_spec (ws := wsX1_keepBetweenBars) B.pre
  have hown : s.vm.findClass RX1 = some m.cls := findClass_of_methodNamed B.named
  have hlocks := B.notSynchronized
  subst hsz
  have hD := hD0.self (sz := s.heap.size)
  clear hD0
  generalize hAe : va_A (wSw cI cJ cZ ads gs ++ wCi cI adc gc) s.heap.size = A at hD ⊢
  have hA : ∀ q : Nat, s.heap.size ≤ q → A q := fun q h => by rw [← hAe]; exact Or.inr h
  have hS : va_S A s.heap s.heap [] := va_S.rf
  have hinX0 : ∀ w ∈ wsX00, w ∈ wsX1_keepBetweenBars := by decide +kernel
  have hinX1 : ∀ w ∈ wsX10, w ∈ wsX1_keepBetweenBars := by decide +kernel
  have hw0 : (Cond.fieldLink RX1 18 "SwingCircuits$Swing" "num" "[J").before _ s = true := hts _ (by decide +kernel)
  have hw1 : (Cond.fieldLink RX1 68 "SwingCircuits$Circuit" "high" "[I").before _ s = true := hts _ (by decide +kernel)
  have hw2 : (Cond.fieldLink RX1 22 "SwingCircuits$Swing" "den" "[J").before _ s = true := hts _ (by decide +kernel)
  have hw3 : (Cond.fieldLink RX1 46 "SwingCircuits$Circuit" "low" "[I").before _ s = true := hts _ (by decide +kernel)
  have hl := lv_entry ([.ref (ads 0), .ref (adc 0), .int p2]) (n := 3) (Nat.le_of_ble_eq_true rfl)
  rw [lg_entry_eq]
  generalize (lg_sl ([.ref (ads 0), .ref (adc 0), .int p2]) ++ List.replicate (3 - (lg_sl ([.ref (ads 0), .ref (adc 0), .int p2])).length) Slot.unset).toArray = ls at hl ⊢
  replace hl : lv_has ls 3 [(0, .ref (ads 0)), (1, .ref (adc 0)), (2, .int p2)] := hl
  unfold f_X1_keepBetweenBars at hf
  refine lv_aload_n hx hb dX1_keepBetweenBars_0 rfl (lv_at hl 0 rfl) ?_
  refine va_get (D := D) (ci := 1) (v := .ref (ads 1)) (C := RX1) (T := TX1) (N := 10) hx hb hts hinX1 hown hK.1 hP 0 rfl rfl 2 (by decide) hw0 (fun _ h9 => h9) rfl dX1_keepBetweenBars_1 ?_
  refine lv_iload_n hx hb dX1_keepBetweenBars_4 rfl (lv_at hl 2 rfl) ?_
  replace hf := gdE hf
  obtain ⟨h1, hf⟩ := hf
  refine va_lald hx hb hK.1 hP 1 1 rfl rfl (ib_in h1) dX1_keepBetweenBars_5 ?_
  refine lv_aload_n hx hb dX1_keepBetweenBars_6 rfl (lv_at hl 1 rfl) ?_
  refine va_get (D := D) (ci := 0) (v := .ref (adc 2)) (C := RX0) (T := TX0) (N := 12) hx hb hts hinX0 hown hK.1 hP 5 rfl rfl 2 (by decide) hw1 (fun _ h9 => h9) rfl dX1_keepBetweenBars_7 ?_
  refine lv_iload_n hx hb dX1_keepBetweenBars_10 rfl (lv_at hl 2 rfl) ?_
  refine va_iald hx hb hK.1 hP 7 0 rfl rfl (ib_in h1) dX1_keepBetweenBars_11 ?_
  refine lv_i2l hx hb dX1_keepBetweenBars_12 rfl ?_
  refine lv_aload_n hx hb dX1_keepBetweenBars_13 rfl (lv_at hl 0 rfl) ?_
  refine va_get (D := D) (ci := 1) (v := .ref (ads 2)) (C := RX1) (T := TX1) (N := 10) hx hb hts hinX1 hown hK.1 hP 0 rfl rfl 3 (by decide) hw2 (fun _ h9 => h9) rfl dX1_keepBetweenBars_14 ?_
  refine lv_iload_n hx hb dX1_keepBetweenBars_17 rfl (lv_at hl 2 rfl) ?_
  refine va_lald hx hb hK.1 hP 2 1 rfl rfl (ib_in h1) dX1_keepBetweenBars_18 ?_
  refine lv_lmul hx hb dX1_keepBetweenBars_19 ?_
  refine W.lcmp hx hb dX1_keepBetweenBars_20 ?_
  refine lv_if_le (tgt := 47) hx hb dX1_keepBetweenBars_21 (by decide) (fun q2 => ?_) (fun q2 => ?_)
  · replace hf := ifT q2 hf
    refine lv_aload_n hx hb dX1_keepBetweenBars_47 rfl (lv_at hl 0 rfl) ?_
    refine va_get (D := D) (ci := 1) (v := .ref (ads 1)) (C := RX1) (T := TX1) (N := 10) hx hb hts hinX1 hown hK.1 hP 0 rfl rfl 2 (by decide) hw0 (fun _ h9 => h9) rfl dX1_keepBetweenBars_48 ?_
    refine lv_iload_n hx hb dX1_keepBetweenBars_51 rfl (lv_at hl 2 rfl) ?_
    refine va_lald hx hb hK.1 hP 1 1 rfl rfl (ib_in h1) dX1_keepBetweenBars_52 ?_
    refine lv_aload_n hx hb dX1_keepBetweenBars_53 rfl (lv_at hl 1 rfl) ?_
    refine va_get (D := D) (ci := 0) (v := .ref (adc 1)) (C := RX0) (T := TX0) (N := 12) hx hb hts hinX0 hown hK.1 hP 5 rfl rfl 1 (by decide) hw3 (fun _ h9 => h9) rfl dX1_keepBetweenBars_54 ?_
    refine lv_iload_n hx hb dX1_keepBetweenBars_57 rfl (lv_at hl 2 rfl) ?_
    refine va_iald hx hb hK.1 hP 6 0 rfl rfl (ib_in h1) dX1_keepBetweenBars_58 ?_
    refine lv_i2l hx hb dX1_keepBetweenBars_59 rfl ?_
    refine lv_aload_n hx hb dX1_keepBetweenBars_60 rfl (lv_at hl 0 rfl) ?_
    refine va_get (D := D) (ci := 1) (v := .ref (ads 2)) (C := RX1) (T := TX1) (N := 10) hx hb hts hinX1 hown hK.1 hP 0 rfl rfl 3 (by decide) hw2 (fun _ h9 => h9) rfl dX1_keepBetweenBars_61 ?_
    refine lv_iload_n hx hb dX1_keepBetweenBars_64 rfl (lv_at hl 2 rfl) ?_
    refine va_lald hx hb hK.1 hP 2 1 rfl rfl (ib_in h1) dX1_keepBetweenBars_65 ?_
    refine lv_lmul hx hb dX1_keepBetweenBars_66 ?_
    refine W.lcmp hx hb dX1_keepBetweenBars_67 ?_
    refine lv_if_ge (tgt := 91) hx hb dX1_keepBetweenBars_68 (by decide) (fun q3 => ?_) (fun q3 => ?_)
    · replace hf := ifT q3 hf
      obtain rfl := Option.some.inj hf
      exact retV hx hb hr hlocks hP hD hS dX1_keepBetweenBars_91
    · replace hf := ifF q3 hf
      refine lv_aload_n hx hb dX1_keepBetweenBars_71 rfl (lv_at hl 0 rfl) ?_
      refine va_get (D := D) (ci := 1) (v := .ref (ads 1)) (C := RX1) (T := TX1) (N := 10) hx hb hts hinX1 hown hK.1 hP 0 rfl rfl 2 (by decide) hw0 (fun _ h9 => h9) rfl dX1_keepBetweenBars_72 ?_
      refine lv_iload_n hx hb dX1_keepBetweenBars_75 rfl (lv_at hl 2 rfl) ?_
      refine lv_aload_n hx hb dX1_keepBetweenBars_76 rfl (lv_at hl 1 rfl) ?_
      refine va_get (D := D) (ci := 0) (v := .ref (adc 1)) (C := RX0) (T := TX0) (N := 12) hx hb hts hinX0 hown hK.1 hP 5 rfl rfl 1 (by decide) hw3 (fun _ h9 => h9) rfl dX1_keepBetweenBars_77 ?_
      refine lv_iload_n hx hb dX1_keepBetweenBars_80 rfl (lv_at hl 2 rfl) ?_
      refine va_iald hx hb hK.1 hP 6 0 rfl rfl (ib_in h1) dX1_keepBetweenBars_81 ?_
      refine lv_i2l hx hb dX1_keepBetweenBars_82 rfl ?_
      refine lv_topl (fun v4 ev4 => ?_)
      replace hf := bndE hf ev4
      refine va_last hx hb hK.1 hP hD hS 1 1 rfl rfl (ib_in h1) dX1_keepBetweenBars_83 (fun H locs hP hD hS => ?_)
      replace hP : va_P D vwCl (wSw cI cJ cZ ads ((gs.1, gs.2.1, vp_updL gs.2.2.1 p2.toNatClampNeg v4, gs.2.2.2)) ++ wCi cI adc gc) H := hP
      replace hD : va_D A (wSw cI cJ cZ ads ((gs.1, gs.2.1, vp_updL gs.2.2.1 p2.toNatClampNeg v4, gs.2.2.2)) ++ wCi cI adc gc) := hD
      refine lv_aload_n hx hb dX1_keepBetweenBars_84 rfl (lv_at hl 0 rfl) ?_
      refine va_get (D := D) (ci := 1) (v := .ref (ads 2)) (C := RX1) (T := TX1) (N := 10) hx hb hts hinX1 hown hK.1 hP 0 rfl rfl 3 (by decide) hw2 (fun _ h9 => h9) rfl dX1_keepBetweenBars_85 ?_
      refine lv_iload_n hx hb dX1_keepBetweenBars_88 rfl (lv_at hl 2 rfl) ?_
      refine lv_lconst (v := 1) hx hb dX1_keepBetweenBars_89 (by decide) ?_
      refine va_last hx hb hK.1 hP hD hS 2 1 rfl rfl (ib_in h1) dX1_keepBetweenBars_90 (fun H locs hP hD hS => ?_)
      replace hP : va_P D vwCl (wSw cI cJ cZ ads ((gs.1, gs.2.1, vp_updL gs.2.2.1 p2.toNatClampNeg v4, vp_updL gs.2.2.2.1 p2.toNatClampNeg 1, gs.2.2.2.2)) ++ wCi cI adc gc) H := hP
      replace hD : va_D A (wSw cI cJ cZ ads ((gs.1, gs.2.1, vp_updL gs.2.2.1 p2.toNatClampNeg v4, vp_updL gs.2.2.2.1 p2.toNatClampNeg 1, gs.2.2.2.2)) ++ wCi cI adc gc) := hD
      obtain rfl := Option.some.inj hf
      exact retV hx hb hr hlocks hP hD hS dX1_keepBetweenBars_91
  · replace hf := ifF q2 hf
    refine lv_aload_n hx hb dX1_keepBetweenBars_24 rfl (lv_at hl 0 rfl) ?_
    refine va_get (D := D) (ci := 1) (v := .ref (ads 1)) (C := RX1) (T := TX1) (N := 10) hx hb hts hinX1 hown hK.1 hP 0 rfl rfl 2 (by decide) hw0 (fun _ h9 => h9) rfl dX1_keepBetweenBars_25 ?_
    refine lv_iload_n hx hb dX1_keepBetweenBars_28 rfl (lv_at hl 2 rfl) ?_
    refine lv_aload_n hx hb dX1_keepBetweenBars_29 rfl (lv_at hl 1 rfl) ?_
    refine va_get (D := D) (ci := 0) (v := .ref (adc 2)) (C := RX0) (T := TX0) (N := 12) hx hb hts hinX0 hown hK.1 hP 5 rfl rfl 2 (by decide) hw1 (fun _ h9 => h9) rfl dX1_keepBetweenBars_30 ?_
    refine lv_iload_n hx hb dX1_keepBetweenBars_33 rfl (lv_at hl 2 rfl) ?_
    refine va_iald hx hb hK.1 hP 7 0 rfl rfl (ib_in h1) dX1_keepBetweenBars_34 ?_
    refine lv_i2l hx hb dX1_keepBetweenBars_35 rfl ?_
    refine lv_topl (fun v5 ev5 => ?_)
    replace hf := bndE hf ev5
    refine va_last hx hb hK.1 hP hD hS 1 1 rfl rfl (ib_in h1) dX1_keepBetweenBars_36 (fun H locs hP hD hS => ?_)
    replace hP : va_P D vwCl (wSw cI cJ cZ ads ((gs.1, gs.2.1, vp_updL gs.2.2.1 p2.toNatClampNeg v5, gs.2.2.2)) ++ wCi cI adc gc) H := hP
    replace hD : va_D A (wSw cI cJ cZ ads ((gs.1, gs.2.1, vp_updL gs.2.2.1 p2.toNatClampNeg v5, gs.2.2.2)) ++ wCi cI adc gc) := hD
    refine lv_aload_n hx hb dX1_keepBetweenBars_37 rfl (lv_at hl 0 rfl) ?_
    refine va_get (D := D) (ci := 1) (v := .ref (ads 2)) (C := RX1) (T := TX1) (N := 10) hx hb hts hinX1 hown hK.1 hP 0 rfl rfl 3 (by decide) hw2 (fun _ h9 => h9) rfl dX1_keepBetweenBars_38 ?_
    refine lv_iload_n hx hb dX1_keepBetweenBars_41 rfl (lv_at hl 2 rfl) ?_
    refine lv_lconst (v := 1) hx hb dX1_keepBetweenBars_42 (by decide) ?_
    refine va_last hx hb hK.1 hP hD hS 2 1 rfl rfl (ib_in h1) dX1_keepBetweenBars_43 (fun H locs hP hD hS => ?_)
    replace hP : va_P D vwCl (wSw cI cJ cZ ads ((gs.1, gs.2.1, vp_updL gs.2.2.1 p2.toNatClampNeg v5, vp_updL gs.2.2.2.1 p2.toNatClampNeg 1, gs.2.2.2.2)) ++ wCi cI adc gc) H := hP
    replace hD : va_D A (wSw cI cJ cZ ads ((gs.1, gs.2.1, vp_updL gs.2.2.1 p2.toNatClampNeg v5, vp_updL gs.2.2.2.1 p2.toNatClampNeg 1, gs.2.2.2.2)) ++ wCi cI adc gc) := hD
    refine lv_goto (tgt := 91) hx hb dX1_keepBetweenBars_44 (by decide) ?_
    obtain rfl := Option.some.inj hf
    exact retV hx hb hr hlocks hP hD hS dX1_keepBetweenBars_91

def f_X1_doAct (gs : Sw) (gc : Ci) (p2 : Int32) : Option (Al × Al × Ar) :=
gd (ib p2 8) (
bnd (gc.2.2.2.2.2.2.2.2.2.1 p2.toNatClampNeg) (fun v2 =>
bnd (gc.2.2.2.2.2.2.2.2.2.2.1 p2.toNatClampNeg) (fun v3 =>
if v3 = 0 then
gd (ib v2 4) (
bnd ((gs.2.2.1 v2.toNatClampNeg) + (((gc.2.2.2.2.2.2.2.2.2.2.2 p2.toNatClampNeg).toInt64) * (gs.2.2.2.1 v2.toNatClampNeg))) (fun v6 =>
(f_X1_keepBetweenBars ((gs.1, gs.2.1, vp_updL gs.2.2.1 v2.toNatClampNeg v6, gs.2.2.2)) gc v2).bind (fun r7 =>
some (r7.1, r7.2, gs.2.2.2.2.1))))
else
if v3 = 1 then
gd (ib v2 4) (
if ¬ (gs.2.2.2.2.1 v2.toNatClampNeg) = 0 then
some (gs.2.2.1, gs.2.2.2.1, upd gs.2.2.2.2.1 v2.toNatClampNeg (vp_nar .boolean 0))
else
some (gs.2.2.1, gs.2.2.2.1, upd gs.2.2.2.2.1 v2.toNatClampNeg (vp_nar .boolean 1)))
else
if ¬ (gc.2.2.2.2.2.2.2.2.2.2.2 p2.toNatClampNeg) = 0 then
gd (ib v2 4) (
some (gs.2.2.1, gs.2.2.2.1, upd gs.2.2.2.2.1 v2.toNatClampNeg (vp_nar .boolean 0)))
else
gd (ib v2 4) (
some (gs.2.2.1, gs.2.2.2.1, upd gs.2.2.2.2.1 v2.toNatClampNeg (vp_nar .boolean 1))))))
abbrev rmX1_doAct : Room := { frames := 1, cells := 0, slots := 0, locals := 22 }
set_option maxHeartbeats 40000000 in
set_option maxRecDepth 100000 in
theorem c_X1_doAct (l : Launch) (D : va_G) (cI cJ cZ : ClassId) (ads : Nat → Nat) (adc : Nat → Nat) (gs : Sw) (gc : Ci) (p2 : Int32) (o : (Al × Al × Ar)) (hf : f_X1_doAct gs gc p2 = some o) : CtV l yX1_doAct wsX1_doAct rmX1_doAct D cI cJ cZ [.ref (ads 0), .ref (adc 0), .int p2] (wSw cI cJ cZ ads gs ++ wCi cI adc gc) (wSw cI cJ cZ ads ((gs.1, gs.2.1, o.1, o.2.1, o.2.2, gs.2.2.2.2.2)) ++ wCi cI adc gc) := by
  intro sz
  refine Met.ofW (cc := cX1_doAct) (maxL := 4) (ret := none) (by decide) rfl ?_
  intro p e s m args below meth c s₁ B hml hv
  obtain ⟨rfl, hsz, hP, hK, hD0⟩ := hv
  have hx := B.exec
  have hb := B.bytes
  have hr := B.returns
  have hts := atoms_spec (ws := wsX1_doAct) B.pre
  have hown : s.vm.findClass RX1 = some m.cls := findClass_of_methodNamed B.named
  have hlocks := B.notSynchronized
  subst hsz
  have hD := hD0.self (sz := s.heap.size)
  clear hD0
  generalize hAe : va_A (wSw cI cJ cZ ads gs ++ wCi cI adc gc) s.heap.size = A at hD ⊢
  have hA : ∀ q : Nat, s.heap.size ≤ q → A q := fun q h => by rw [← hAe]; exact Or.inr h
  have hS : va_S A s.heap s.heap [] := va_S.rf
  have hinX0 : ∀ w ∈ wsX00, w ∈ wsX1_doAct := by decide +kernel
  have hinX1 : ∀ w ∈ wsX10, w ∈ wsX1_doAct := by decide +kernel
  have hw0 : (Cond.fieldLink RX1 97 "SwingCircuits$Circuit" "to" "[I").before _ s = true := hts _ (by decide +kernel)
  have hw1 : (Cond.fieldLink RX1 100 "SwingCircuits$Circuit" "act" "[I").before _ s = true := hts _ (by decide +kernel)
  have hw2 : (Cond.fieldLink RX1 25 "SwingCircuits$Swing" "filling" "[Z").before _ s = true := hts _ (by decide +kernel)
  have hw3 : (Cond.fieldLink RX1 103 "SwingCircuits$Circuit" "by" "[I").before _ s = true := hts _ (by decide +kernel)
  have hw4 : (Cond.fieldLink RX1 18 "SwingCircuits$Swing" "num" "[J").before _ s = true := hts _ (by decide +kernel)
  have hw5 : (Cond.fieldLink RX1 22 "SwingCircuits$Swing" "den" "[J").before _ s = true := hts _ (by decide +kernel)
  have hl := lv_entry ([.ref (ads 0), .ref (adc 0), .int p2]) (n := 4) (Nat.le_of_ble_eq_true rfl)
  rw [lg_entry_eq]
  generalize (lg_sl ([.ref (ads 0), .ref (adc 0), .int p2]) ++ List.replicate (4 - (lg_sl ([.ref (ads 0), .ref (adc 0), .int p2])).length) Slot.unset).toArray = ls at hl ⊢
  replace hl : lv_has ls 4 [(0, .ref (ads 0)), (1, .ref (adc 0)), (2, .int p2)] := hl
  unfold f_X1_doAct at hf
  refine lv_aload_n hx hb dX1_doAct_0 rfl (lv_at hl 1 rfl) ?_
  refine va_get (D := D) (ci := 0) (v := .ref (adc 8)) (C := RX0) (T := TX0) (N := 12) hx hb hts hinX0 hown hK.1 hP 5 rfl rfl 9 (by decide) hw0 (fun _ h9 => h9) rfl dX1_doAct_1 ?_
  refine lv_iload_n hx hb dX1_doAct_4 rfl (lv_at hl 2 rfl) ?_
  replace hf := gdE hf
  obtain ⟨h1, hf⟩ := hf
  refine va_iald hx hb hK.1 hP 13 0 rfl rfl (ib_in h1) dX1_doAct_5 ?_
  refine lv_topi (fun v2 ev2 => ?_)
  replace hf := bndE hf ev2
  refine lv_istore_n (lv' := [(3, .int v2), (0, .ref (ads 0)), (1, .ref (adc 0)), (2, .int p2)]) hx hb dX1_doAct_6 rfl hl (by decide) rfl (fun ls hl => ?_)
  refine lv_aload_n hx hb dX1_doAct_7 rfl (lv_at hl 2 rfl) ?_
  refine va_get (D := D) (ci := 0) (v := .ref (adc 9)) (C := RX0) (T := TX0) (N := 12) hx hb hts hinX0 hown hK.1 hP 5 rfl rfl 10 (by decide) hw1 (fun _ h9 => h9) rfl dX1_doAct_8 ?_
  refine lv_iload_n hx hb dX1_doAct_11 rfl (lv_at hl 3 rfl) ?_
  refine va_iald hx hb hK.1 hP 14 0 rfl rfl (ib_in h1) dX1_doAct_12 ?_
  refine lv_topi (fun v3 ev3 => ?_)
  replace hf := bndE hf ev3
  by_cases q4 : v3 = 0
  · replace hf := ifT q4 hf
    refine lv_lookup (off := 27) (tgt := 40) hx hb dX1_doAct_13 (by decide) (by rw [q4]; rfl) (by decide) ?_
    refine lv_aload_n hx hb dX1_doAct_40 rfl (lv_at hl 1 rfl) ?_
    refine va_get (D := D) (ci := 1) (v := .ref (ads 1)) (C := RX1) (T := TX1) (N := 10) hx hb hts hinX1 hown hK.1 hP 0 rfl rfl 2 (by decide) hw4 (fun _ h9 => h9) rfl dX1_doAct_41 ?_
    refine lv_iload_n hx hb dX1_doAct_44 rfl (lv_at hl 0 rfl) ?_
    refine lv_dup2_11 hx hb dX1_doAct_45 rfl rfl ?_
    replace hf := gdE hf
    obtain ⟨h5, hf⟩ := hf
    refine va_lald hx hb hK.1 hP 1 1 rfl rfl (ib_in h5) dX1_doAct_46 ?_
    refine lv_aload_n hx hb dX1_doAct_47 rfl (lv_at hl 2 rfl) ?_
    refine va_get (D := D) (ci := 0) (v := .ref (adc 10)) (C := RX0) (T := TX0) (N := 12) hx hb hts hinX0 hown hK.1 hP 5 rfl rfl 11 (by decide) hw3 (fun _ h9 => h9) rfl dX1_doAct_48 ?_
    refine lv_iload_n hx hb dX1_doAct_51 rfl (lv_at hl 3 rfl) ?_
    refine va_iald hx hb hK.1 hP 15 0 rfl rfl (ib_in h1) dX1_doAct_52 ?_
    refine lv_i2l hx hb dX1_doAct_53 rfl ?_
    refine lv_aload_n hx hb dX1_doAct_54 rfl (lv_at hl 1 rfl) ?_
    refine va_get (D := D) (ci := 1) (v := .ref (ads 2)) (C := RX1) (T := TX1) (N := 10) hx hb hts hinX1 hown hK.1 hP 0 rfl rfl 3 (by decide) hw5 (fun _ h9 => h9) rfl dX1_doAct_55 ?_
    refine lv_iload_n hx hb dX1_doAct_58 rfl (lv_at hl 0 rfl) ?_
    refine va_lald hx hb hK.1 hP 2 1 rfl rfl (ib_in h5) dX1_doAct_59 ?_
    refine lv_lmul hx hb dX1_doAct_60 ?_
    refine lv_ladd hx hb dX1_doAct_61 ?_
    refine lv_topl (fun v6 ev6 => ?_)
    replace hf := bndE hf ev6
    refine va_last hx hb hK.1 hP hD hS 1 1 rfl rfl (ib_in h5) dX1_doAct_62 (fun H locs hP hD hS => ?_)
    replace hP : va_P D vwCl (wSw cI cJ cZ ads ((gs.1, gs.2.1, vp_updL gs.2.2.1 v2.toNatClampNeg v6, gs.2.2.2)) ++ wCi cI adc gc) H := hP
    replace hD : va_D A (wSw cI cJ cZ ads ((gs.1, gs.2.1, vp_updL gs.2.2.1 v2.toNatClampNeg v6, gs.2.2.2)) ++ wCi cI adc gc) := hD
    refine lv_aload_n hx hb dX1_doAct_63 rfl (lv_at hl 1 rfl) ?_
    refine lv_aload_n hx hb dX1_doAct_64 rfl (lv_at hl 2 rfl) ?_
    refine lv_iload_n hx hb dX1_doAct_65 rfl (lv_at hl 0 rfl) ?_
    replace hf := bdE hf
    obtain ⟨r7, hgr7, hf⟩ := hf
    refine xVw (va_runV (As := [.ref (adc 0), .int v2]) (rest := []) ⟨hx, hb, hml, hown, hts⟩ (c_X1_keepBetweenBars l D cI cJ cZ ads adc ((gs.1, gs.2.1, vp_updL gs.2.2.1 v2.toNatClampNeg v6, gs.2.2.2)) gc v2 r7 hgr7 _) (cwV 2 hts gX1_doAct_X1_keepBetweenBars rfl rfl rfl (by decide +kernel) ⟨Nat.le_of_ble_eq_true rfl, Nat.le_of_ble_eq_true rfl⟩) ⟨PreW.blind, xRecv (q0 := 0) hK hP rfl rfl, (xPrew hK hP hD _)⟩ rfl rfl hl.1 rfl (lv_room (Nat.le_of_ble_eq_true rfl)) dX1_doAct_66 ⟨Nat.le_of_ble_eq_true rfl, Nat.le_of_ble_eq_true rfl⟩) hD hS hA (fun H locs hP hD hS => ?_)
    replace hP : va_P D vwCl (wSw cI cJ cZ ads ((gs.1, gs.2.1, r7.1, r7.2, gs.2.2.2.2)) ++ wCi cI adc gc) H := hP
    replace hD : va_D A (wSw cI cJ cZ ads ((gs.1, gs.2.1, r7.1, r7.2, gs.2.2.2.2)) ++ wCi cI adc gc) := hD
    refine lv_goto (tgt := 115) hx hb dX1_doAct_69 (by decide) ?_
    obtain rfl := Option.some.inj hf
    exact retV hx hb hr hlocks hP hD hS dX1_doAct_115
  · replace hf := ifF q4 hf
    by_cases q8 : v3 = 1
    · replace hf := ifT q8 hf
      refine lv_lookup (off := 59) (tgt := 72) hx hb dX1_doAct_13 (by decide) (by rw [q8]; rfl) (by decide) ?_
      refine lv_aload_n hx hb dX1_doAct_72 rfl (lv_at hl 1 rfl) ?_
      refine va_get (D := D) (ci := 1) (v := .ref (ads 3)) (C := RX1) (T := TX1) (N := 10) hx hb hts hinX1 hown hK.1 hP 0 rfl rfl 4 (by decide) hw2 (fun _ h9 => h9) rfl dX1_doAct_73 ?_
      refine lv_iload_n hx hb dX1_doAct_76 rfl (lv_at hl 0 rfl) ?_
      refine lv_aload_n hx hb dX1_doAct_77 rfl (lv_at hl 1 rfl) ?_
      refine va_get (D := D) (ci := 1) (v := .ref (ads 3)) (C := RX1) (T := TX1) (N := 10) hx hb hts hinX1 hown hK.1 hP 0 rfl rfl 4 (by decide) hw2 (fun _ h9 => h9) rfl dX1_doAct_78 ?_
      refine lv_iload_n hx hb dX1_doAct_81 rfl (lv_at hl 0 rfl) ?_
      replace hf := gdE hf
      obtain ⟨h9, hf⟩ := hf
      refine va_zald hx hb hK.1 hP 3 2 rfl rfl (ib_in h9) dX1_doAct_82 ?_
      refine lv_if_ne (tgt := 90) hx hb dX1_doAct_83 (by decide) (fun q10 => ?_) (fun q10 => ?_)
      · replace hf := ifT q10 hf
        refine lv_iconst (v := 0) hx hb dX1_doAct_90 (by decide) ?_
        refine va_zast hx hb hK.1 hP hD hS 3 2 rfl rfl (ib_in h9) dX1_doAct_91 (fun H locs hP hD hS => ?_)
        replace hP : va_P D vwCl (wSw cI cJ cZ ads ((gs.1, gs.2.1, gs.2.2.1, gs.2.2.2.1, upd gs.2.2.2.2.1 v2.toNatClampNeg (vp_nar .boolean 0), gs.2.2.2.2.2)) ++ wCi cI adc gc) H := hP
        replace hD : va_D A (wSw cI cJ cZ ads ((gs.1, gs.2.1, gs.2.2.1, gs.2.2.2.1, upd gs.2.2.2.2.1 v2.toNatClampNeg (vp_nar .boolean 0), gs.2.2.2.2.2)) ++ wCi cI adc gc) := hD
        refine lv_goto (tgt := 115) hx hb dX1_doAct_92 (by decide) ?_
        obtain rfl := Option.some.inj hf
        exact retV hx hb hr hlocks hP hD hS dX1_doAct_115
      · replace hf := ifN q10 hf
        refine lv_iconst (v := 1) hx hb dX1_doAct_86 (by decide) ?_
        refine lv_goto (tgt := 91) hx hb dX1_doAct_87 (by decide) ?_
        refine va_zast hx hb hK.1 hP hD hS 3 2 rfl rfl (ib_in h9) dX1_doAct_91 (fun H locs hP hD hS => ?_)
        replace hP : va_P D vwCl (wSw cI cJ cZ ads ((gs.1, gs.2.1, gs.2.2.1, gs.2.2.2.1, upd gs.2.2.2.2.1 v2.toNatClampNeg (vp_nar .boolean 1), gs.2.2.2.2.2)) ++ wCi cI adc gc) H := hP
        replace hD : va_D A (wSw cI cJ cZ ads ((gs.1, gs.2.1, gs.2.2.1, gs.2.2.2.1, upd gs.2.2.2.2.1 v2.toNatClampNeg (vp_nar .boolean 1), gs.2.2.2.2.2)) ++ wCi cI adc gc) := hD
        refine lv_goto (tgt := 115) hx hb dX1_doAct_92 (by decide) ?_
        obtain rfl := Option.some.inj hf
        exact retV hx hb hr hlocks hP hD hS dX1_doAct_115
    · replace hf := ifF q8 hf
      refine lv_lookup (off := 82) (tgt := 95) hx hb dX1_doAct_13 (by decide) (by refine (lv_osw q4 (by decide)).trans ?_; refine (lv_osw q8 (by decide)).trans ?_; rfl) (by decide) ?_
      refine lv_aload_n hx hb dX1_doAct_95 rfl (lv_at hl 1 rfl) ?_
      refine va_get (D := D) (ci := 1) (v := .ref (ads 3)) (C := RX1) (T := TX1) (N := 10) hx hb hts hinX1 hown hK.1 hP 0 rfl rfl 4 (by decide) hw2 (fun _ h9 => h9) rfl dX1_doAct_96 ?_
      refine lv_iload_n hx hb dX1_doAct_99 rfl (lv_at hl 0 rfl) ?_
      refine lv_aload_n hx hb dX1_doAct_100 rfl (lv_at hl 2 rfl) ?_
      refine va_get (D := D) (ci := 0) (v := .ref (adc 10)) (C := RX0) (T := TX0) (N := 12) hx hb hts hinX0 hown hK.1 hP 5 rfl rfl 11 (by decide) hw3 (fun _ h9 => h9) rfl dX1_doAct_101 ?_
      refine lv_iload_n hx hb dX1_doAct_104 rfl (lv_at hl 3 rfl) ?_
      refine va_iald hx hb hK.1 hP 15 0 rfl rfl (ib_in h1) dX1_doAct_105 ?_
      refine lv_if_ne (tgt := 113) hx hb dX1_doAct_106 (by decide) (fun q11 => ?_) (fun q11 => ?_)
      · replace hf := ifT q11 hf
        refine lv_iconst (v := 0) hx hb dX1_doAct_113 (by decide) ?_
        replace hf := gdE hf
        obtain ⟨h12, hf⟩ := hf
        refine va_zast hx hb hK.1 hP hD hS 3 2 rfl rfl (ib_in h12) dX1_doAct_114 (fun H locs hP hD hS => ?_)
        replace hP : va_P D vwCl (wSw cI cJ cZ ads ((gs.1, gs.2.1, gs.2.2.1, gs.2.2.2.1, upd gs.2.2.2.2.1 v2.toNatClampNeg (vp_nar .boolean 0), gs.2.2.2.2.2)) ++ wCi cI adc gc) H := hP
        replace hD : va_D A (wSw cI cJ cZ ads ((gs.1, gs.2.1, gs.2.2.1, gs.2.2.2.1, upd gs.2.2.2.2.1 v2.toNatClampNeg (vp_nar .boolean 0), gs.2.2.2.2.2)) ++ wCi cI adc gc) := hD
        obtain rfl := Option.some.inj hf
        exact retV hx hb hr hlocks hP hD hS dX1_doAct_115
      · replace hf := ifN q11 hf
        refine lv_iconst (v := 1) hx hb dX1_doAct_109 (by decide) ?_
        refine lv_goto (tgt := 114) hx hb dX1_doAct_110 (by decide) ?_
        replace hf := gdE hf
        obtain ⟨h13, hf⟩ := hf
        refine va_zast hx hb hK.1 hP hD hS 3 2 rfl rfl (ib_in h13) dX1_doAct_114 (fun H locs hP hD hS => ?_)
        replace hP : va_P D vwCl (wSw cI cJ cZ ads ((gs.1, gs.2.1, gs.2.2.1, gs.2.2.2.1, upd gs.2.2.2.2.1 v2.toNatClampNeg (vp_nar .boolean 1), gs.2.2.2.2.2)) ++ wCi cI adc gc) H := hP
        replace hD : va_D A (wSw cI cJ cZ ads ((gs.1, gs.2.1, gs.2.2.1, gs.2.2.2.1, upd gs.2.2.2.2.1 v2.toNatClampNeg (vp_nar .boolean 1), gs.2.2.2.2.2)) ++ wCi cI adc gc) := hD
        obtain rfl := Option.some.inj hf
        exact retV hx hb hr hlocks hP hD hS dX1_doAct_115

def f_X1_passOn_J74 (l2_2 : Int32) (rec2 : (Int32 → Al → Al → Ar → Ar → Option (Al × Al × Ar × Ar))) (s2_74 : Al) (s3_74 : Al) (s4_74 : Ar) (s5_74 : Ar) : Option (Al × Al × Ar × Ar) :=
rec2 (l2_2 + 1) s2_74 s3_74 s4_74 s5_74
def f_X1_passOn_B2 (gs : Sw) (gc : Ci) (rec2 : Int32 → Al → Al → Ar → Ar → Option (Al × Al × Ar × Ar)) (l2_2 : Int32) (s2_2 : Al) (s3_2 : Al) (s4_2 : Ar) (s5_2 : Ar) : Option (Al × Al × Ar × Ar) :=
if gc.2.2.2.2.2.1 ≤ l2_2 then
some (s2_2, s3_2, s4_2, s5_2)
else
gd (ib l2_2 8) (
if ¬ (gc.2.2.2.2.2.2.1 l2_2.toNatClampNeg) = gs.2.2.2.2.2.2.1 then
f_X1_passOn_J74 l2_2 rec2 s2_2 s3_2 s4_2 s5_2
else
if ¬ (gc.2.2.2.2.2.2.2.1 l2_2.toNatClampNeg) = gs.2.2.2.2.2.2.2.1 then
f_X1_passOn_J74 l2_2 rec2 s2_2 s3_2 s4_2 s5_2
else
bnd ((s5_2 l2_2.toNatClampNeg) + 1) (fun v5 =>
if ¬ ((upd s5_2 l2_2.toNatClampNeg v5) l2_2.toNatClampNeg) = (gc.2.2.2.2.2.2.2.2.1 l2_2.toNatClampNeg) then
f_X1_passOn_J74 l2_2 rec2 s2_2 s3_2 s4_2 (upd s5_2 l2_2.toNatClampNeg v5)
else
(f_X1_doAct ((gs.1, gs.2.1, s2_2, s3_2, s4_2, upd (upd s5_2 l2_2.toNatClampNeg v5) l2_2.toNatClampNeg 0, gs.2.2.2.2.2.2)) gc l2_2).bind (fun r7 =>
f_X1_passOn_J74 l2_2 rec2 r7.1 r7.2.1 r7.2.2 (upd (upd s5_2 l2_2.toNatClampNeg v5) l2_2.toNatClampNeg 0))))
def f_X1_passOn_L2 (gs : Sw) (gc : Ci) : Nat → Int32 → Al → Al → Ar → Ar → Option (Al × Al × Ar × Ar)
  | 0 => fun _ _ _ _ _ => none
  | n + 1 => f_X1_passOn_B2 gs gc (f_X1_passOn_L2 gs gc n)
def f_X1_passOn (gs : Sw) (gc : Ci) : Option (Al × Al × Ar × Ar) :=
f_X1_passOn_L2 gs gc fuel 0 gs.2.2.1 gs.2.2.2.1 gs.2.2.2.2.1 gs.2.2.2.2.2.1
abbrev rmX1_passOn : Room := { frames := 2, cells := 0, slots := 0, locals := 45 }
set_option maxHeartbeats 40000000 in
set_option maxRecDepth 100000 in
theorem c_X1_passOn (l : Launch) (D : va_G) (cI cJ cZ : ClassId) (ads : Nat → Nat) (adc : Nat → Nat) (gs : Sw) (gc : Ci) (o : (Al × Al × Ar × Ar)) (hf : f_X1_passOn gs gc = some o) : CtV l yX1_passOn wsX1_passOn rmX1_passOn D cI cJ cZ [.ref (ads 0), .ref (adc 0)] (wSw cI cJ cZ ads gs ++ wCi cI adc gc) (wSw cI cJ cZ ads ((gs.1, gs.2.1, o.1, o.2.1, o.2.2.1, o.2.2.2, gs.2.2.2.2.2.2)) ++ wCi cI adc gc) := by
  intro sz
  refine Met.ofW (cc := cX1_passOn) (maxL := 3) (ret := none) (by decide) rfl ?_
  intro p e s m args below meth c s₁ B hml hv
  obtain ⟨rfl, hsz, hP, hK, hD0⟩ := hv
  have hx := B.exec
  have hb := B.bytes
  have hr := B.returns
  have hts := atoms_spec (ws := wsX1_passOn) B.pre
  have hown : s.vm.findClass RX1 = some m.cls := findClass_of_methodNamed B.named
  have hlocks := B.notSynchronized
  subst hsz
  have hD := hD0.self (sz := s.heap.size)
  clear hD0
  generalize hAe : va_A (wSw cI cJ cZ ads gs ++ wCi cI adc gc) s.heap.size = A at hD ⊢
  have hA : ∀ q : Nat, s.heap.size ≤ q → A q := fun q h => by rw [← hAe]; exact Or.inr h
  have hS : va_S A s.heap s.heap [] := va_S.rf
  have hinX0 : ∀ w ∈ wsX00, w ∈ wsX1_passOn := by decide +kernel
  have hinX1 : ∀ w ∈ wsX10, w ∈ wsX1_passOn := by decide +kernel
  have hw0 : (Cond.fieldLink RX1 81 "SwingCircuits$Circuit" "links" "I").before _ s = true := hts _ (by decide +kernel)
  have hw1 : (Cond.fieldLink RX1 84 "SwingCircuits$Circuit" "from" "[I").before _ s = true := hts _ (by decide +kernel)
  have hw2 : (Cond.fieldLink RX1 33 "SwingCircuits$Swing" "turned" "I").before _ s = true := hts _ (by decide +kernel)
  have hw3 : (Cond.fieldLink RX1 87 "SwingCircuits$Circuit" "at" "[I").before _ s = true := hts _ (by decide +kernel)
  have hw4 : (Cond.fieldLink RX1 37 "SwingCircuits$Swing" "side" "I").before _ s = true := hts _ (by decide +kernel)
  have hw5 : (Cond.fieldLink RX1 29 "SwingCircuits$Swing" "counts" "[I").before _ s = true := hts _ (by decide +kernel)
  have hw6 : (Cond.fieldLink RX1 90 "SwingCircuits$Circuit" "nth" "[I").before _ s = true := hts _ (by decide +kernel)
  have hl := lv_entry ([.ref (ads 0), .ref (adc 0)]) (n := 3) (Nat.le_of_ble_eq_true rfl)
  rw [lg_entry_eq]
  generalize (lg_sl ([.ref (ads 0), .ref (adc 0)]) ++ List.replicate (3 - (lg_sl ([.ref (ads 0), .ref (adc 0)])).length) Slot.unset).toArray = ls at hl ⊢
  replace hl : lv_has ls 3 [(0, .ref (ads 0)), (1, .ref (adc 0))] := hl
  unfold f_X1_passOn at hf
  refine lv_iconst (v := 0) hx hb dX1_passOn_0 (by decide) ?_
  refine lv_istore_n (lv' := [(2, .int 0), (0, .ref (ads 0)), (1, .ref (adc 0))]) hx hb dX1_passOn_1 rfl hl (by decide) rfl (fun ls hl => ?_)
  have L2 : ∀ (n : Nat) (l2_2 : Int32) (s2_2 : Al) (s3_2 : Al) (s4_2 : Ar) (s5_2 : Ar) (H : Heap) (locs : List Loc) (ls : Array Slot), f_X1_passOn_L2 gs gc n l2_2 s2_2 s3_2 s4_2 s5_2 = some o → va_P D vwCl (wSw cI cJ cZ ads ((gs.1, gs.2.1, s2_2, s3_2, s4_2, s5_2, gs.2.2.2.2.2.2)) ++ wCi cI adc gc) H → va_D A (wSw cI cJ cZ ads ((gs.1, gs.2.1, s2_2, s3_2, s4_2, s5_2, gs.2.2.2.2.2.2)) ++ wCi cI adc gc) → va_S A s.heap H locs → lv_has ls 3 [(0, .ref (ads 0)), (1, .ref (adc 0)), (2, .int l2_2)] → W p l e (headSpec wsX1_passOn rmX1_passOn).room s m ([.ref (ads 0), .ref (adc 0)] : List Value).toArray below meth c H locs 0 0 (MQ below (QV D A (wSw cI cJ cZ ads ((gs.1, gs.2.1, o.1, o.2.1, o.2.2.1, o.2.2.2, gs.2.2.2.2.2.2)) ++ wCi cI adc gc)) ([.ref (ads 0), .ref (adc 0)] : List Value).toArray s 0 0 A) (F0 m 2 ls []) := by
    intro n
    induction n with
    | zero => intro l2_2 s2_2 s3_2 s4_2 s5_2 H locs ls hf; cases hf
    | succ n ih2 =>
      intro l2_2 s2_2 s3_2 s4_2 s5_2 H locs ls hf hP hD hS hl
      replace hf : f_X1_passOn_B2 gs gc (f_X1_passOn_L2 gs gc n) l2_2 s2_2 s3_2 s4_2 s5_2 = some o := hf
      generalize f_X1_passOn_L2 gs gc n = rec2 at ih2 hf
      unfold f_X1_passOn_B2 at hf
      refine lv_iload_n hx hb dX1_passOn_2 rfl (lv_at hl 2 rfl) ?_
      refine lv_aload_n hx hb dX1_passOn_3 rfl (lv_at hl 1 rfl) ?_
      refine va_get (D := D) (ci := 0) (v := .int gc.2.2.2.2.2.1) (C := RX0) (T := TX0) (N := 12) hx hb hts hinX0 hown hK.1 hP 5 rfl rfl 5 (by decide) hw0 (fun _ h9 => h9) rfl dX1_passOn_4 ?_
      refine lv_icmp_ge (tgt := 80) hx hb dX1_passOn_7 (by decide) (fun q1 => ?_) (fun q1 => ?_)
      · replace hf := ifT q1 hf
        obtain rfl := Option.some.inj hf
        exact retV hx hb hr hlocks hP hD hS dX1_passOn_80
      · replace hf := ifF q1 hf
        refine lv_aload_n hx hb dX1_passOn_10 rfl (lv_at hl 1 rfl) ?_
        refine va_get (D := D) (ci := 0) (v := .ref (adc 5)) (C := RX0) (T := TX0) (N := 12) hx hb hts hinX0 hown hK.1 hP 5 rfl rfl 6 (by decide) hw1 (fun _ h9 => h9) rfl dX1_passOn_11 ?_
        refine lv_iload_n hx hb dX1_passOn_14 rfl (lv_at hl 2 rfl) ?_
        replace hf := gdE hf
        obtain ⟨h2, hf⟩ := hf
        refine va_iald hx hb hK.1 hP 10 0 rfl rfl (ib_in h2) dX1_passOn_15 ?_
        refine lv_aload_n hx hb dX1_passOn_16 rfl (lv_at hl 0 rfl) ?_
        refine va_get (D := D) (ci := 1) (v := .int gs.2.2.2.2.2.2.1) (C := RX1) (T := TX1) (N := 10) hx hb hts hinX1 hown hK.1 hP 0 rfl rfl 6 (by decide) hw2 (fun _ h9 => h9) rfl dX1_passOn_17 ?_
        have J74 : ∀ (s2_74 : Al) (s3_74 : Al) (s4_74 : Ar) (s5_74 : Ar) (H : Heap) (locs : List Loc) (ls : Array Slot), f_X1_passOn_J74 l2_2 rec2 s2_74 s3_74 s4_74 s5_74 = some o → va_P D vwCl (wSw cI cJ cZ ads ((gs.1, gs.2.1, s2_74, s3_74, s4_74, s5_74, gs.2.2.2.2.2.2)) ++ wCi cI adc gc) H → va_D A (wSw cI cJ cZ ads ((gs.1, gs.2.1, s2_74, s3_74, s4_74, s5_74, gs.2.2.2.2.2.2)) ++ wCi cI adc gc) → va_S A s.heap H locs → lv_has ls 3 [(0, .ref (ads 0)), (1, .ref (adc 0)), (2, .int l2_2)] → W p l e (headSpec wsX1_passOn rmX1_passOn).room s m ([.ref (ads 0), .ref (adc 0)] : List Value).toArray below meth c H locs 0 0 (MQ below (QV D A (wSw cI cJ cZ ads ((gs.1, gs.2.1, o.1, o.2.1, o.2.2.1, o.2.2.2, gs.2.2.2.2.2.2)) ++ wCi cI adc gc)) ([.ref (ads 0), .ref (adc 0)] : List Value).toArray s 0 0 A) (F0 m 74 ls []) := by
          intro s2_74 s3_74 s4_74 s5_74 H locs ls hf hP hD hS hl
          unfold f_X1_passOn_J74 at hf
          refine lv_iinc (v := l2_2 + 1) (lv' := [(2, .int (l2_2 + 1)), (0, .ref (ads 0)), (1, .ref (adc 0))]) hx hb dX1_passOn_74 hl (k := 2) rfl (by rfl) (by decide) rfl (fun ls hl => ?_)
          refine lv_goto (tgt := 2) hx hb dX1_passOn_77 (by decide) ?_
          exact ih2 (l2_2 + 1) s2_74 s3_74 s4_74 s5_74 _ _ _ hf hP hD hS (lv_sub hl [1, 2, 0] rfl)
        refine lv_icmp_ne (tgt := 74) hx hb dX1_passOn_20 (by decide) (fun q3 => ?_) (fun q3 => ?_)
        · replace hf := ifT q3 hf
          exact J74 s2_2 s3_2 s4_2 s5_2 _ _ _ hf hP hD hS (lv_sub hl [0, 1, 2] rfl)
        · replace hf := ifN q3 hf
          refine lv_aload_n hx hb dX1_passOn_23 rfl (lv_at hl 1 rfl) ?_
          refine va_get (D := D) (ci := 0) (v := .ref (adc 6)) (C := RX0) (T := TX0) (N := 12) hx hb hts hinX0 hown hK.1 hP 5 rfl rfl 7 (by decide) hw3 (fun _ h9 => h9) rfl dX1_passOn_24 ?_
          refine lv_iload_n hx hb dX1_passOn_27 rfl (lv_at hl 2 rfl) ?_
          refine va_iald hx hb hK.1 hP 11 0 rfl rfl (ib_in h2) dX1_passOn_28 ?_
          refine lv_aload_n hx hb dX1_passOn_29 rfl (lv_at hl 0 rfl) ?_
          refine va_get (D := D) (ci := 1) (v := .int gs.2.2.2.2.2.2.2.1) (C := RX1) (T := TX1) (N := 10) hx hb hts hinX1 hown hK.1 hP 0 rfl rfl 7 (by decide) hw4 (fun _ h9 => h9) rfl dX1_passOn_30 ?_
          refine lv_icmp_ne (tgt := 74) hx hb dX1_passOn_33 (by decide) (fun q4 => ?_) (fun q4 => ?_)
          · replace hf := ifT q4 hf
            exact J74 s2_2 s3_2 s4_2 s5_2 _ _ _ hf hP hD hS (lv_sub hl [0, 1, 2] rfl)
          · replace hf := ifN q4 hf
            refine lv_aload_n hx hb dX1_passOn_36 rfl (lv_at hl 0 rfl) ?_
            refine va_get (D := D) (ci := 1) (v := .ref (ads 4)) (C := RX1) (T := TX1) (N := 10) hx hb hts hinX1 hown hK.1 hP 0 rfl rfl 5 (by decide) hw5 (fun _ h9 => h9) rfl dX1_passOn_37 ?_
            refine lv_iload_n hx hb dX1_passOn_40 rfl (lv_at hl 2 rfl) ?_
            refine lv_dup2_11 hx hb dX1_passOn_41 rfl rfl ?_
            refine va_iald hx hb hK.1 hP 4 0 rfl rfl (ib_in h2) dX1_passOn_42 ?_
            refine lv_iconst (v := 1) hx hb dX1_passOn_43 (by decide) ?_
            refine lv_iadd hx hb dX1_passOn_44 ?_
            refine lv_topi (fun v5 ev5 => ?_)
            replace hf := bndE hf ev5
            refine va_iast hx hb hK.1 hP hD hS 4 0 rfl rfl (ib_in h2) dX1_passOn_45 (fun H locs hP hD hS => ?_)
            replace hP : va_P D vwCl (wSw cI cJ cZ ads ((gs.1, gs.2.1, s2_2, s3_2, s4_2, upd s5_2 l2_2.toNatClampNeg v5, gs.2.2.2.2.2.2)) ++ wCi cI adc gc) H := hP
            replace hD : va_D A (wSw cI cJ cZ ads ((gs.1, gs.2.1, s2_2, s3_2, s4_2, upd s5_2 l2_2.toNatClampNeg v5, gs.2.2.2.2.2.2)) ++ wCi cI adc gc) := hD
            refine lv_aload_n hx hb dX1_passOn_46 rfl (lv_at hl 0 rfl) ?_
            refine va_get (D := D) (ci := 1) (v := .ref (ads 4)) (C := RX1) (T := TX1) (N := 10) hx hb hts hinX1 hown hK.1 hP 0 rfl rfl 5 (by decide) hw5 (fun _ h9 => h9) rfl dX1_passOn_47 ?_
            refine lv_iload_n hx hb dX1_passOn_50 rfl (lv_at hl 2 rfl) ?_
            refine va_iald hx hb hK.1 hP 4 0 rfl rfl (ib_in h2) dX1_passOn_51 ?_
            refine lv_aload_n hx hb dX1_passOn_52 rfl (lv_at hl 1 rfl) ?_
            refine va_get (D := D) (ci := 0) (v := .ref (adc 7)) (C := RX0) (T := TX0) (N := 12) hx hb hts hinX0 hown hK.1 hP 5 rfl rfl 8 (by decide) hw6 (fun _ h9 => h9) rfl dX1_passOn_53 ?_
            refine lv_iload_n hx hb dX1_passOn_56 rfl (lv_at hl 2 rfl) ?_
            refine va_iald hx hb hK.1 hP 12 0 rfl rfl (ib_in h2) dX1_passOn_57 ?_
            refine lv_icmp_ne (tgt := 74) hx hb dX1_passOn_58 (by decide) (fun q6 => ?_) (fun q6 => ?_)
            · replace hf := ifT q6 hf
              exact J74 s2_2 s3_2 s4_2 (upd s5_2 l2_2.toNatClampNeg v5) _ _ _ hf hP hD hS (lv_sub hl [0, 1, 2] rfl)
            · replace hf := ifN q6 hf
              refine lv_aload_n hx hb dX1_passOn_61 rfl (lv_at hl 0 rfl) ?_
              refine va_get (D := D) (ci := 1) (v := .ref (ads 4)) (C := RX1) (T := TX1) (N := 10) hx hb hts hinX1 hown hK.1 hP 0 rfl rfl 5 (by decide) hw5 (fun _ h9 => h9) rfl dX1_passOn_62 ?_
              refine lv_iload_n hx hb dX1_passOn_65 rfl (lv_at hl 2 rfl) ?_
              refine lv_iconst (v := 0) hx hb dX1_passOn_66 (by decide) ?_
              refine va_iast hx hb hK.1 hP hD hS 4 0 rfl rfl (ib_in h2) dX1_passOn_67 (fun H locs hP hD hS => ?_)
              replace hP : va_P D vwCl (wSw cI cJ cZ ads ((gs.1, gs.2.1, s2_2, s3_2, s4_2, upd (upd s5_2 l2_2.toNatClampNeg v5) l2_2.toNatClampNeg 0, gs.2.2.2.2.2.2)) ++ wCi cI adc gc) H := hP
              replace hD : va_D A (wSw cI cJ cZ ads ((gs.1, gs.2.1, s2_2, s3_2, s4_2, upd (upd s5_2 l2_2.toNatClampNeg v5) l2_2.toNatClampNeg 0, gs.2.2.2.2.2.2)) ++ wCi cI adc gc) := hD
              refine lv_aload_n hx hb dX1_passOn_68 rfl (lv_at hl 0 rfl) ?_
              refine lv_aload_n hx hb dX1_passOn_69 rfl (lv_at hl 1 rfl) ?_
              refine lv_iload_n hx hb dX1_passOn_70 rfl (lv_at hl 2 rfl) ?_
              replace hf := bdE hf
              obtain ⟨r7, hgr7, hf⟩ := hf
              refine xVw (va_runV (As := [.ref (adc 0), .int l2_2]) (rest := []) ⟨hx, hb, hml, hown, hts⟩ (c_X1_doAct l D cI cJ cZ ads adc ((gs.1, gs.2.1, s2_2, s3_2, s4_2, upd (upd s5_2 l2_2.toNatClampNeg v5) l2_2.toNatClampNeg 0, gs.2.2.2.2.2.2)) gc l2_2 r7 hgr7 _) (cwV 2 hts gX1_passOn_X1_doAct rfl rfl rfl (by decide +kernel) ⟨Nat.le_of_ble_eq_true rfl, Nat.le_of_ble_eq_true rfl⟩) ⟨PreW.blind, xRecv (q0 := 0) hK hP rfl rfl, (xPrew hK hP hD _)⟩ rfl rfl hl.1 rfl (lv_room (Nat.le_of_ble_eq_true rfl)) dX1_passOn_71 ⟨Nat.le_of_ble_eq_true rfl, Nat.le_of_ble_eq_true rfl⟩) hD hS hA (fun H locs hP hD hS => ?_)
              replace hP : va_P D vwCl (wSw cI cJ cZ ads ((gs.1, gs.2.1, r7.1, r7.2.1, r7.2.2, upd (upd s5_2 l2_2.toNatClampNeg v5) l2_2.toNatClampNeg 0, gs.2.2.2.2.2.2)) ++ wCi cI adc gc) H := hP
              replace hD : va_D A (wSw cI cJ cZ ads ((gs.1, gs.2.1, r7.1, r7.2.1, r7.2.2, upd (upd s5_2 l2_2.toNatClampNeg v5) l2_2.toNatClampNeg 0, gs.2.2.2.2.2.2)) ++ wCi cI adc gc) := hD
              exact J74 r7.1 r7.2.1 r7.2.2 (upd (upd s5_2 l2_2.toNatClampNeg v5) l2_2.toNatClampNeg 0) _ _ _ hf hP hD hS (lv_sub hl [0, 1, 2] rfl)
  exact L2 fuel 0 gs.2.2.1 gs.2.2.2.1 gs.2.2.2.2.1 gs.2.2.2.2.2.1 _ _ _ hf hP hD hS (lv_sub hl [1, 2, 0] rfl)

def f_X1_isSpent_B18 (gs : Sw) (gc : Ci) (rec18 : Int32 → Option Bool) (l2_18 : Int32) : Option Bool :=
if gc.1 ≤ l2_18 then
some false
else
gd (ib l2_18 4) (
(f_X1_isTooLong (gs.2.2.1 l2_18.toNatClampNeg) (gs.2.2.2.1 l2_18.toNatClampNeg)).bind (fun r5 =>
if (b2i r5) = 0 then
rec18 (l2_18 + 1)
else
some true))
def f_X1_isSpent_L18 (gs : Sw) (gc : Ci) : Nat → Int32 → Option Bool
  | 0 => fun _ => none
  | n + 1 => f_X1_isSpent_B18 gs gc (f_X1_isSpent_L18 gs gc n)
def f_X1_isSpent (gs : Sw) (gc : Ci) : Option Bool :=
(f_X1_isTooLong gs.1 gs.2.1).bind (fun r1 =>
if (b2i r1) = 0 then
f_X1_isSpent_L18 gs gc fuel 0
else
some true)
abbrev rmX1_isSpent : Room := { frames := 1, cells := 0, slots := 0, locals := 23 }
set_option maxHeartbeats 40000000 in
set_option maxRecDepth 100000 in
theorem c_X1_isSpent (l : Launch) (D : va_G) (cI cJ cZ : ClassId) (ads : Nat → Nat) (adc : Nat → Nat) (gs : Sw) (gc : Ci) (o : Bool) (hf : f_X1_isSpent gs gc = some o) : CtI l yX1_isSpent wsX1_isSpent rmX1_isSpent D cI cJ cZ [.ref (ads 0), .ref (adc 0)] (wSw cI cJ cZ ads gs ++ wCi cI adc gc) (wSw cI cJ cZ ads gs ++ wCi cI adc gc) (b2i o) := by
  intro sz
  refine Met.ofW (cc := cX1_isSpent) (maxL := 3) (ret := (some .boolean)) (by decide) rfl ?_
  intro p e s m args below meth c s₁ B hml hv
  obtain ⟨rfl, hsz, hP, hK, hD0⟩ := hv
  have hx := B.exec
  have hb := B.bytes
  have hr := B.returns
  have hts := atoms_spec (ws := wsX1_isSpent) B.pre
  have hown : s.vm.findClass RX1 = some m.cls := findClass_of_methodNamed B.named
  have hlocks := B.notSynchronized
  subst hsz
  have hD := hD0.self (sz := s.heap.size)
  clear hD0
  generalize hAe : va_A (wSw cI cJ cZ ads gs ++ wCi cI adc gc) s.heap.size = A at hD ⊢
  have hA : ∀ q : Nat, s.heap.size ≤ q → A q := fun q h => by rw [← hAe]; exact Or.inr h
  have hS : va_S A s.heap s.heap [] := va_S.rf
  have hinX0 : ∀ w ∈ wsX00, w ∈ wsX1_isSpent := by decide +kernel
  have hinX1 : ∀ w ∈ wsX10, w ∈ wsX1_isSpent := by decide +kernel
  have hw0 : (Cond.fieldLink RX1 9 "SwingCircuits$Swing" "timeNum" "J").before _ s = true := hts _ (by decide +kernel)
  have hw1 : (Cond.fieldLink RX1 15 "SwingCircuits$Swing" "timeDen" "J").before _ s = true := hts _ (by decide +kernel)
  have hw2 : (Cond.fieldLink RX1 51 "SwingCircuits$Circuit" "cells" "I").before _ s = true := hts _ (by decide +kernel)
  have hw3 : (Cond.fieldLink RX1 18 "SwingCircuits$Swing" "num" "[J").before _ s = true := hts _ (by decide +kernel)
  have hw4 : (Cond.fieldLink RX1 22 "SwingCircuits$Swing" "den" "[J").before _ s = true := hts _ (by decide +kernel)
  have hl := lv_entry ([.ref (ads 0), .ref (adc 0)]) (n := 3) (Nat.le_of_ble_eq_true rfl)
  rw [lg_entry_eq]
  generalize (lg_sl ([.ref (ads 0), .ref (adc 0)]) ++ List.replicate (3 - (lg_sl ([.ref (ads 0), .ref (adc 0)])).length) Slot.unset).toArray = ls at hl ⊢
  replace hl : lv_has ls 3 [(0, .ref (ads 0)), (1, .ref (adc 0))] := hl
  unfold f_X1_isSpent at hf
  refine lv_aload_n hx hb dX1_isSpent_0 rfl (lv_at hl 0 rfl) ?_
  refine va_get (D := D) (ci := 1) (v := .long gs.1) (C := RX1) (T := TX1) (N := 10) hx hb hts hinX1 hown hK.1 hP 0 rfl rfl 0 (by decide) hw0 (fun _ h9 => h9) rfl dX1_isSpent_1 ?_
  refine lv_aload_n hx hb dX1_isSpent_4 rfl (lv_at hl 0 rfl) ?_
  refine va_get (D := D) (ci := 1) (v := .long gs.2.1) (C := RX1) (T := TX1) (N := 10) hx hb hts hinX1 hown hK.1 hP 0 rfl rfl 1 (by decide) hw1 (fun _ h9 => h9) rfl dX1_isSpent_5 ?_
  replace hf := bdE hf
  obtain ⟨r1, hgr1, hf⟩ := hf
  refine xI0 (va_runS (As := [.long gs.1, .long gs.2.1]) (rest := []) ⟨hx, hb, hml, hown, hts⟩ (c_X1_isTooLong l D cI cJ cZ gs.1 gs.2.1 r1 hgr1 _) (va_cwS 2 hts gX1_isSpent_X1_isTooLong rfl rfl rfl (by decide +kernel) ⟨Nat.le_of_ble_eq_true rfl, Nat.le_of_ble_eq_true rfl⟩) ⟨PreW.blind, (xPre0 hK _)⟩ rfl rfl hl.1 rfl (lv_room (Nat.le_of_ble_eq_true rfl)) dX1_isSpent_8 ⟨Nat.le_of_ble_eq_true rfl, Nat.le_of_ble_eq_true rfl⟩) hP hS hA (fun H locs hP hS => ?_)
  refine lv_if_eq (tgt := 16) hx hb dX1_isSpent_11 (by decide) (fun q2 => ?_) (fun q2 => ?_)
  · replace hf := ifT q2 hf
    refine lv_iconst (v := 0) hx hb dX1_isSpent_16 (by decide) ?_
    refine lv_istore_n (lv' := [(2, .int 0), (0, .ref (ads 0)), (1, .ref (adc 0))]) hx hb dX1_isSpent_17 rfl hl (by decide) rfl (fun ls hl => ?_)
    have L18 : ∀ (n : Nat) (l2_18 : Int32) (H : Heap) (locs : List Loc) (ls : Array Slot), f_X1_isSpent_L18 gs gc n l2_18 = some o → va_P D vwCl (wSw cI cJ cZ ads gs ++ wCi cI adc gc) H → va_D A (wSw cI cJ cZ ads gs ++ wCi cI adc gc) → va_S A s.heap H locs → lv_has ls 3 [(0, .ref (ads 0)), (1, .ref (adc 0)), (2, .int l2_18)] → W p l e (headSpec wsX1_isSpent rmX1_isSpent).room s m ([.ref (ads 0), .ref (adc 0)] : List Value).toArray below meth c H locs 0 0 (MQ below (QI D A (b2i o) (wSw cI cJ cZ ads gs ++ wCi cI adc gc)) ([.ref (ads 0), .ref (adc 0)] : List Value).toArray s 0 0 A) (F0 m 18 ls []) := by
      intro n
      induction n with
      | zero => intro l2_18 H locs ls hf; cases hf
      | succ n ih18 =>
        intro l2_18 H locs ls hf hP hD hS hl
        replace hf : f_X1_isSpent_B18 gs gc (f_X1_isSpent_L18 gs gc n) l2_18 = some o := hf
        generalize f_X1_isSpent_L18 gs gc n = rec18 at ih18 hf
        unfold f_X1_isSpent_B18 at hf
        refine lv_iload_n hx hb dX1_isSpent_18 rfl (lv_at hl 2 rfl) ?_
        refine lv_aload_n hx hb dX1_isSpent_19 rfl (lv_at hl 1 rfl) ?_
        refine va_get (D := D) (ci := 0) (v := .int gc.1) (C := RX0) (T := TX0) (N := 12) hx hb hts hinX0 hown hK.1 hP 5 rfl rfl 0 (by decide) hw2 (fun _ h9 => h9) rfl dX1_isSpent_20 ?_
        refine lv_icmp_ge (tgt := 52) hx hb dX1_isSpent_23 (by decide) (fun q3 => ?_) (fun q3 => ?_)
        · replace hf := ifT q3 hf
          refine lv_iconst (v := 0) hx hb dX1_isSpent_52 (by decide) ?_
          obtain rfl := Option.some.inj hf
          exact retZ false rfl hx hb hr hlocks hP hD hS dX1_isSpent_53
        · replace hf := ifF q3 hf
          refine lv_aload_n hx hb dX1_isSpent_26 rfl (lv_at hl 0 rfl) ?_
          refine va_get (D := D) (ci := 1) (v := .ref (ads 1)) (C := RX1) (T := TX1) (N := 10) hx hb hts hinX1 hown hK.1 hP 0 rfl rfl 2 (by decide) hw3 (fun _ h9 => h9) rfl dX1_isSpent_27 ?_
          refine lv_iload_n hx hb dX1_isSpent_30 rfl (lv_at hl 2 rfl) ?_
          replace hf := gdE hf
          obtain ⟨h4, hf⟩ := hf
          refine va_lald hx hb hK.1 hP 1 1 rfl rfl (ib_in h4) dX1_isSpent_31 ?_
          refine lv_aload_n hx hb dX1_isSpent_32 rfl (lv_at hl 0 rfl) ?_
          refine va_get (D := D) (ci := 1) (v := .ref (ads 2)) (C := RX1) (T := TX1) (N := 10) hx hb hts hinX1 hown hK.1 hP 0 rfl rfl 3 (by decide) hw4 (fun _ h9 => h9) rfl dX1_isSpent_33 ?_
          refine lv_iload_n hx hb dX1_isSpent_36 rfl (lv_at hl 2 rfl) ?_
          refine va_lald hx hb hK.1 hP 2 1 rfl rfl (ib_in h4) dX1_isSpent_37 ?_
          replace hf := bdE hf
          obtain ⟨r5, hgr5, hf⟩ := hf
          refine xI0 (va_runS (As := [.long (gs.2.2.1 l2_18.toNatClampNeg), .long (gs.2.2.2.1 l2_18.toNatClampNeg)]) (rest := []) ⟨hx, hb, hml, hown, hts⟩ (c_X1_isTooLong l D cI cJ cZ (gs.2.2.1 l2_18.toNatClampNeg) (gs.2.2.2.1 l2_18.toNatClampNeg) r5 hgr5 _) (va_cwS 2 hts gX1_isSpent_X1_isTooLong rfl rfl rfl (by decide +kernel) ⟨Nat.le_of_ble_eq_true rfl, Nat.le_of_ble_eq_true rfl⟩) ⟨PreW.blind, (xPre0 hK _)⟩ rfl rfl hl.1 rfl (lv_room (Nat.le_of_ble_eq_true rfl)) dX1_isSpent_38 ⟨Nat.le_of_ble_eq_true rfl, Nat.le_of_ble_eq_true rfl⟩) hP hS hA (fun H locs hP hS => ?_)
          refine lv_if_eq (tgt := 46) hx hb dX1_isSpent_41 (by decide) (fun q6 => ?_) (fun q6 => ?_)
          · replace hf := ifT q6 hf
            refine lv_iinc (v := l2_18 + 1) (lv' := [(2, .int (l2_18 + 1)), (0, .ref (ads 0)), (1, .ref (adc 0))]) hx hb dX1_isSpent_46 hl (k := 2) rfl (by rfl) (by decide) rfl (fun ls hl => ?_)
            refine lv_goto (tgt := 18) hx hb dX1_isSpent_49 (by decide) ?_
            exact ih18 (l2_18 + 1) _ _ _ hf hP hD hS (lv_sub hl [1, 2, 0] rfl)
          · replace hf := ifF q6 hf
            refine lv_iconst (v := 1) hx hb dX1_isSpent_44 (by decide) ?_
            obtain rfl := Option.some.inj hf
            exact retZ true rfl hx hb hr hlocks hP hD hS dX1_isSpent_45
    exact L18 fuel 0 _ _ _ hf hP hD hS (lv_sub hl [1, 2, 0] rfl)
  · replace hf := ifF q2 hf
    refine lv_iconst (v := 1) hx hb dX1_isSpent_14 (by decide) ?_
    obtain rfl := Option.some.inj hf
    exact retZ true rfl hx hb hr hlocks hP hD hS dX1_isSpent_15

def f_X1_advance_J61 (gs : Sw) (gc : Ci) (r2 : (Int32 × Int64 × Int64)) (r3 : (Int64 × Int64 × Al × Al)) (k1_37 : Int32) (k2_61 : Int32) : Option (Bool × Int64 × Int64 × Al × Al × Ar × Ar × Int32 × Int32 × Int64 × Int64) :=
(f_X1_passOn ((r3.1, r3.2.1, r3.2.2.1, r3.2.2.2, upd gs.2.2.2.2.1 r2.1.toNatClampNeg (vp_nar .boolean k2_61), gs.2.2.2.2.2.1, r2.1, k1_37, r2.2.1, r2.2.2)) gc).bind (fun r5 =>
(f_X1_isSpent ((r3.1, r3.2.1, r5.1, r5.2.1, r5.2.2.1, r5.2.2.2, r2.1, k1_37, r2.2.1, r2.2.2)) gc).bind (fun r6 =>
if ¬ (b2i r6) = 0 then
some (false, r3.1, r3.2.1, r5.1, r5.2.1, r5.2.2.1, r5.2.2.2, r2.1, k1_37, r2.2.1, r2.2.2)
else
some (true, r3.1, r3.2.1, r5.1, r5.2.1, r5.2.2.1, r5.2.2.2, r2.1, k1_37, r2.2.1, r2.2.2)))
def f_X1_advance_J37 (gs : Sw) (gc : Ci) (r2 : (Int32 × Int64 × Int64)) (r3 : (Int64 × Int64 × Al × Al)) (k1_37 : Int32) : Option (Bool × Int64 × Int64 × Al × Al × Ar × Ar × Int32 × Int32 × Int64 × Int64) :=
if ¬ k1_37 = 1 then
f_X1_advance_J61 gs gc r2 r3 k1_37 0
else
f_X1_advance_J61 gs gc r2 r3 k1_37 1
def f_X1_advance (gs : Sw) (gc : Ci) : Option (Bool × Int64 × Int64 × Al × Al × Ar × Ar × Int32 × Int32 × Int64 × Int64) :=
if ¬ gc.1 = 0 then
(f_X1_chooseTurning gs gc).bind (fun r2 =>
(f_X1_letTimePass ((gs.1, gs.2.1, gs.2.2.1, gs.2.2.2.1, gs.2.2.2.2.1, gs.2.2.2.2.2.1, r2.1, gs.2.2.2.2.2.2.2.1, r2.2.1, r2.2.2)) gc).bind (fun r3 =>
gd (ib r2.1 4) (
if (gs.2.2.2.2.1 r2.1.toNatClampNeg) = 0 then
f_X1_advance_J37 gs gc r2 r3 1
else
f_X1_advance_J37 gs gc r2 r3 0)))
else
some (false, gs.1, gs.2.1, gs.2.2.1, gs.2.2.2.1, gs.2.2.2.2.1, gs.2.2.2.2.2.1, gs.2.2.2.2.2.2.1, gs.2.2.2.2.2.2.2.1, gs.2.2.2.2.2.2.2.2.1, gs.2.2.2.2.2.2.2.2.2)
abbrev rmX1_advance : Room := { frames := 3, cells := 0, slots := 0, locals := 67 }
set_option maxHeartbeats 40000000 in
set_option maxRecDepth 100000 in
theorem c_X1_advance (l : Launch) (D : va_G) (cI cJ cZ : ClassId) (ads : Nat → Nat) (adc : Nat → Nat) (gs : Sw) (gc : Ci) (o : (Bool × Int64 × Int64 × Al × Al × Ar × Ar × Int32 × Int32 × Int64 × Int64)) (hf : f_X1_advance gs gc = some o) : CtI l yX1_advance wsX1_advance rmX1_advance D cI cJ cZ [.ref (ads 0), .ref (adc 0)] (wSw cI cJ cZ ads gs ++ wCi cI adc gc) (wSw cI cJ cZ ads o.2 ++ wCi cI adc gc) (b2i o.1) := by
  intro sz
  refine Met.ofW (cc := cX1_advance) (maxL := 2) (ret := (some .boolean)) (by decide) rfl ?_
  intro p e s m args below meth c s₁ B hml hv
  obtain ⟨rfl, hsz, hP, hK, hD0⟩ := hv
  have hx := B.exec
  have hb := B.bytes
  have hr := B.returns
  have hts := atoms_spec (ws := wsX1_advance) B.pre
  have hown : s.vm.findClass RX1 = some m.cls := findClass_of_methodNamed B.named
  have hlocks := B.notSynchronized
  subst hsz
  have hD := hD0.self (sz := s.heap.size)
  clear hD0
  generalize hAe : va_A (wSw cI cJ cZ ads gs ++ wCi cI adc gc) s.heap.size = A at hD ⊢
  have hA : ∀ q : Nat, s.heap.size ≤ q → A q := fun q h => by rw [← hAe]; exact Or.inr h
  have hS : va_S A s.heap s.heap [] := va_S.rf
  have hinX0 : ∀ w ∈ wsX00, w ∈ wsX1_advance := by decide +kernel
  have hinX1 : ∀ w ∈ wsX10, w ∈ wsX1_advance := by decide +kernel
  have hw0 : (Cond.fieldLink RX1 51 "SwingCircuits$Circuit" "cells" "I").before _ s = true := hts _ (by decide +kernel)
  have hw1 : (Cond.fieldLink RX1 25 "SwingCircuits$Swing" "filling" "[Z").before _ s = true := hts _ (by decide +kernel)
  have hw2 : (Cond.fieldLink RX1 33 "SwingCircuits$Swing" "turned" "I").before _ s = true := hts _ (by decide +kernel)
  have hw3 : (Cond.fieldLink RX1 37 "SwingCircuits$Swing" "side" "I").before _ s = true := hts _ (by decide +kernel)
  have hl := lv_entry ([.ref (ads 0), .ref (adc 0)]) (n := 2) (Nat.le_of_ble_eq_true rfl)
  rw [lg_entry_eq]
  generalize (lg_sl ([.ref (ads 0), .ref (adc 0)]) ++ List.replicate (2 - (lg_sl ([.ref (ads 0), .ref (adc 0)])).length) Slot.unset).toArray = ls at hl ⊢
  replace hl : lv_has ls 2 [(0, .ref (ads 0)), (1, .ref (adc 0))] := hl
  unfold f_X1_advance at hf
  refine lv_aload_n hx hb dX1_advance_0 rfl (lv_at hl 1 rfl) ?_
  refine va_get (D := D) (ci := 0) (v := .int gc.1) (C := RX0) (T := TX0) (N := 12) hx hb hts hinX0 hown hK.1 hP 5 rfl rfl 0 (by decide) hw0 (fun _ h9 => h9) rfl dX1_advance_1 ?_
  refine lv_if_ne (tgt := 9) hx hb dX1_advance_4 (by decide) (fun q1 => ?_) (fun q1 => ?_)
  · replace hf := ifT q1 hf
    refine lv_aload_n hx hb dX1_advance_9 rfl (lv_at hl 0 rfl) ?_
    refine lv_aload_n hx hb dX1_advance_10 rfl (lv_at hl 1 rfl) ?_
    replace hf := bdE hf
    obtain ⟨r2, hgr2, hf⟩ := hf
    refine xVw (va_runV (As := [.ref (adc 0)]) (rest := []) ⟨hx, hb, hml, hown, hts⟩ (c_X1_chooseTurning l D cI cJ cZ ads adc gs gc r2 hgr2 _) (cwV 1 hts gX1_advance_X1_chooseTurning rfl rfl rfl (by decide +kernel) ⟨Nat.le_of_ble_eq_true rfl, Nat.le_of_ble_eq_true rfl⟩) ⟨PreW.blind, xRecv (q0 := 0) hK hP rfl rfl, (xPrew hK hP hD _)⟩ rfl rfl hl.1 rfl (lv_room (Nat.le_of_ble_eq_true rfl)) dX1_advance_11 ⟨Nat.le_of_ble_eq_true rfl, Nat.le_of_ble_eq_true rfl⟩) hD hS hA (fun H locs hP hD hS => ?_)
    replace hP : va_P D vwCl (wSw cI cJ cZ ads ((gs.1, gs.2.1, gs.2.2.1, gs.2.2.2.1, gs.2.2.2.2.1, gs.2.2.2.2.2.1, r2.1, gs.2.2.2.2.2.2.2.1, r2.2.1, r2.2.2)) ++ wCi cI adc gc) H := hP
    replace hD : va_D A (wSw cI cJ cZ ads ((gs.1, gs.2.1, gs.2.2.1, gs.2.2.2.1, gs.2.2.2.2.1, gs.2.2.2.2.2.1, r2.1, gs.2.2.2.2.2.2.2.1, r2.2.1, r2.2.2)) ++ wCi cI adc gc) := hD
    refine lv_aload_n hx hb dX1_advance_14 rfl (lv_at hl 0 rfl) ?_
    refine lv_aload_n hx hb dX1_advance_15 rfl (lv_at hl 1 rfl) ?_
    replace hf := bdE hf
    obtain ⟨r3, hgr3, hf⟩ := hf
    refine xVw (va_runV (As := [.ref (adc 0)]) (rest := []) ⟨hx, hb, hml, hown, hts⟩ (c_X1_letTimePass l D cI cJ cZ ads adc ((gs.1, gs.2.1, gs.2.2.1, gs.2.2.2.1, gs.2.2.2.2.1, gs.2.2.2.2.2.1, r2.1, gs.2.2.2.2.2.2.2.1, r2.2.1, r2.2.2)) gc r3 hgr3 _) (cwV 1 hts gX1_advance_X1_letTimePass rfl rfl rfl (by decide +kernel) ⟨Nat.le_of_ble_eq_true rfl, Nat.le_of_ble_eq_true rfl⟩) ⟨PreW.blind, xRecv (q0 := 0) hK hP rfl rfl, (xPrew hK hP hD _)⟩ rfl rfl hl.1 rfl (lv_room (Nat.le_of_ble_eq_true rfl)) dX1_advance_16 ⟨Nat.le_of_ble_eq_true rfl, Nat.le_of_ble_eq_true rfl⟩) hD hS hA (fun H locs hP hD hS => ?_)
    replace hP : va_P D vwCl (wSw cI cJ cZ ads ((r3.1, r3.2.1, r3.2.2.1, r3.2.2.2, gs.2.2.2.2.1, gs.2.2.2.2.2.1, r2.1, gs.2.2.2.2.2.2.2.1, r2.2.1, r2.2.2)) ++ wCi cI adc gc) H := hP
    replace hD : va_D A (wSw cI cJ cZ ads ((r3.1, r3.2.1, r3.2.2.1, r3.2.2.2, gs.2.2.2.2.1, gs.2.2.2.2.2.1, r2.1, gs.2.2.2.2.2.2.2.1, r2.2.1, r2.2.2)) ++ wCi cI adc gc) := hD
    refine lv_aload_n hx hb dX1_advance_19 rfl (lv_at hl 0 rfl) ?_
    refine lv_aload_n hx hb dX1_advance_20 rfl (lv_at hl 0 rfl) ?_
    refine va_get (D := D) (ci := 1) (v := .ref (ads 3)) (C := RX1) (T := TX1) (N := 10) hx hb hts hinX1 hown hK.1 hP 0 rfl rfl 4 (by decide) hw1 (fun _ h9 => h9) rfl dX1_advance_21 ?_
    refine lv_aload_n hx hb dX1_advance_24 rfl (lv_at hl 0 rfl) ?_
    refine va_get (D := D) (ci := 1) (v := .int r2.1) (C := RX1) (T := TX1) (N := 10) hx hb hts hinX1 hown hK.1 hP 0 rfl rfl 6 (by decide) hw2 (fun _ h9 => h9) rfl dX1_advance_25 ?_
    replace hf := gdE hf
    obtain ⟨h4, hf⟩ := hf
    refine va_zald hx hb hK.1 hP 3 2 rfl rfl (ib_in h4) dX1_advance_28 ?_
    have J37 : ∀ (k1_37 : Int32) (H : Heap) (locs : List Loc) (ls : Array Slot), f_X1_advance_J37 gs gc r2 r3 k1_37 = some o → va_P D vwCl (wSw cI cJ cZ ads ((r3.1, r3.2.1, r3.2.2.1, r3.2.2.2, gs.2.2.2.2.1, gs.2.2.2.2.2.1, r2.1, gs.2.2.2.2.2.2.2.1, r2.2.1, r2.2.2)) ++ wCi cI adc gc) H → va_D A (wSw cI cJ cZ ads ((r3.1, r3.2.1, r3.2.2.1, r3.2.2.2, gs.2.2.2.2.1, gs.2.2.2.2.2.1, r2.1, gs.2.2.2.2.2.2.2.1, r2.2.1, r2.2.2)) ++ wCi cI adc gc) → va_S A s.heap H locs → lv_has ls 2 [(0, .ref (ads 0)), (1, .ref (adc 0))] → W p l e (headSpec wsX1_advance rmX1_advance).room s m ([.ref (ads 0), .ref (adc 0)] : List Value).toArray below meth c H locs 0 0 (MQ below (QI D A (b2i o.1) (wSw cI cJ cZ ads o.2 ++ wCi cI adc gc)) ([.ref (ads 0), .ref (adc 0)] : List Value).toArray s 0 0 A) (F0 m 37 ls [.int k1_37, .ref (ads 0)]) := by
      intro k1_37 H locs ls hf hP hD hS hl
      unfold f_X1_advance_J37 at hf
      refine va_put (D := D) (ci := 1) (v := .int k1_37) (ty := .int) (C := RX1) (T := TX1) (N := 10) hx hb hts hinX1 tyX1 tyX1_ok nmX1 hown hK.1 hP hD hS 0 rfl rfl 7 (by decide) hw3 (fun _ h9 => h9) rfl (by decide +kernel) rfl rfl (Nat.le_of_ble_eq_true rfl) dX1_advance_37 (fun H locs hP hD hS => ?_)
      replace hP : va_P D vwCl (wSw cI cJ cZ ads ((r3.1, r3.2.1, r3.2.2.1, r3.2.2.2, gs.2.2.2.2.1, gs.2.2.2.2.2.1, r2.1, k1_37, r2.2.1, r2.2.2)) ++ wCi cI adc gc) H := hP
      replace hD : va_D A (wSw cI cJ cZ ads ((r3.1, r3.2.1, r3.2.2.1, r3.2.2.2, gs.2.2.2.2.1, gs.2.2.2.2.2.1, r2.1, k1_37, r2.2.1, r2.2.2)) ++ wCi cI adc gc) := hD
      refine lv_aload_n hx hb dX1_advance_40 rfl (lv_at hl 0 rfl) ?_
      refine va_get (D := D) (ci := 1) (v := .ref (ads 3)) (C := RX1) (T := TX1) (N := 10) hx hb hts hinX1 hown hK.1 hP 0 rfl rfl 4 (by decide) hw1 (fun _ h9 => h9) rfl dX1_advance_41 ?_
      refine lv_aload_n hx hb dX1_advance_44 rfl (lv_at hl 0 rfl) ?_
      refine va_get (D := D) (ci := 1) (v := .int r2.1) (C := RX1) (T := TX1) (N := 10) hx hb hts hinX1 hown hK.1 hP 0 rfl rfl 6 (by decide) hw2 (fun _ h9 => h9) rfl dX1_advance_45 ?_
      refine lv_aload_n hx hb dX1_advance_48 rfl (lv_at hl 0 rfl) ?_
      refine va_get (D := D) (ci := 1) (v := .int k1_37) (C := RX1) (T := TX1) (N := 10) hx hb hts hinX1 hown hK.1 hP 0 rfl rfl 7 (by decide) hw3 (fun _ h9 => h9) rfl dX1_advance_49 ?_
      refine lv_iconst (v := 1) hx hb dX1_advance_52 (by decide) ?_
      have J61 : ∀ (k2_61 : Int32) (H : Heap) (locs : List Loc) (ls : Array Slot), f_X1_advance_J61 gs gc r2 r3 k1_37 k2_61 = some o → va_P D vwCl (wSw cI cJ cZ ads ((r3.1, r3.2.1, r3.2.2.1, r3.2.2.2, gs.2.2.2.2.1, gs.2.2.2.2.2.1, r2.1, k1_37, r2.2.1, r2.2.2)) ++ wCi cI adc gc) H → va_D A (wSw cI cJ cZ ads ((r3.1, r3.2.1, r3.2.2.1, r3.2.2.2, gs.2.2.2.2.1, gs.2.2.2.2.2.1, r2.1, k1_37, r2.2.1, r2.2.2)) ++ wCi cI adc gc) → va_S A s.heap H locs → lv_has ls 2 [(0, .ref (ads 0)), (1, .ref (adc 0))] → W p l e (headSpec wsX1_advance rmX1_advance).room s m ([.ref (ads 0), .ref (adc 0)] : List Value).toArray below meth c H locs 0 0 (MQ below (QI D A (b2i o.1) (wSw cI cJ cZ ads o.2 ++ wCi cI adc gc)) ([.ref (ads 0), .ref (adc 0)] : List Value).toArray s 0 0 A) (F0 m 61 ls [.int k2_61, .int r2.1, .ref (ads 3)]) := by
        intro k2_61 H locs ls hf hP hD hS hl
        unfold f_X1_advance_J61 at hf
        refine va_zast hx hb hK.1 hP hD hS 3 2 rfl rfl (ib_in h4) dX1_advance_61 (fun H locs hP hD hS => ?_)
        replace hP : va_P D vwCl (wSw cI cJ cZ ads ((r3.1, r3.2.1, r3.2.2.1, r3.2.2.2, upd gs.2.2.2.2.1 r2.1.toNatClampNeg (vp_nar .boolean k2_61), gs.2.2.2.2.2.1, r2.1, k1_37, r2.2.1, r2.2.2)) ++ wCi cI adc gc) H := hP
        replace hD : va_D A (wSw cI cJ cZ ads ((r3.1, r3.2.1, r3.2.2.1, r3.2.2.2, upd gs.2.2.2.2.1 r2.1.toNatClampNeg (vp_nar .boolean k2_61), gs.2.2.2.2.2.1, r2.1, k1_37, r2.2.1, r2.2.2)) ++ wCi cI adc gc) := hD
        refine lv_aload_n hx hb dX1_advance_62 rfl (lv_at hl 0 rfl) ?_
        refine lv_aload_n hx hb dX1_advance_63 rfl (lv_at hl 1 rfl) ?_
        replace hf := bdE hf
        obtain ⟨r5, hgr5, hf⟩ := hf
        refine xVw (va_runV (As := [.ref (adc 0)]) (rest := []) ⟨hx, hb, hml, hown, hts⟩ (c_X1_passOn l D cI cJ cZ ads adc ((r3.1, r3.2.1, r3.2.2.1, r3.2.2.2, upd gs.2.2.2.2.1 r2.1.toNatClampNeg (vp_nar .boolean k2_61), gs.2.2.2.2.2.1, r2.1, k1_37, r2.2.1, r2.2.2)) gc r5 hgr5 _) (cwV 1 hts gX1_advance_X1_passOn rfl rfl rfl (by decide +kernel) ⟨Nat.le_of_ble_eq_true rfl, Nat.le_of_ble_eq_true rfl⟩) ⟨PreW.blind, xRecv (q0 := 0) hK hP rfl rfl, (xPrew hK hP hD _)⟩ rfl rfl hl.1 rfl (lv_room (Nat.le_of_ble_eq_true rfl)) dX1_advance_64 ⟨Nat.le_of_ble_eq_true rfl, Nat.le_of_ble_eq_true rfl⟩) hD hS hA (fun H locs hP hD hS => ?_)
        replace hP : va_P D vwCl (wSw cI cJ cZ ads ((r3.1, r3.2.1, r5.1, r5.2.1, r5.2.2.1, r5.2.2.2, r2.1, k1_37, r2.2.1, r2.2.2)) ++ wCi cI adc gc) H := hP
        replace hD : va_D A (wSw cI cJ cZ ads ((r3.1, r3.2.1, r5.1, r5.2.1, r5.2.2.1, r5.2.2.2, r2.1, k1_37, r2.2.1, r2.2.2)) ++ wCi cI adc gc) := hD
        refine lv_aload_n hx hb dX1_advance_67 rfl (lv_at hl 0 rfl) ?_
        refine lv_aload_n hx hb dX1_advance_68 rfl (lv_at hl 1 rfl) ?_
        replace hf := bdE hf
        obtain ⟨r6, hgr6, hf⟩ := hf
        refine xIw (va_runV (As := [.ref (adc 0)]) (rest := []) ⟨hx, hb, hml, hown, hts⟩ (c_X1_isSpent l D cI cJ cZ ads adc ((r3.1, r3.2.1, r5.1, r5.2.1, r5.2.2.1, r5.2.2.2, r2.1, k1_37, r2.2.1, r2.2.2)) gc r6 hgr6 _) (cwV 1 hts gX1_advance_X1_isSpent rfl rfl rfl (by decide +kernel) ⟨Nat.le_of_ble_eq_true rfl, Nat.le_of_ble_eq_true rfl⟩) ⟨PreW.blind, xRecv (q0 := 0) hK hP rfl rfl, (xPrew hK hP hD _)⟩ rfl rfl hl.1 rfl (lv_room (Nat.le_of_ble_eq_true rfl)) dX1_advance_69 ⟨Nat.le_of_ble_eq_true rfl, Nat.le_of_ble_eq_true rfl⟩) hD hS hA (fun H locs hP hD hS => ?_)
        replace hP : va_P D vwCl (wSw cI cJ cZ ads ((r3.1, r3.2.1, r5.1, r5.2.1, r5.2.2.1, r5.2.2.2, r2.1, k1_37, r2.2.1, r2.2.2)) ++ wCi cI adc gc) H := hP
        replace hD : va_D A (wSw cI cJ cZ ads ((r3.1, r3.2.1, r5.1, r5.2.1, r5.2.2.1, r5.2.2.2, r2.1, k1_37, r2.2.1, r2.2.2)) ++ wCi cI adc gc) := hD
        refine lv_if_ne (tgt := 79) hx hb dX1_advance_72 (by decide) (fun q7 => ?_) (fun q7 => ?_)
        · replace hf := ifT q7 hf
          refine lv_iconst (v := 0) hx hb dX1_advance_79 (by decide) ?_
          obtain rfl := Option.some.inj hf
          exact retZ false rfl hx hb hr hlocks hP hD hS dX1_advance_80
        · replace hf := ifN q7 hf
          refine lv_iconst (v := 1) hx hb dX1_advance_75 (by decide) ?_
          refine lv_goto (tgt := 80) hx hb dX1_advance_76 (by decide) ?_
          obtain rfl := Option.some.inj hf
          exact retZ true rfl hx hb hr hlocks hP hD hS dX1_advance_80
      refine lv_icmp_ne (tgt := 60) hx hb dX1_advance_53 (by decide) (fun q8 => ?_) (fun q8 => ?_)
      · replace hf := ifT q8 hf
        refine lv_iconst (v := 0) hx hb dX1_advance_60 (by decide) ?_
        exact J61 0 _ _ _ hf hP hD hS (lv_sub hl [0, 1] rfl)
      · replace hf := ifN q8 hf
        refine lv_iconst (v := 1) hx hb dX1_advance_56 (by decide) ?_
        refine lv_goto (tgt := 61) hx hb dX1_advance_57 (by decide) ?_
        exact J61 1 _ _ _ hf hP hD hS (lv_sub hl [0, 1] rfl)
    refine lv_if_eq (tgt := 36) hx hb dX1_advance_29 (by decide) (fun q9 => ?_) (fun q9 => ?_)
    · replace hf := ifT q9 hf
      refine lv_iconst (v := 1) hx hb dX1_advance_36 (by decide) ?_
      exact J37 1 _ _ _ hf hP hD hS (lv_sub hl [0, 1] rfl)
    · replace hf := ifF q9 hf
      refine lv_iconst (v := 0) hx hb dX1_advance_32 (by decide) ?_
      refine lv_goto (tgt := 37) hx hb dX1_advance_33 (by decide) ?_
      exact J37 0 _ _ _ hf hP hD hS (lv_sub hl [0, 1] rfl)
  · replace hf := ifN q1 hf
    refine lv_iconst (v := 0) hx hb dX1_advance_7 (by decide) ?_
    obtain rfl := Option.some.inj hf
    exact retZ false rfl hx hb hr hlocks hP hD hS dX1_advance_8

def f_X1_packedEvent (gs : Sw) : Option Int64 :=
(f_X2_packed gs.1 gs.2.1).bind (fun r1 =>
some (((r1 <<< ((3 : Int32).toInt64 &&& 63)) + ((gs.2.2.2.2.2.2.1 * 2).toInt64)) + gs.2.2.2.2.2.2.2.1.toInt64))
abbrev rmX1_packedEvent : Room := { frames := 1, cells := 0, slots := 0, locals := 23 }
set_option maxHeartbeats 40000000 in
set_option maxRecDepth 100000 in
theorem c_X1_packedEvent (l : Launch) (D : va_G) (cI cJ cZ : ClassId) (ads : Nat → Nat) (gs : Sw) (o : Int64) (hf : f_X1_packedEvent gs = some o) : CtL l yX1_packedEvent wsX1_packedEvent rmX1_packedEvent D cI cJ cZ [.ref (ads 0)] (wSw cI cJ cZ ads gs) (wSw cI cJ cZ ads gs) o := by
  intro sz
  refine Met.ofW (cc := cX1_packedEvent) (maxL := 1) (ret := (some .long)) (by decide) rfl ?_
  intro p e s m args below meth c s₁ B hml hv
  obtain ⟨rfl, hsz, hP, hK, hD0⟩ := hv
  have hx := B.exec
  have hb := B.bytes
  have hr := B.returns
  have hts := atoms_spec (ws := wsX1_packedEvent) B.pre
  have hown : s.vm.findClass RX1 = some m.cls := findClass_of_methodNamed B.named
  have hlocks := B.notSynchronized
  subst hsz
  have hD := hD0.self (sz := s.heap.size)
  clear hD0
  generalize hAe : va_A (wSw cI cJ cZ ads gs) s.heap.size = A at hD ⊢
  have hA : ∀ q : Nat, s.heap.size ≤ q → A q := fun q h => by rw [← hAe]; exact Or.inr h
  have hS : va_S A s.heap s.heap [] := va_S.rf
  have hinX1 : ∀ w ∈ wsX10, w ∈ wsX1_packedEvent := by decide +kernel
  have hw0 : (Cond.fieldLink RX1 9 "SwingCircuits$Swing" "timeNum" "J").before _ s = true := hts _ (by decide +kernel)
  have hw1 : (Cond.fieldLink RX1 15 "SwingCircuits$Swing" "timeDen" "J").before _ s = true := hts _ (by decide +kernel)
  have hw2 : (Cond.fieldLink RX1 33 "SwingCircuits$Swing" "turned" "I").before _ s = true := hts _ (by decide +kernel)
  have hw3 : (Cond.fieldLink RX1 37 "SwingCircuits$Swing" "side" "I").before _ s = true := hts _ (by decide +kernel)
  have hw4 : (Cond.initialized RX2).before _ s = true := hts _ (by decide +kernel)
  have hw5 : (Cond.static yX2_packed).before _ s = true := hts _ (by decide +kernel)
  have hl := lv_entry ([.ref (ads 0)]) (n := 1) (Nat.le_of_ble_eq_true rfl)
  rw [lg_entry_eq]
  generalize (lg_sl ([.ref (ads 0)]) ++ List.replicate (1 - (lg_sl ([.ref (ads 0)])).length) Slot.unset).toArray = ls at hl ⊢
  replace hl : lv_has ls 1 [(0, .ref (ads 0))] := hl
  unfold f_X1_packedEvent at hf
  refine lv_aload_n hx hb dX1_packedEvent_0 rfl (lv_at hl 0 rfl) ?_
  refine va_get (D := D) (ci := 1) (v := .long gs.1) (C := RX1) (T := TX1) (N := 10) hx hb hts hinX1 hown hK.1 hP 0 rfl rfl 0 (by decide) hw0 (fun _ h9 => h9) rfl dX1_packedEvent_1 ?_
  refine lv_aload_n hx hb dX1_packedEvent_4 rfl (lv_at hl 0 rfl) ?_
  refine va_get (D := D) (ci := 1) (v := .long gs.2.1) (C := RX1) (T := TX1) (N := 10) hx hb hts hinX1 hown hK.1 hP 0 rfl rfl 1 (by decide) hw1 (fun _ h9 => h9) rfl dX1_packedEvent_5 ?_
  replace hf := bdE hf
  obtain ⟨r1, hgr1, hf⟩ := hf
  refine xL0 (va_runSN (As := [.long gs.1, .long gs.2.1]) (rest := []) ⟨hx, hb, hml, hown, hts⟩ (c_X2_packed l D cI cJ cZ gs.1 gs.2.1 r1 hgr1 _) ⟨va_cnB 2 hts gX1_packedEvent_X2_packed_n117 rfl rfl rfl hK.2.2.1 hw4 (by decide +kernel) ⟨Nat.le_of_ble_eq_true rfl, Nat.le_of_ble_eq_true rfl⟩, hw5, trivial⟩ ⟨PreW.blind, (xPre0 hK _)⟩ rfl rfl hl.1 rfl (lv_room (Nat.le_of_ble_eq_true rfl)) dX1_packedEvent_8 ⟨Nat.le_of_ble_eq_true rfl, Nat.le_of_ble_eq_true rfl⟩) hP hS hA (fun H locs hP hS => ?_)
  refine lv_iconst (v := 3) hx hb dX1_packedEvent_11 (by decide) ?_
  refine lv_lshl hx hb dX1_packedEvent_12 rfl ?_
  refine lv_aload_n hx hb dX1_packedEvent_13 rfl (lv_at hl 0 rfl) ?_
  refine va_get (D := D) (ci := 1) (v := .int gs.2.2.2.2.2.2.1) (C := RX1) (T := TX1) (N := 10) hx hb hts hinX1 hown hK.1 hP 0 rfl rfl 6 (by decide) hw2 (fun _ h9 => h9) rfl dX1_packedEvent_14 ?_
  refine lv_iconst (v := 2) hx hb dX1_packedEvent_17 (by decide) ?_
  refine lv_imul hx hb dX1_packedEvent_18 ?_
  refine lv_i2l hx hb dX1_packedEvent_19 rfl ?_
  refine lv_ladd hx hb dX1_packedEvent_20 ?_
  refine lv_aload_n hx hb dX1_packedEvent_21 rfl (lv_at hl 0 rfl) ?_
  refine va_get (D := D) (ci := 1) (v := .int gs.2.2.2.2.2.2.2.1) (C := RX1) (T := TX1) (N := 10) hx hb hts hinX1 hown hK.1 hP 0 rfl rfl 7 (by decide) hw3 (fun _ h9 => h9) rfl dX1_packedEvent_22 ?_
  refine lv_i2l hx hb dX1_packedEvent_25 rfl ?_
  refine lv_ladd hx hb dX1_packedEvent_26 ?_
  obtain rfl := Option.some.inj hf
  exact retL hx hb hr hlocks hP hD hS dX1_packedEvent_27

def f_X1_packedMarks_B39 (gs : Sw) (rec39 : Int64 → Int32 → Option Int64) (l1_39 : Int64) (l3_39 : Int32) : Option Int64 :=
if (8 : Int32) ≤ l3_39 then
some l1_39
else
gd (ib l3_39 8) (
bnd ((l1_39 <<< ((4 : Int32).toInt64 &&& 63)) + ((gs.2.2.2.2.2.1 l3_39.toNatClampNeg).toInt64)) (fun v4 =>
rec39 v4 (l3_39 + 1)))
def f_X1_packedMarks_L39 (gs : Sw) : Nat → Int64 → Int32 → Option Int64
  | 0 => fun _ _ => none
  | n + 1 => f_X1_packedMarks_B39 gs (f_X1_packedMarks_L39 gs n)
def f_X1_packedMarks_J28 (l1_4 : Int64) (l3_4 : Int32) (rec4 : (Int64 → Int32 → Option Int64)) (k1_28 : Int32) : Option Int64 :=
bnd ((l1_4 * 2) + k1_28.toInt64) (fun v6 =>
rec4 v6 (l3_4 + 1))
def f_X1_packedMarks_B4 (gs : Sw) (rec4 : Int64 → Int32 → Option Int64) (l1_4 : Int64) (l3_4 : Int32) : Option Int64 :=
if (4 : Int32) ≤ l3_4 then
f_X1_packedMarks_L39 gs fuel l1_4 0
else
gd (ib l3_4 4) (
if (gs.2.2.2.2.1 l3_4.toNatClampNeg) = 0 then
f_X1_packedMarks_J28 l1_4 l3_4 rec4 0
else
f_X1_packedMarks_J28 l1_4 l3_4 rec4 1)
def f_X1_packedMarks_L4 (gs : Sw) : Nat → Int64 → Int32 → Option Int64
  | 0 => fun _ _ => none
  | n + 1 => f_X1_packedMarks_B4 gs (f_X1_packedMarks_L4 gs n)
def f_X1_packedMarks (gs : Sw) : Option Int64 :=
f_X1_packedMarks_L4 gs fuel 0 0
abbrev rmX1_packedMarks : Room := { frames := 0, cells := 0, slots := 0, locals := 0 }
set_option maxHeartbeats 40000000 in
set_option maxRecDepth 100000 in
theorem c_X1_packedMarks (l : Launch) (D : va_G) (cI cJ cZ : ClassId) (ads : Nat → Nat) (gs : Sw) (o : Int64) (hf : f_X1_packedMarks gs = some o) : CtL l yX1_packedMarks wsX1_packedMarks rmX1_packedMarks D cI cJ cZ [.ref (ads 0)] (wSw cI cJ cZ ads gs) (wSw cI cJ cZ ads gs) o := by
  intro sz
  refine Met.ofW (cc := cX1_packedMarks) (maxL := 4) (ret := (some .long)) (by decide) rfl ?_
  intro p e s m args below meth c s₁ B hml hv
  obtain ⟨rfl, hsz, hP, hK, hD0⟩ := hv
  have hx := B.exec
  have hb := B.bytes
  have hr := B.returns
  have hts := atoms_spec (ws := wsX1_packedMarks) B.pre
  have hown : s.vm.findClass RX1 = some m.cls := findClass_of_methodNamed B.named
  have hlocks := B.notSynchronized
  subst hsz
  have hD := hD0.self (sz := s.heap.size)
  clear hD0
  generalize hAe : va_A (wSw cI cJ cZ ads gs) s.heap.size = A at hD ⊢
  have hA : ∀ q : Nat, s.heap.size ≤ q → A q := fun q h => by rw [← hAe]; exact Or.inr h
  have hS : va_S A s.heap s.heap [] := va_S.rf
  have hinX1 : ∀ w ∈ wsX10, w ∈ wsX1_packedMarks := by decide +kernel
  have hw0 : (Cond.constantLong RX1 120 (2)).before _ s = true := hts _ (by decide +kernel)
  have hw1 : (Cond.fieldLink RX1 25 "SwingCircuits$Swing" "filling" "[Z").before _ s = true := hts _ (by decide +kernel)
  have hw2 : (Cond.fieldLink RX1 29 "SwingCircuits$Swing" "counts" "[I").before _ s = true := hts _ (by decide +kernel)
  have hl := lv_entry ([.ref (ads 0)]) (n := 4) (Nat.le_of_ble_eq_true rfl)
  rw [lg_entry_eq]
  generalize (lg_sl ([.ref (ads 0)]) ++ List.replicate (4 - (lg_sl ([.ref (ads 0)])).length) Slot.unset).toArray = ls at hl ⊢
  replace hl : lv_has ls 4 [(0, .ref (ads 0))] := hl
  unfold f_X1_packedMarks at hf
  refine lv_lconst (v := 0) hx hb dX1_packedMarks_0 (by decide) ?_
  refine lv_lstore_n (lv' := [(1, .long 0), (0, .ref (ads 0))]) hx hb dX1_packedMarks_1 rfl hl (by decide) rfl (fun ls hl => ?_)
  refine lv_iconst (v := 0) hx hb dX1_packedMarks_2 (by decide) ?_
  refine lv_istore_n (lv' := [(3, .int 0), (1, .long 0), (0, .ref (ads 0))]) hx hb dX1_packedMarks_3 rfl hl (by decide) rfl (fun ls hl => ?_)
  have L4 : ∀ (n : Nat) (l1_4 : Int64) (l3_4 : Int32) (H : Heap) (locs : List Loc) (ls : Array Slot), f_X1_packedMarks_L4 gs n l1_4 l3_4 = some o → va_P D vwCl (wSw cI cJ cZ ads gs) H → va_D A (wSw cI cJ cZ ads gs) → va_S A s.heap H locs → lv_has ls 4 [(0, .ref (ads 0)), (1, .long l1_4), (3, .int l3_4)] → W p l e (headSpec wsX1_packedMarks rmX1_packedMarks).room s m ([.ref (ads 0)] : List Value).toArray below meth c H locs 0 0 (MQ below (QL D A o (wSw cI cJ cZ ads gs)) ([.ref (ads 0)] : List Value).toArray s 0 0 A) (F0 m 4 ls []) := by
    intro n
    induction n with
    | zero => intro l1_4 l3_4 H locs ls hf; cases hf
    | succ n ih4 =>
      intro l1_4 l3_4 H locs ls hf hP hD hS hl
      replace hf : f_X1_packedMarks_B4 gs (f_X1_packedMarks_L4 gs n) l1_4 l3_4 = some o := hf
      generalize f_X1_packedMarks_L4 gs n = rec4 at ih4 hf
      unfold f_X1_packedMarks_B4 at hf
      refine lv_iload_n hx hb dX1_packedMarks_4 rfl (lv_at hl 2 rfl) ?_
      refine lv_iconst (v := 4) hx hb dX1_packedMarks_5 (by decide) ?_
      refine lv_icmp_ge (tgt := 37) hx hb dX1_packedMarks_6 (by decide) (fun q1 => ?_) (fun q1 => ?_)
      · replace hf := ifT q1 hf
        refine lv_iconst (v := 0) hx hb dX1_packedMarks_37 (by decide) ?_
        refine lv_istore_n (lv' := [(3, .int 0), (0, .ref (ads 0)), (1, .long l1_4)]) hx hb dX1_packedMarks_38 rfl hl (by decide) rfl (fun ls hl => ?_)
        have L39 : ∀ (n : Nat) (l1_39 : Int64) (l3_39 : Int32) (H : Heap) (locs : List Loc) (ls : Array Slot), f_X1_packedMarks_L39 gs n l1_39 l3_39 = some o → va_P D vwCl (wSw cI cJ cZ ads gs) H → va_D A (wSw cI cJ cZ ads gs) → va_S A s.heap H locs → lv_has ls 4 [(0, .ref (ads 0)), (1, .long l1_39), (3, .int l3_39)] → W p l e (headSpec wsX1_packedMarks rmX1_packedMarks).room s m ([.ref (ads 0)] : List Value).toArray below meth c H locs 0 0 (MQ below (QL D A o (wSw cI cJ cZ ads gs)) ([.ref (ads 0)] : List Value).toArray s 0 0 A) (F0 m 39 ls []) := by
          intro n
          induction n with
          | zero => intro l1_39 l3_39 H locs ls hf; cases hf
          | succ n ih39 =>
            intro l1_39 l3_39 H locs ls hf hP hD hS hl
            replace hf : f_X1_packedMarks_B39 gs (f_X1_packedMarks_L39 gs n) l1_39 l3_39 = some o := hf
            generalize f_X1_packedMarks_L39 gs n = rec39 at ih39 hf
            unfold f_X1_packedMarks_B39 at hf
            refine lv_iload_n hx hb dX1_packedMarks_39 rfl (lv_at hl 2 rfl) ?_
            refine lv_bipush (v := 8) hx hb dX1_packedMarks_40 (by decide) ?_
            refine lv_icmp_ge (tgt := 63) hx hb dX1_packedMarks_42 (by decide) (fun q2 => ?_) (fun q2 => ?_)
            · replace hf := ifT q2 hf
              refine lv_lload_n hx hb dX1_packedMarks_63 rfl (lv_at hl 1 rfl) ?_
              obtain rfl := Option.some.inj hf
              exact retL hx hb hr hlocks hP hD hS dX1_packedMarks_64
            · replace hf := ifF q2 hf
              refine lv_lload_n hx hb dX1_packedMarks_45 rfl (lv_at hl 1 rfl) ?_
              refine lv_iconst (v := 4) hx hb dX1_packedMarks_46 (by decide) ?_
              refine lv_lshl hx hb dX1_packedMarks_47 rfl ?_
              refine lv_aload_n hx hb dX1_packedMarks_48 rfl (lv_at hl 0 rfl) ?_
              refine va_get (D := D) (ci := 1) (v := .ref (ads 4)) (C := RX1) (T := TX1) (N := 10) hx hb hts hinX1 hown hK.1 hP 0 rfl rfl 5 (by decide) hw2 (fun _ h9 => h9) rfl dX1_packedMarks_49 ?_
              refine lv_iload_n hx hb dX1_packedMarks_52 rfl (lv_at hl 2 rfl) ?_
              replace hf := gdE hf
              obtain ⟨h3, hf⟩ := hf
              refine va_iald hx hb hK.1 hP 4 0 rfl rfl (ib_in h3) dX1_packedMarks_53 ?_
              refine lv_i2l hx hb dX1_packedMarks_54 rfl ?_
              refine lv_ladd hx hb dX1_packedMarks_55 ?_
              refine lv_topl (fun v4 ev4 => ?_)
              replace hf := bndE hf ev4
              refine lv_lstore_n (lv' := [(1, .long v4), (0, .ref (ads 0)), (3, .int l3_39)]) hx hb dX1_packedMarks_56 rfl hl (by decide) rfl (fun ls hl => ?_)
              refine lv_iinc (v := l3_39 + 1) (lv' := [(3, .int (l3_39 + 1)), (1, .long v4), (0, .ref (ads 0))]) hx hb dX1_packedMarks_57 hl (k := 2) rfl (by rfl) (by decide) rfl (fun ls hl => ?_)
              refine lv_goto (tgt := 39) hx hb dX1_packedMarks_60 (by decide) ?_
              exact ih39 v4 (l3_39 + 1) _ _ _ hf hP hD hS (lv_sub hl [2, 1, 0] rfl)
        exact L39 fuel l1_4 0 _ _ _ hf hP hD hS (lv_sub hl [1, 2, 0] rfl)
      · replace hf := ifF q1 hf
        refine lv_lload_n hx hb dX1_packedMarks_9 rfl (lv_at hl 1 rfl) ?_
        refine lv_ldc2 hx hb hown hw0 dX1_packedMarks_10 ?_
        refine lv_lmul hx hb dX1_packedMarks_13 ?_
        refine lv_aload_n hx hb dX1_packedMarks_14 rfl (lv_at hl 0 rfl) ?_
        refine va_get (D := D) (ci := 1) (v := .ref (ads 3)) (C := RX1) (T := TX1) (N := 10) hx hb hts hinX1 hown hK.1 hP 0 rfl rfl 4 (by decide) hw1 (fun _ h9 => h9) rfl dX1_packedMarks_15 ?_
        refine lv_iload_n hx hb dX1_packedMarks_18 rfl (lv_at hl 2 rfl) ?_
        replace hf := gdE hf
        obtain ⟨h5, hf⟩ := hf
        refine va_zald hx hb hK.1 hP 3 2 rfl rfl (ib_in h5) dX1_packedMarks_19 ?_
        have J28 : ∀ (k1_28 : Int32) (H : Heap) (locs : List Loc) (ls : Array Slot), f_X1_packedMarks_J28 l1_4 l3_4 rec4 k1_28 = some o → va_P D vwCl (wSw cI cJ cZ ads gs) H → va_D A (wSw cI cJ cZ ads gs) → va_S A s.heap H locs → lv_has ls 4 [(0, .ref (ads 0)), (3, .int l3_4)] → W p l e (headSpec wsX1_packedMarks rmX1_packedMarks).room s m ([.ref (ads 0)] : List Value).toArray below meth c H locs 0 0 (MQ below (QL D A o (wSw cI cJ cZ ads gs)) ([.ref (ads 0)] : List Value).toArray s 0 0 A) (F0 m 28 ls [.int k1_28, .long (l1_4 * 2)]) := by
          intro k1_28 H locs ls hf hP hD hS hl
          unfold f_X1_packedMarks_J28 at hf
          refine lv_i2l hx hb dX1_packedMarks_28 rfl ?_
          refine lv_ladd hx hb dX1_packedMarks_29 ?_
          refine lv_topl (fun v6 ev6 => ?_)
          replace hf := bndE hf ev6
          refine lv_lstore_n (lv' := [(1, .long v6), (0, .ref (ads 0)), (3, .int l3_4)]) hx hb dX1_packedMarks_30 rfl hl (by decide) rfl (fun ls hl => ?_)
          refine lv_iinc (v := l3_4 + 1) (lv' := [(3, .int (l3_4 + 1)), (1, .long v6), (0, .ref (ads 0))]) hx hb dX1_packedMarks_31 hl (k := 2) rfl (by rfl) (by decide) rfl (fun ls hl => ?_)
          refine lv_goto (tgt := 4) hx hb dX1_packedMarks_34 (by decide) ?_
          exact ih4 v6 (l3_4 + 1) _ _ _ hf hP hD hS (lv_sub hl [2, 1, 0] rfl)
        refine lv_if_eq (tgt := 27) hx hb dX1_packedMarks_20 (by decide) (fun q7 => ?_) (fun q7 => ?_)
        · replace hf := ifT q7 hf
          refine lv_iconst (v := 0) hx hb dX1_packedMarks_27 (by decide) ?_
          exact J28 0 _ _ _ hf hP hD hS (lv_sub hl [0, 2] rfl)
        · replace hf := ifF q7 hf
          refine lv_iconst (v := 1) hx hb dX1_packedMarks_23 (by decide) ?_
          refine lv_goto (tgt := 28) hx hb dX1_packedMarks_24 (by decide) ?_
          exact J28 1 _ _ _ hf hP hD hS (lv_sub hl [0, 2] rfl)
  exact L4 fuel 0 0 _ _ _ hf hP hD hS (lv_sub hl [2, 1, 0] rfl)
