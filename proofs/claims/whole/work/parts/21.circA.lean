def f_X2_isRate (p1 : Int32) : Option Bool :=
if p1 < 1 then
some false
else
if (60 : Int32) < p1 then
some false
else
some true
abbrev rmX2_isRate : Room := { frames := 0, cells := 0, slots := 0, locals := 0 }
set_option maxHeartbeats 40000000 in
set_option maxRecDepth 100000 in
theorem c_X2_isRate (l : Launch) (D : va_G) (cI cJ cZ : ClassId) (p1 : Int32) (o : Bool) (hf : f_X2_isRate p1 = some o) : CtI l yX2_isRate wsX2_isRate rmX2_isRate D cI cJ cZ [.int p1] [] [] (b2i o) := by
  intro sz
  refine Met.ofW (cc := cX2_isRate) (maxL := 1) (ret := (some .boolean)) (by decide) rfl ?_
  intro p e s m args below meth c s₁ B hml hv
  obtain ⟨rfl, hsz, hP, hK, hD0⟩ := hv
  have hx := B.exec
  have hb := B.bytes
  have hr := B.returns
  have hts := atoms_spec (ws := wsX2_isRate) B.pre
  have hown : s.vm.findClass RX2 = some m.cls := findClass_of_methodNamed B.named
  have hlocks := B.notSynchronized
  subst hsz
  have hD := hD0.self (sz := s.heap.size)
  clear hD0
  generalize hAe : va_A [] s.heap.size = A at hD ⊢
  have hA : ∀ q : Nat, s.heap.size ≤ q → A q := fun q h => by rw [← hAe]; exact Or.inr h
  have hS : va_S A s.heap s.heap [] := va_S.rf
  have hl := lv_entry ([.int p1]) (n := 1) (Nat.le_of_ble_eq_true rfl)
  rw [lg_entry_eq]
  generalize (lg_sl ([.int p1]) ++ List.replicate (1 - (lg_sl ([.int p1])).length) Slot.unset).toArray = ls at hl ⊢
  replace hl : lv_has ls 1 [(0, .int p1)] := hl
  unfold f_X2_isRate at hf
  refine lv_iload_n hx hb dX2_isRate_0 rfl (lv_at hl 0 rfl) ?_
  refine lv_iconst (v := 1) hx hb dX2_isRate_1 (by decide) ?_
  refine lv_icmp_lt (tgt := 15) hx hb dX2_isRate_2 (by decide) (fun q1 => ?_) (fun q1 => ?_)
  · replace hf := ifT q1 hf
    refine lv_iconst (v := 0) hx hb dX2_isRate_15 (by decide) ?_
    obtain rfl := Option.some.inj hf
    exact retZ false rfl hx hb hr hlocks hP hD hS dX2_isRate_16
  · replace hf := ifF q1 hf
    refine lv_iload_n hx hb dX2_isRate_5 rfl (lv_at hl 0 rfl) ?_
    refine lv_bipush (v := 60) hx hb dX2_isRate_6 (by decide) ?_
    refine lv_icmp_gt (tgt := 15) hx hb dX2_isRate_8 (by decide) (fun q2 => ?_) (fun q2 => ?_)
    · replace hf := ifT q2 hf
      refine lv_iconst (v := 0) hx hb dX2_isRate_15 (by decide) ?_
      obtain rfl := Option.some.inj hf
      exact retZ false rfl hx hb hr hlocks hP hD hS dX2_isRate_16
    · replace hf := ifF q2 hf
      refine lv_iconst (v := 1) hx hb dX2_isRate_11 (by decide) ?_
      refine lv_goto (tgt := 16) hx hb dX2_isRate_12 (by decide) ?_
      obtain rfl := Option.some.inj hf
      exact retZ true rfl hx hb hr hlocks hP hD hS dX2_isRate_16

def f_X2_isTerm (p1 : Int32) : Option Bool :=
if p1 < 1 then
some false
else
if (1000000 : Int32) < p1 then
some false
else
some true
abbrev rmX2_isTerm : Room := { frames := 0, cells := 0, slots := 0, locals := 0 }
set_option maxHeartbeats 40000000 in
set_option maxRecDepth 100000 in
theorem c_X2_isTerm (l : Launch) (D : va_G) (cI cJ cZ : ClassId) (p1 : Int32) (o : Bool) (hf : f_X2_isTerm p1 = some o) : CtI l yX2_isTerm wsX2_isTerm rmX2_isTerm D cI cJ cZ [.int p1] [] [] (b2i o) := by
  intro sz
  refine Met.ofW (cc := cX2_isTerm) (maxL := 1) (ret := (some .boolean)) (by decide) rfl ?_
  intro p e s m args below meth c s₁ B hml hv
  obtain ⟨rfl, hsz, hP, hK, hD0⟩ := hv
  have hx := B.exec
  have hb := B.bytes
  have hr := B.returns
  have hts := atoms_spec (ws := wsX2_isTerm) B.pre
  have hown : s.vm.findClass RX2 = some m.cls := findClass_of_methodNamed B.named
  have hlocks := B.notSynchronized
  subst hsz
  have hD := hD0.self (sz := s.heap.size)
  clear hD0
  generalize hAe : va_A [] s.heap.size = A at hD ⊢
  have hA : ∀ q : Nat, s.heap.size ≤ q → A q := fun q h => by rw [← hAe]; exact Or.inr h
  have hS : va_S A s.heap s.heap [] := va_S.rf
  have hw0 : (Cond.constant RX2 225 (1000000)).before _ s = true := hts _ (by decide +kernel)
  have hl := lv_entry ([.int p1]) (n := 1) (Nat.le_of_ble_eq_true rfl)
  rw [lg_entry_eq]
  generalize (lg_sl ([.int p1]) ++ List.replicate (1 - (lg_sl ([.int p1])).length) Slot.unset).toArray = ls at hl ⊢
  replace hl : lv_has ls 1 [(0, .int p1)] := hl
  unfold f_X2_isTerm at hf
  refine lv_iload_n hx hb dX2_isTerm_0 rfl (lv_at hl 0 rfl) ?_
  refine lv_iconst (v := 1) hx hb dX2_isTerm_1 (by decide) ?_
  refine lv_icmp_lt (tgt := 15) hx hb dX2_isTerm_2 (by decide) (fun q1 => ?_) (fun q1 => ?_)
  · replace hf := ifT q1 hf
    refine lv_iconst (v := 0) hx hb dX2_isTerm_15 (by decide) ?_
    obtain rfl := Option.some.inj hf
    exact retZ false rfl hx hb hr hlocks hP hD hS dX2_isTerm_16
  · replace hf := ifF q1 hf
    refine lv_iload_n hx hb dX2_isTerm_5 rfl (lv_at hl 0 rfl) ?_
    refine lv_ldc hx hb hown hw0 dX2_isTerm_6 ?_
    refine lv_icmp_gt (tgt := 15) hx hb dX2_isTerm_8 (by decide) (fun q2 => ?_) (fun q2 => ?_)
    · replace hf := ifT q2 hf
      refine lv_iconst (v := 0) hx hb dX2_isTerm_15 (by decide) ?_
      obtain rfl := Option.some.inj hf
      exact retZ false rfl hx hb hr hlocks hP hD hS dX2_isTerm_16
    · replace hf := ifF q2 hf
      refine lv_iconst (v := 1) hx hb dX2_isTerm_11 (by decide) ?_
      refine lv_goto (tgt := 16) hx hb dX2_isTerm_12 (by decide) ?_
      obtain rfl := Option.some.inj hf
      exact retZ true rfl hx hb hr hlocks hP hD hS dX2_isTerm_16

def f_X2_isAct (p1 : Int32) (p2 : Int32) : Option Bool :=
if p1 = 0 then
if p2 < ((-20)) then
some false
else
if (20 : Int32) < p2 then
some false
else
some true
else
if p1 = 1 then
some true
else
if p1 = 2 then
if p2 = 0 then
some true
else
if ¬ p2 = 1 then
some false
else
some true
else
some false
abbrev rmX2_isAct : Room := { frames := 0, cells := 0, slots := 0, locals := 0 }
set_option maxHeartbeats 40000000 in
set_option maxRecDepth 100000 in
theorem c_X2_isAct (l : Launch) (D : va_G) (cI cJ cZ : ClassId) (p1 : Int32) (p2 : Int32) (o : Bool) (hf : f_X2_isAct p1 p2 = some o) : CtI l yX2_isAct wsX2_isAct rmX2_isAct D cI cJ cZ [.int p1, .int p2] [] [] (b2i o) := by
  intro sz
  refine Met.ofW (cc := cX2_isAct) (maxL := 2) (ret := (some .boolean)) (by decide) rfl ?_
  intro p e s m args below meth c s₁ B hml hv
  obtain ⟨rfl, hsz, hP, hK, hD0⟩ := hv
  have hx := B.exec
  have hb := B.bytes
  have hr := B.returns
  have hts := atoms_spec (ws := wsX2_isAct) B.pre
  have hown : s.vm.findClass RX2 = some m.cls := findClass_of_methodNamed B.named
  have hlocks := B.notSynchronized
  subst hsz
  have hD := hD0.self (sz := s.heap.size)
  clear hD0
  generalize hAe : va_A [] s.heap.size = A at hD ⊢
  have hA : ∀ q : Nat, s.heap.size ≤ q → A q := fun q h => by rw [← hAe]; exact Or.inr h
  have hS : va_S A s.heap s.heap [] := va_S.rf
  have hl := lv_entry ([.int p1, .int p2]) (n := 2) (Nat.le_of_ble_eq_true rfl)
  rw [lg_entry_eq]
  generalize (lg_sl ([.int p1, .int p2]) ++ List.replicate (2 - (lg_sl ([.int p1, .int p2])).length) Slot.unset).toArray = ls at hl ⊢
  replace hl : lv_has ls 2 [(0, .int p1), (1, .int p2)] := hl
  unfold f_X2_isAct at hf
  refine lv_iload_n hx hb dX2_isAct_0 rfl (lv_at hl 0 rfl) ?_
  by_cases q1 : p1 = 0
  · replace hf := ifT q1 hf
    refine lv_tableIn (off := 27) (tgt := 28) hx hb dX2_isAct_1 (by rw [q1]; decide) (by rw [q1]; decide) (by rw [q1]; rfl) (by decide) ?_
    refine lv_iload_n hx hb dX2_isAct_28 rfl (lv_at hl 1 rfl) ?_
    refine lv_bipush (v := (-20)) hx hb dX2_isAct_29 (by decide) ?_
    refine lv_icmp_lt (tgt := 44) hx hb dX2_isAct_31 (by decide) (fun q2 => ?_) (fun q2 => ?_)
    · replace hf := ifT q2 hf
      refine lv_iconst (v := 0) hx hb dX2_isAct_44 (by decide) ?_
      obtain rfl := Option.some.inj hf
      exact retZ false rfl hx hb hr hlocks hP hD hS dX2_isAct_45
    · replace hf := ifF q2 hf
      refine lv_iload_n hx hb dX2_isAct_34 rfl (lv_at hl 1 rfl) ?_
      refine lv_bipush (v := 20) hx hb dX2_isAct_35 (by decide) ?_
      refine lv_icmp_gt (tgt := 44) hx hb dX2_isAct_37 (by decide) (fun q3 => ?_) (fun q3 => ?_)
      · replace hf := ifT q3 hf
        refine lv_iconst (v := 0) hx hb dX2_isAct_44 (by decide) ?_
        obtain rfl := Option.some.inj hf
        exact retZ false rfl hx hb hr hlocks hP hD hS dX2_isAct_45
      · replace hf := ifF q3 hf
        refine lv_iconst (v := 1) hx hb dX2_isAct_40 (by decide) ?_
        refine lv_goto (tgt := 45) hx hb dX2_isAct_41 (by decide) ?_
        obtain rfl := Option.some.inj hf
        exact retZ true rfl hx hb hr hlocks hP hD hS dX2_isAct_45
  · replace hf := ifF q1 hf
    by_cases q4 : p1 = 1
    · replace hf := ifT q4 hf
      refine lv_tableIn (off := 45) (tgt := 46) hx hb dX2_isAct_1 (by rw [q4]; decide) (by rw [q4]; decide) (by rw [q4]; rfl) (by decide) ?_
      refine lv_iconst (v := 1) hx hb dX2_isAct_46 (by decide) ?_
      obtain rfl := Option.some.inj hf
      exact retZ true rfl hx hb hr hlocks hP hD hS dX2_isAct_47
    · replace hf := ifF q4 hf
      by_cases q5 : p1 = 2
      · replace hf := ifT q5 hf
        refine lv_tableIn (off := 47) (tgt := 48) hx hb dX2_isAct_1 (by rw [q5]; decide) (by rw [q5]; decide) (by rw [q5]; rfl) (by decide) ?_
        refine lv_iload_n hx hb dX2_isAct_48 rfl (lv_at hl 1 rfl) ?_
        refine lv_if_eq (tgt := 57) hx hb dX2_isAct_49 (by decide) (fun q6 => ?_) (fun q6 => ?_)
        · replace hf := ifT q6 hf
          refine lv_iconst (v := 1) hx hb dX2_isAct_57 (by decide) ?_
          refine lv_goto (tgt := 62) hx hb dX2_isAct_58 (by decide) ?_
          obtain rfl := Option.some.inj hf
          exact retZ true rfl hx hb hr hlocks hP hD hS dX2_isAct_62
        · replace hf := ifF q6 hf
          refine lv_iload_n hx hb dX2_isAct_52 rfl (lv_at hl 1 rfl) ?_
          refine lv_iconst (v := 1) hx hb dX2_isAct_53 (by decide) ?_
          refine lv_icmp_ne (tgt := 61) hx hb dX2_isAct_54 (by decide) (fun q7 => ?_) (fun q7 => ?_)
          · replace hf := ifT q7 hf
            refine lv_iconst (v := 0) hx hb dX2_isAct_61 (by decide) ?_
            obtain rfl := Option.some.inj hf
            exact retZ false rfl hx hb hr hlocks hP hD hS dX2_isAct_62
          · replace hf := ifN q7 hf
            refine lv_iconst (v := 1) hx hb dX2_isAct_57 (by decide) ?_
            refine lv_goto (tgt := 62) hx hb dX2_isAct_58 (by decide) ?_
            obtain rfl := Option.some.inj hf
            exact retZ true rfl hx hb hr hlocks hP hD hS dX2_isAct_62
      · replace hf := ifF q5 hf
        refine lv_tableOut (tgt := 63) hx hb dX2_isAct_1 (by have nq1 := lv_neT q1 (a := 0) (by decide); have nq4 := lv_neT q4 (a := 1) (by decide); have nq5 := lv_neT q5 (a := 2) (by decide); omega) (by decide) ?_
        refine lv_iconst (v := 0) hx hb dX2_isAct_63 (by decide) ?_
        obtain rfl := Option.some.inj hf
        exact retZ false rfl hx hb hr hlocks hP hD hS dX2_isAct_64

def f_X2_turnedIn (p1 : Int64) : Option Int32 :=
some (((p1 >>> ((1 : Int32).toInt64 &&& 63)).toInt32) &&& 3)
abbrev rmX2_turnedIn : Room := { frames := 0, cells := 0, slots := 0, locals := 0 }
set_option maxHeartbeats 40000000 in
set_option maxRecDepth 100000 in
theorem c_X2_turnedIn (l : Launch) (D : va_G) (cI cJ cZ : ClassId) (p1 : Int64) (o : Int32) (hf : f_X2_turnedIn p1 = some o) : CtI l yX2_turnedIn wsX2_turnedIn rmX2_turnedIn D cI cJ cZ [.long p1] [] [] o := by
  intro sz
  refine Met.ofW (cc := cX2_turnedIn) (maxL := 2) (ret := (some .int)) (by decide) rfl ?_
  intro p e s m args below meth c s₁ B hml hv
  obtain ⟨rfl, hsz, hP, hK, hD0⟩ := hv
  have hx := B.exec
  have hb := B.bytes
  have hr := B.returns
  have hts := atoms_spec (ws := wsX2_turnedIn) B.pre
  have hown : s.vm.findClass RX2 = some m.cls := findClass_of_methodNamed B.named
  have hlocks := B.notSynchronized
  subst hsz
  have hD := hD0.self (sz := s.heap.size)
  clear hD0
  generalize hAe : va_A [] s.heap.size = A at hD ⊢
  have hA : ∀ q : Nat, s.heap.size ≤ q → A q := fun q h => by rw [← hAe]; exact Or.inr h
  have hS : va_S A s.heap s.heap [] := va_S.rf
  have hl := lv_entry ([.long p1]) (n := 2) (Nat.le_of_ble_eq_true rfl)
  rw [lg_entry_eq]
  generalize (lg_sl ([.long p1]) ++ List.replicate (2 - (lg_sl ([.long p1])).length) Slot.unset).toArray = ls at hl ⊢
  replace hl : lv_has ls 2 [(0, .long p1)] := hl
  unfold f_X2_turnedIn at hf
  refine lv_lload_n hx hb dX2_turnedIn_0 rfl (lv_at hl 0 rfl) ?_
  refine lv_iconst (v := 1) hx hb dX2_turnedIn_1 (by decide) ?_
  refine lv_lshr hx hb dX2_turnedIn_2 rfl ?_
  refine lv_l2i hx hb dX2_turnedIn_3 rfl ?_
  refine lv_iconst (v := 3) hx hb dX2_turnedIn_4 (by decide) ?_
  refine lv_iand hx hb dX2_turnedIn_5 ?_
  obtain rfl := Option.some.inj hf
  exact retI hx hb hr hlocks hP hD hS dX2_turnedIn_6

def f_X2_sideIn (p1 : Int64) : Option Int32 :=
some (p1.toInt32 &&& 1)
abbrev rmX2_sideIn : Room := { frames := 0, cells := 0, slots := 0, locals := 0 }
set_option maxHeartbeats 40000000 in
set_option maxRecDepth 100000 in
theorem c_X2_sideIn (l : Launch) (D : va_G) (cI cJ cZ : ClassId) (p1 : Int64) (o : Int32) (hf : f_X2_sideIn p1 = some o) : CtI l yX2_sideIn wsX2_sideIn rmX2_sideIn D cI cJ cZ [.long p1] [] [] o := by
  intro sz
  refine Met.ofW (cc := cX2_sideIn) (maxL := 2) (ret := (some .int)) (by decide) rfl ?_
  intro p e s m args below meth c s₁ B hml hv
  obtain ⟨rfl, hsz, hP, hK, hD0⟩ := hv
  have hx := B.exec
  have hb := B.bytes
  have hr := B.returns
  have hts := atoms_spec (ws := wsX2_sideIn) B.pre
  have hown : s.vm.findClass RX2 = some m.cls := findClass_of_methodNamed B.named
  have hlocks := B.notSynchronized
  subst hsz
  have hD := hD0.self (sz := s.heap.size)
  clear hD0
  generalize hAe : va_A [] s.heap.size = A at hD ⊢
  have hA : ∀ q : Nat, s.heap.size ≤ q → A q := fun q h => by rw [← hAe]; exact Or.inr h
  have hS : va_S A s.heap s.heap [] := va_S.rf
  have hl := lv_entry ([.long p1]) (n := 2) (Nat.le_of_ble_eq_true rfl)
  rw [lg_entry_eq]
  generalize (lg_sl ([.long p1]) ++ List.replicate (2 - (lg_sl ([.long p1])).length) Slot.unset).toArray = ls at hl ⊢
  replace hl : lv_has ls 2 [(0, .long p1)] := hl
  unfold f_X2_sideIn at hf
  refine lv_lload_n hx hb dX2_sideIn_0 rfl (lv_at hl 0 rfl) ?_
  refine lv_l2i hx hb dX2_sideIn_1 rfl ?_
  refine lv_iconst (v := 1) hx hb dX2_sideIn_2 (by decide) ?_
  refine lv_iand hx hb dX2_sideIn_3 ?_
  obtain rfl := Option.some.inj hf
  exact retI hx hb hr hlocks hP hD hS dX2_sideIn_4

def f_X2_timeNumIn (p1 : Int64) : Option Int64 :=
some (p1 >>> ((23 : Int32).toInt64 &&& 63))
abbrev rmX2_timeNumIn : Room := { frames := 0, cells := 0, slots := 0, locals := 0 }
set_option maxHeartbeats 40000000 in
set_option maxRecDepth 100000 in
theorem c_X2_timeNumIn (l : Launch) (D : va_G) (cI cJ cZ : ClassId) (p1 : Int64) (o : Int64) (hf : f_X2_timeNumIn p1 = some o) : CtL l yX2_timeNumIn wsX2_timeNumIn rmX2_timeNumIn D cI cJ cZ [.long p1] [] [] o := by
  intro sz
  refine Met.ofW (cc := cX2_timeNumIn) (maxL := 2) (ret := (some .long)) (by decide) rfl ?_
  intro p e s m args below meth c s₁ B hml hv
  obtain ⟨rfl, hsz, hP, hK, hD0⟩ := hv
  have hx := B.exec
  have hb := B.bytes
  have hr := B.returns
  have hts := atoms_spec (ws := wsX2_timeNumIn) B.pre
  have hown : s.vm.findClass RX2 = some m.cls := findClass_of_methodNamed B.named
  have hlocks := B.notSynchronized
  subst hsz
  have hD := hD0.self (sz := s.heap.size)
  clear hD0
  generalize hAe : va_A [] s.heap.size = A at hD ⊢
  have hA : ∀ q : Nat, s.heap.size ≤ q → A q := fun q h => by rw [← hAe]; exact Or.inr h
  have hS : va_S A s.heap s.heap [] := va_S.rf
  have hl := lv_entry ([.long p1]) (n := 2) (Nat.le_of_ble_eq_true rfl)
  rw [lg_entry_eq]
  generalize (lg_sl ([.long p1]) ++ List.replicate (2 - (lg_sl ([.long p1])).length) Slot.unset).toArray = ls at hl ⊢
  replace hl : lv_has ls 2 [(0, .long p1)] := hl
  unfold f_X2_timeNumIn at hf
  refine lv_lload_n hx hb dX2_timeNumIn_0 rfl (lv_at hl 0 rfl) ?_
  refine lv_bipush (v := 23) hx hb dX2_timeNumIn_1 (by decide) ?_
  refine lv_lshr hx hb dX2_timeNumIn_3 rfl ?_
  obtain rfl := Option.some.inj hf
  exact retL hx hb hr hlocks hP hD hS dX2_timeNumIn_4

def f_X2_timeDenIn (p1 : Int64) : Option Int64 :=
some ((p1 >>> ((3 : Int32).toInt64 &&& 63)) &&& 1048575)
abbrev rmX2_timeDenIn : Room := { frames := 0, cells := 0, slots := 0, locals := 0 }
set_option maxHeartbeats 40000000 in
set_option maxRecDepth 100000 in
theorem c_X2_timeDenIn (l : Launch) (D : va_G) (cI cJ cZ : ClassId) (p1 : Int64) (o : Int64) (hf : f_X2_timeDenIn p1 = some o) : CtL l yX2_timeDenIn wsX2_timeDenIn rmX2_timeDenIn D cI cJ cZ [.long p1] [] [] o := by
  intro sz
  refine Met.ofW (cc := cX2_timeDenIn) (maxL := 2) (ret := (some .long)) (by decide) rfl ?_
  intro p e s m args below meth c s₁ B hml hv
  obtain ⟨rfl, hsz, hP, hK, hD0⟩ := hv
  have hx := B.exec
  have hb := B.bytes
  have hr := B.returns
  have hts := atoms_spec (ws := wsX2_timeDenIn) B.pre
  have hown : s.vm.findClass RX2 = some m.cls := findClass_of_methodNamed B.named
  have hlocks := B.notSynchronized
  subst hsz
  have hD := hD0.self (sz := s.heap.size)
  clear hD0
  generalize hAe : va_A [] s.heap.size = A at hD ⊢
  have hA : ∀ q : Nat, s.heap.size ≤ q → A q := fun q h => by rw [← hAe]; exact Or.inr h
  have hS : va_S A s.heap s.heap [] := va_S.rf
  have hw0 : (Cond.constantLong RX2 270 (1048575)).before _ s = true := hts _ (by decide +kernel)
  have hl := lv_entry ([.long p1]) (n := 2) (Nat.le_of_ble_eq_true rfl)
  rw [lg_entry_eq]
  generalize (lg_sl ([.long p1]) ++ List.replicate (2 - (lg_sl ([.long p1])).length) Slot.unset).toArray = ls at hl ⊢
  replace hl : lv_has ls 2 [(0, .long p1)] := hl
  unfold f_X2_timeDenIn at hf
  refine lv_lload_n hx hb dX2_timeDenIn_0 rfl (lv_at hl 0 rfl) ?_
  refine lv_iconst (v := 3) hx hb dX2_timeDenIn_1 (by decide) ?_
  refine lv_lshr hx hb dX2_timeDenIn_2 rfl ?_
  refine lv_ldc2 hx hb hown hw0 dX2_timeDenIn_3 ?_
  refine lv_land hx hb dX2_timeDenIn_6 ?_
  obtain rfl := Option.some.inj hf
  exact retL hx hb hr hlocks hP hD hS dX2_timeDenIn_7

def f_X2_betweenNum (p1 : Int64) (p2 : Int64) : Option Int64 :=
(f_X2_timeNumIn p2).bind (fun r1 =>
(f_X2_timeDenIn p1).bind (fun r2 =>
(f_X2_timeNumIn p1).bind (fun r3 =>
(f_X2_timeDenIn p2).bind (fun r4 =>
some ((r1 * r2) - (r3 * r4))))))
abbrev rmX2_betweenNum : Room := { frames := 1, cells := 0, slots := 0, locals := 21 }
set_option maxHeartbeats 40000000 in
set_option maxRecDepth 100000 in
theorem c_X2_betweenNum (l : Launch) (D : va_G) (cI cJ cZ : ClassId) (p1 : Int64) (p2 : Int64) (o : Int64) (hf : f_X2_betweenNum p1 p2 = some o) : CtL l yX2_betweenNum wsX2_betweenNum rmX2_betweenNum D cI cJ cZ [.long p1, .long p2] [] [] o := by
  intro sz
  refine Met.ofW (cc := cX2_betweenNum) (maxL := 4) (ret := (some .long)) (by decide) rfl ?_
  intro p e s m args below meth c s₁ B hml hv
  obtain ⟨rfl, hsz, hP, hK, hD0⟩ := hv
  have hx := B.exec
  have hb := B.bytes
  have hr := B.returns
  have hts := atoms_spec (ws := wsX2_betweenNum) B.pre
  have hown : s.vm.findClass RX2 = some m.cls := findClass_of_methodNamed B.named
  have hlocks := B.notSynchronized
  subst hsz
  have hD := hD0.self (sz := s.heap.size)
  clear hD0
  generalize hAe : va_A [] s.heap.size = A at hD ⊢
  have hA : ∀ q : Nat, s.heap.size ≤ q → A q := fun q h => by rw [← hAe]; exact Or.inr h
  have hS : va_S A s.heap s.heap [] := va_S.rf
  have hl := lv_entry ([.long p1, .long p2]) (n := 4) (Nat.le_of_ble_eq_true rfl)
  rw [lg_entry_eq]
  generalize (lg_sl ([.long p1, .long p2]) ++ List.replicate (4 - (lg_sl ([.long p1, .long p2])).length) Slot.unset).toArray = ls at hl ⊢
  replace hl : lv_has ls 4 [(0, .long p1), (2, .long p2)] := hl
  unfold f_X2_betweenNum at hf
  refine lv_lload_n hx hb dX2_betweenNum_0 rfl (lv_at hl 1 rfl) ?_
  replace hf := bdE hf
  obtain ⟨r1, hgr1, hf⟩ := hf
  refine xL0 (va_runS (As := [.long p2]) (rest := []) ⟨hx, hb, hml, hown, hts⟩ (c_X2_timeNumIn l D cI cJ cZ p2 r1 hgr1 _) (va_cwS 1 hts gX2_betweenNum_X2_timeNumIn rfl rfl rfl (by decide +kernel) ⟨Nat.le_of_ble_eq_true rfl, Nat.le_of_ble_eq_true rfl⟩) ⟨PreW.blind, (xPre0 hK _)⟩ rfl rfl hl.1 rfl (lv_room (Nat.le_of_ble_eq_true rfl)) dX2_betweenNum_1 ⟨Nat.le_of_ble_eq_true rfl, Nat.le_of_ble_eq_true rfl⟩) hP hS hA (fun H locs hP hS => ?_)
  refine lv_lload_n hx hb dX2_betweenNum_4 rfl (lv_at hl 0 rfl) ?_
  replace hf := bdE hf
  obtain ⟨r2, hgr2, hf⟩ := hf
  refine xL0 (va_runS (As := [.long p1]) (rest := [.long r1]) ⟨hx, hb, hml, hown, hts⟩ (c_X2_timeDenIn l D cI cJ cZ p1 r2 hgr2 _) (va_cwS 1 hts gX2_betweenNum_X2_timeDenIn rfl rfl rfl (by decide +kernel) ⟨Nat.le_of_ble_eq_true rfl, Nat.le_of_ble_eq_true rfl⟩) ⟨PreW.blind, (xPre0 hK _)⟩ rfl rfl hl.1 rfl (lv_room (Nat.le_of_ble_eq_true rfl)) dX2_betweenNum_5 ⟨Nat.le_of_ble_eq_true rfl, Nat.le_of_ble_eq_true rfl⟩) hP hS hA (fun H locs hP hS => ?_)
  refine lv_lmul hx hb dX2_betweenNum_8 ?_
  refine lv_lload_n hx hb dX2_betweenNum_9 rfl (lv_at hl 0 rfl) ?_
  replace hf := bdE hf
  obtain ⟨r3, hgr3, hf⟩ := hf
  refine xL0 (va_runS (As := [.long p1]) (rest := [.long (r1 * r2)]) ⟨hx, hb, hml, hown, hts⟩ (c_X2_timeNumIn l D cI cJ cZ p1 r3 hgr3 _) (va_cwS 1 hts gX2_betweenNum_X2_timeNumIn rfl rfl rfl (by decide +kernel) ⟨Nat.le_of_ble_eq_true rfl, Nat.le_of_ble_eq_true rfl⟩) ⟨PreW.blind, (xPre0 hK _)⟩ rfl rfl hl.1 rfl (lv_room (Nat.le_of_ble_eq_true rfl)) dX2_betweenNum_10 ⟨Nat.le_of_ble_eq_true rfl, Nat.le_of_ble_eq_true rfl⟩) hP hS hA (fun H locs hP hS => ?_)
  refine lv_lload_n hx hb dX2_betweenNum_13 rfl (lv_at hl 1 rfl) ?_
  replace hf := bdE hf
  obtain ⟨r4, hgr4, hf⟩ := hf
  refine xL0 (va_runS (As := [.long p2]) (rest := [.long r3, .long (r1 * r2)]) ⟨hx, hb, hml, hown, hts⟩ (c_X2_timeDenIn l D cI cJ cZ p2 r4 hgr4 _) (va_cwS 1 hts gX2_betweenNum_X2_timeDenIn rfl rfl rfl (by decide +kernel) ⟨Nat.le_of_ble_eq_true rfl, Nat.le_of_ble_eq_true rfl⟩) ⟨PreW.blind, (xPre0 hK _)⟩ rfl rfl hl.1 rfl (lv_room (Nat.le_of_ble_eq_true rfl)) dX2_betweenNum_14 ⟨Nat.le_of_ble_eq_true rfl, Nat.le_of_ble_eq_true rfl⟩) hP hS hA (fun H locs hP hS => ?_)
  refine lv_lmul hx hb dX2_betweenNum_17 ?_
  refine lv_lsub hx hb dX2_betweenNum_18 ?_
  obtain rfl := Option.some.inj hf
  exact retL hx hb hr hlocks hP hD hS dX2_betweenNum_19

def f_X2_betweenDen (p1 : Int64) (p2 : Int64) : Option Int64 :=
(f_X2_timeDenIn p2).bind (fun r1 =>
(f_X2_timeDenIn p1).bind (fun r2 =>
some (r1 * r2)))
abbrev rmX2_betweenDen : Room := { frames := 1, cells := 0, slots := 0, locals := 21 }
set_option maxHeartbeats 40000000 in
set_option maxRecDepth 100000 in
theorem c_X2_betweenDen (l : Launch) (D : va_G) (cI cJ cZ : ClassId) (p1 : Int64) (p2 : Int64) (o : Int64) (hf : f_X2_betweenDen p1 p2 = some o) : CtL l yX2_betweenDen wsX2_betweenDen rmX2_betweenDen D cI cJ cZ [.long p1, .long p2] [] [] o := by
  intro sz
  refine Met.ofW (cc := cX2_betweenDen) (maxL := 4) (ret := (some .long)) (by decide) rfl ?_
  intro p e s m args below meth c s₁ B hml hv
  obtain ⟨rfl, hsz, hP, hK, hD0⟩ := hv
  have hx := B.exec
  have hb := B.bytes
  have hr := B.returns
  have hts := atoms_spec (ws := wsX2_betweenDen) B.pre
  have hown : s.vm.findClass RX2 = some m.cls := findClass_of_methodNamed B.named
  have hlocks := B.notSynchronized
  subst hsz
  have hD := hD0.self (sz := s.heap.size)
  clear hD0
  generalize hAe : va_A [] s.heap.size = A at hD ⊢
  have hA : ∀ q : Nat, s.heap.size ≤ q → A q := fun q h => by rw [← hAe]; exact Or.inr h
  have hS : va_S A s.heap s.heap [] := va_S.rf
  have hl := lv_entry ([.long p1, .long p2]) (n := 4) (Nat.le_of_ble_eq_true rfl)
  rw [lg_entry_eq]
  generalize (lg_sl ([.long p1, .long p2]) ++ List.replicate (4 - (lg_sl ([.long p1, .long p2])).length) Slot.unset).toArray = ls at hl ⊢
  replace hl : lv_has ls 4 [(0, .long p1), (2, .long p2)] := hl
  unfold f_X2_betweenDen at hf
  refine lv_lload_n hx hb dX2_betweenDen_0 rfl (lv_at hl 1 rfl) ?_
  replace hf := bdE hf
  obtain ⟨r1, hgr1, hf⟩ := hf
  refine xL0 (va_runS (As := [.long p2]) (rest := []) ⟨hx, hb, hml, hown, hts⟩ (c_X2_timeDenIn l D cI cJ cZ p2 r1 hgr1 _) (va_cwS 1 hts gX2_betweenDen_X2_timeDenIn rfl rfl rfl (by decide +kernel) ⟨Nat.le_of_ble_eq_true rfl, Nat.le_of_ble_eq_true rfl⟩) ⟨PreW.blind, (xPre0 hK _)⟩ rfl rfl hl.1 rfl (lv_room (Nat.le_of_ble_eq_true rfl)) dX2_betweenDen_1 ⟨Nat.le_of_ble_eq_true rfl, Nat.le_of_ble_eq_true rfl⟩) hP hS hA (fun H locs hP hS => ?_)
  refine lv_lload_n hx hb dX2_betweenDen_4 rfl (lv_at hl 0 rfl) ?_
  replace hf := bdE hf
  obtain ⟨r2, hgr2, hf⟩ := hf
  refine xL0 (va_runS (As := [.long p1]) (rest := [.long r1]) ⟨hx, hb, hml, hown, hts⟩ (c_X2_timeDenIn l D cI cJ cZ p1 r2 hgr2 _) (va_cwS 1 hts gX2_betweenDen_X2_timeDenIn rfl rfl rfl (by decide +kernel) ⟨Nat.le_of_ble_eq_true rfl, Nat.le_of_ble_eq_true rfl⟩) ⟨PreW.blind, (xPre0 hK _)⟩ rfl rfl hl.1 rfl (lv_room (Nat.le_of_ble_eq_true rfl)) dX2_betweenDen_5 ⟨Nat.le_of_ble_eq_true rfl, Nat.le_of_ble_eq_true rfl⟩) hP hS hA (fun H locs hP hS => ?_)
  refine lv_lmul hx hb dX2_betweenDen_8 ?_
  obtain rfl := Option.some.inj hf
  exact retL hx hb hr hlocks hP hD hS dX2_betweenDen_9

def f_X2_isCell (gc : Ci) (p1 : Int32) : Option Bool :=
if p1 < 0 then
some false
else
if gc.1 ≤ p1 then
some false
else
some true
abbrev rmX2_isCell : Room := { frames := 0, cells := 0, slots := 0, locals := 0 }
set_option maxHeartbeats 40000000 in
set_option maxRecDepth 100000 in
theorem c_X2_isCell (l : Launch) (D : va_G) (cI cJ cZ : ClassId) (adx : Nat → Nat) (adc : Nat → Nat) (adn : Nat → Nat) (adt : Nat → Nat) (gx : Xo) (gc : Ci) (gn : Sw) (gt : Sw) (p1 : Int32) (o : Bool) (hf : f_X2_isCell gc p1 = some o) : CtI l yX2_isCell wsX2_isCell rmX2_isCell D cI cJ cZ [.ref (adx 0), .int p1] (wX cI cJ adx adc adn adt gx ++ wCi cI adc gc ++ wSw cI cJ cZ adn gn ++ wSw cI cJ cZ adt gt) (wX cI cJ adx adc adn adt gx ++ wCi cI adc gc ++ wSw cI cJ cZ adn gn ++ wSw cI cJ cZ adt gt) (b2i o) := by
  intro sz
  refine Met.ofW (cc := cX2_isCell) (maxL := 2) (ret := (some .boolean)) (by decide) rfl ?_
  intro p e s m args below meth c s₁ B hml hv
  obtain ⟨rfl, hsz, hP, hK, hD0⟩ := hv
  have hx := B.exec
  have hb := B.bytes
  have hr := B.returns
  have hts := atoms_spec (ws := wsX2_isCell) B.pre
  have hown : s.vm.findClass RX2 = some m.cls := findClass_of_methodNamed B.named
  have hlocks := B.notSynchronized
  subst hsz
  have hD := hD0.self (sz := s.heap.size)
  clear hD0
  generalize hAe : va_A (wX cI cJ adx adc adn adt gx ++ wCi cI adc gc ++ wSw cI cJ cZ adn gn ++ wSw cI cJ cZ adt gt) s.heap.size = A at hD ⊢
  have hA : ∀ q : Nat, s.heap.size ≤ q → A q := fun q h => by rw [← hAe]; exact Or.inr h
  have hS : va_S A s.heap s.heap [] := va_S.rf
  have hinX0 : ∀ w ∈ wsX00, w ∈ wsX2_isCell := by decide +kernel
  have hinX2 : ∀ w ∈ wsX20, w ∈ wsX2_isCell := by decide +kernel
  have hw0 : (Cond.fieldLink RX2 12 "SwingCircuits" "circuit" "LSwingCircuits$Circuit;").before _ s = true := hts _ (by decide +kernel)
  have hw1 : (Cond.fieldLink RX2 76 "SwingCircuits$Circuit" "cells" "I").before _ s = true := hts _ (by decide +kernel)
  have hl := lv_entry ([.ref (adx 0), .int p1]) (n := 2) (Nat.le_of_ble_eq_true rfl)
  rw [lg_entry_eq]
  generalize (lg_sl ([.ref (adx 0), .int p1]) ++ List.replicate (2 - (lg_sl ([.ref (adx 0), .int p1])).length) Slot.unset).toArray = ls at hl ⊢
  replace hl : lv_has ls 2 [(0, .ref (adx 0)), (1, .int p1)] := hl
  unfold f_X2_isCell at hf
  refine lv_iload_n hx hb dX2_isCell_0 rfl (lv_at hl 1 rfl) ?_
  refine lv_if_lt (tgt := 19) hx hb dX2_isCell_1 (by decide) (fun q1 => ?_) (fun q1 => ?_)
  · replace hf := ifT q1 hf
    refine lv_iconst (v := 0) hx hb dX2_isCell_19 (by decide) ?_
    obtain rfl := Option.some.inj hf
    exact retZ false rfl hx hb hr hlocks hP hD hS dX2_isCell_20
  · replace hf := ifF q1 hf
    refine lv_iload_n hx hb dX2_isCell_4 rfl (lv_at hl 1 rfl) ?_
    refine lv_aload_n hx hb dX2_isCell_5 rfl (lv_at hl 0 rfl) ?_
    refine va_get (D := D) (ci := 2) (v := .ref (adc 0)) (C := RX2) (T := TX2) (N := 17) hx hb hts hinX2 hown hK.1 hP 0 rfl rfl 0 (by decide) hw0 (fun _ h9 => h9) rfl dX2_isCell_6 ?_
    refine va_get (D := D) (ci := 0) (v := .int gc.1) (C := RX0) (T := TX0) (N := 12) hx hb hts hinX0 hown hK.1 hP 11 rfl rfl 0 (by decide) hw1 (fun _ h9 => h9) rfl dX2_isCell_9 ?_
    refine lv_icmp_ge (tgt := 19) hx hb dX2_isCell_12 (by decide) (fun q2 => ?_) (fun q2 => ?_)
    · replace hf := ifT q2 hf
      refine lv_iconst (v := 0) hx hb dX2_isCell_19 (by decide) ?_
      obtain rfl := Option.some.inj hf
      exact retZ false rfl hx hb hr hlocks hP hD hS dX2_isCell_20
    · replace hf := ifF q2 hf
      refine lv_iconst (v := 1) hx hb dX2_isCell_15 (by decide) ?_
      refine lv_goto (tgt := 20) hx hb dX2_isCell_16 (by decide) ?_
      obtain rfl := Option.some.inj hf
      exact retZ true rfl hx hb hr hlocks hP hD hS dX2_isCell_20

def f_X2_isStocked_B2 (gx : Xo) (p1 : Int32) (rec2 : Int32 → Option Bool) (l2_2 : Int32) : Option Bool :=
if gx.2.2.2.2.2.2.2.2.1 ≤ l2_2 then
some false
else
gd (ib l2_2 10) (
if ¬ (gx.2.2.2.2.2.2.2.1 l2_2.toNatClampNeg) = p1 then
rec2 (l2_2 + 1)
else
some true)
def f_X2_isStocked_L2 (gx : Xo) (p1 : Int32) : Nat → Int32 → Option Bool
  | 0 => fun _ => none
  | n + 1 => f_X2_isStocked_B2 gx p1 (f_X2_isStocked_L2 gx p1 n)
def f_X2_isStocked (gx : Xo) (p1 : Int32) : Option Bool :=
f_X2_isStocked_L2 gx p1 fuel 0
abbrev rmX2_isStocked : Room := { frames := 0, cells := 0, slots := 0, locals := 0 }
set_option maxHeartbeats 40000000 in
set_option maxRecDepth 100000 in
theorem c_X2_isStocked (l : Launch) (D : va_G) (cI cJ cZ : ClassId) (adx : Nat → Nat) (adc : Nat → Nat) (adn : Nat → Nat) (adt : Nat → Nat) (gx : Xo) (gc : Ci) (gn : Sw) (gt : Sw) (p1 : Int32) (o : Bool) (hf : f_X2_isStocked gx p1 = some o) : CtI l yX2_isStocked wsX2_isStocked rmX2_isStocked D cI cJ cZ [.ref (adx 0), .int p1] (wX cI cJ adx adc adn adt gx ++ wCi cI adc gc ++ wSw cI cJ cZ adn gn ++ wSw cI cJ cZ adt gt) (wX cI cJ adx adc adn adt gx ++ wCi cI adc gc ++ wSw cI cJ cZ adn gn ++ wSw cI cJ cZ adt gt) (b2i o) := by
  intro sz
  refine Met.ofW (cc := cX2_isStocked) (maxL := 3) (ret := (some .boolean)) (by decide) rfl ?_
  intro p e s m args below meth c s₁ B hml hv
  obtain ⟨rfl, hsz, hP, hK, hD0⟩ := hv
  have hx := B.exec
  have hb := B.bytes
  have hr := B.returns
  have hts := atoms_spec (ws := wsX2_isStocked) B.pre
  have hown : s.vm.findClass RX2 = some m.cls := findClass_of_methodNamed B.named
  have hlocks := B.notSynchronized
  subst hsz
  have hD := hD0.self (sz := s.heap.size)
  clear hD0
  generalize hAe : va_A (wX cI cJ adx adc adn adt gx ++ wCi cI adc gc ++ wSw cI cJ cZ adn gn ++ wSw cI cJ cZ adt gt) s.heap.size = A at hD ⊢
  have hA : ∀ q : Nat, s.heap.size ≤ q → A q := fun q h => by rw [← hAe]; exact Or.inr h
  have hS : va_S A s.heap s.heap [] := va_S.rf
  have hinX2 : ∀ w ∈ wsX20, w ∈ wsX2_isStocked := by decide +kernel
  have hw0 : (Cond.fieldLink RX2 54 "SwingCircuits" "stocked" "I").before _ s = true := hts _ (by decide +kernel)
  have hw1 : (Cond.fieldLink RX2 51 "SwingCircuits" "stock" "[I").before _ s = true := hts _ (by decide +kernel)
  have hl := lv_entry ([.ref (adx 0), .int p1]) (n := 3) (Nat.le_of_ble_eq_true rfl)
  rw [lg_entry_eq]
  generalize (lg_sl ([.ref (adx 0), .int p1]) ++ List.replicate (3 - (lg_sl ([.ref (adx 0), .int p1])).length) Slot.unset).toArray = ls at hl ⊢
  replace hl : lv_has ls 3 [(0, .ref (adx 0)), (1, .int p1)] := hl
  unfold f_X2_isStocked at hf
  refine lv_iconst (v := 0) hx hb dX2_isStocked_0 (by decide) ?_
  refine lv_istore_n (lv' := [(2, .int 0), (0, .ref (adx 0)), (1, .int p1)]) hx hb dX2_isStocked_1 rfl hl (by decide) rfl (fun ls hl => ?_)
  have L2 : ∀ (n : Nat) (l2_2 : Int32) (H : Heap) (locs : List Loc) (ls : Array Slot), f_X2_isStocked_L2 gx p1 n l2_2 = some o → va_P D vwCl (wX cI cJ adx adc adn adt gx ++ wCi cI adc gc ++ wSw cI cJ cZ adn gn ++ wSw cI cJ cZ adt gt) H → va_D A (wX cI cJ adx adc adn adt gx ++ wCi cI adc gc ++ wSw cI cJ cZ adn gn ++ wSw cI cJ cZ adt gt) → va_S A s.heap H locs → lv_has ls 3 [(0, .ref (adx 0)), (1, .int p1), (2, .int l2_2)] → W p l e (headSpec wsX2_isStocked rmX2_isStocked).room s m ([.ref (adx 0), .int p1] : List Value).toArray below meth c H locs 0 0 (MQ below (QI D A (b2i o) (wX cI cJ adx adc adn adt gx ++ wCi cI adc gc ++ wSw cI cJ cZ adn gn ++ wSw cI cJ cZ adt gt)) ([.ref (adx 0), .int p1] : List Value).toArray s 0 0 A) (F0 m 2 ls []) := by
    intro n
    induction n with
    | zero => intro l2_2 H locs ls hf; cases hf
    | succ n ih2 =>
      intro l2_2 H locs ls hf hP hD hS hl
      replace hf : f_X2_isStocked_B2 gx p1 (f_X2_isStocked_L2 gx p1 n) l2_2 = some o := hf
      generalize f_X2_isStocked_L2 gx p1 n = rec2 at ih2 hf
      unfold f_X2_isStocked_B2 at hf
      refine lv_iload_n hx hb dX2_isStocked_2 rfl (lv_at hl 2 rfl) ?_
      refine lv_aload_n hx hb dX2_isStocked_3 rfl (lv_at hl 0 rfl) ?_
      refine va_get (D := D) (ci := 2) (v := .int gx.2.2.2.2.2.2.2.2.1) (C := RX2) (T := TX2) (N := 17) hx hb hts hinX2 hown hK.1 hP 0 rfl rfl 11 (by decide) hw0 (fun _ h9 => h9) rfl dX2_isStocked_4 ?_
      refine lv_icmp_ge (tgt := 28) hx hb dX2_isStocked_7 (by decide) (fun q1 => ?_) (fun q1 => ?_)
      · replace hf := ifT q1 hf
        refine lv_iconst (v := 0) hx hb dX2_isStocked_28 (by decide) ?_
        obtain rfl := Option.some.inj hf
        exact retZ false rfl hx hb hr hlocks hP hD hS dX2_isStocked_29
      · replace hf := ifF q1 hf
        refine lv_aload_n hx hb dX2_isStocked_10 rfl (lv_at hl 0 rfl) ?_
        refine va_get (D := D) (ci := 2) (v := .ref (adx 6)) (C := RX2) (T := TX2) (N := 17) hx hb hts hinX2 hown hK.1 hP 0 rfl rfl 10 (by decide) hw1 (fun _ h9 => h9) rfl dX2_isStocked_11 ?_
        refine lv_iload_n hx hb dX2_isStocked_14 rfl (lv_at hl 2 rfl) ?_
        replace hf := gdE hf
        obtain ⟨h2, hf⟩ := hf
        refine va_iald hx hb hK.1 hP 6 0 rfl rfl (ib_in h2) dX2_isStocked_15 ?_
        refine lv_iload_n hx hb dX2_isStocked_16 rfl (lv_at hl 1 rfl) ?_
        refine lv_icmp_ne (tgt := 22) hx hb dX2_isStocked_17 (by decide) (fun q3 => ?_) (fun q3 => ?_)
        · replace hf := ifT q3 hf
          refine lv_iinc (v := l2_2 + 1) (lv' := [(2, .int (l2_2 + 1)), (0, .ref (adx 0)), (1, .int p1)]) hx hb dX2_isStocked_22 hl (k := 2) rfl (by rfl) (by decide) rfl (fun ls hl => ?_)
          refine lv_goto (tgt := 2) hx hb dX2_isStocked_25 (by decide) ?_
          exact ih2 (l2_2 + 1) _ _ _ hf hP hD hS (lv_sub hl [1, 2, 0] rfl)
        · replace hf := ifN q3 hf
          refine lv_iconst (v := 1) hx hb dX2_isStocked_20 (by decide) ?_
          obtain rfl := Option.some.inj hf
          exact retZ true rfl hx hb hr hlocks hP hD hS dX2_isStocked_21
  exact L2 fuel 0 _ _ _ hf hP hD hS (lv_sub hl [1, 2, 0] rfl)

def f_X2_startAgain_B18 (r1 : (Int64 × Int64 × Al × Al × Ar × Ar)) (rec18 : Int32 → Ar → Ar → Option (Int32 × Ar × Ar × Int64 × Int64 × Al × Al × Ar × Ar)) (l1_18 : Int32) (x1_18 : Ar) (x2_18 : Ar) : Option (Int32 × Ar × Ar × Int64 × Int64 × Al × Al × Ar × Ar) :=
if (4 : Int32) ≤ l1_18 then
some (0, x1_18, x2_18, r1.1, r1.2.1, r1.2.2.1, r1.2.2.2.1, r1.2.2.2.2.1, r1.2.2.2.2.2)
else
gd (ib l1_18 4) (
rec18 (l1_18 + 1) (upd x1_18 l1_18.toNatClampNeg 0) (upd x2_18 l1_18.toNatClampNeg 0))
def f_X2_startAgain_L18 (r1 : (Int64 × Int64 × Al × Al × Ar × Ar)) : Nat → Int32 → Ar → Ar → Option (Int32 × Ar × Ar × Int64 × Int64 × Al × Al × Ar × Ar)
  | 0 => fun _ _ _ => none
  | n + 1 => f_X2_startAgain_B18 r1 (f_X2_startAgain_L18 r1 n)
def f_X2_startAgain (gx : Xo) (gc : Ci) (gn : Sw) : Option (Int32 × Ar × Ar × Int64 × Int64 × Al × Al × Ar × Ar) :=
(f_X1_restart gn gc).bind (fun r1 =>
f_X2_startAgain_L18 r1 fuel 0 gx.2.1 gx.2.2.1)
abbrev rmX2_startAgain : Room := { frames := 1, cells := 0, slots := 0, locals := 22 }
set_option maxHeartbeats 40000000 in
set_option maxRecDepth 100000 in
theorem c_X2_startAgain (l : Launch) (D : va_G) (cI cJ cZ : ClassId) (adx : Nat → Nat) (adc : Nat → Nat) (adn : Nat → Nat) (adt : Nat → Nat) (gx : Xo) (gc : Ci) (gn : Sw) (gt : Sw) (o : (Int32 × Ar × Ar × Int64 × Int64 × Al × Al × Ar × Ar)) (hf : f_X2_startAgain gx gc gn = some o) : CtV l yX2_startAgain wsX2_startAgain rmX2_startAgain D cI cJ cZ [.ref (adx 0)] (wX cI cJ adx adc adn adt gx ++ wCi cI adc gc ++ wSw cI cJ cZ adn gn ++ wSw cI cJ cZ adt gt) (wX cI cJ adx adc adn adt ((o.1, o.2.1, o.2.2.1, gx.2.2.2)) ++ wCi cI adc gc ++ wSw cI cJ cZ adn ((o.2.2.2.1, o.2.2.2.2.1, o.2.2.2.2.2.1, o.2.2.2.2.2.2.1, o.2.2.2.2.2.2.2.1, o.2.2.2.2.2.2.2.2, gn.2.2.2.2.2.2)) ++ wSw cI cJ cZ adt gt) := by
  intro sz
  refine Met.ofW (cc := cX2_startAgain) (maxL := 2) (ret := none) (by decide) rfl ?_
  intro p e s m args below meth c s₁ B hml hv
  obtain ⟨rfl, hsz, hP, hK, hD0⟩ := hv
  have hx := B.exec
  have hb := B.bytes
  have hr := B.returns
  have hts := atoms_spec (ws := wsX2_startAgain) B.pre
  have hown : s.vm.findClass RX2 = some m.cls := findClass_of_methodNamed B.named
  have hlocks := B.notSynchronized
  subst hsz
  have hD := hD0.self (sz := s.heap.size)
  clear hD0
  generalize hAe : va_A (wX cI cJ adx adc adn adt gx ++ wCi cI adc gc ++ wSw cI cJ cZ adn gn ++ wSw cI cJ cZ adt gt) s.heap.size = A at hD ⊢
  have hA : ∀ q : Nat, s.heap.size ≤ q → A q := fun q h => by rw [← hAe]; exact Or.inr h
  have hS : va_S A s.heap s.heap [] := va_S.rf
  have hinX2 : ∀ w ∈ wsX20, w ∈ wsX2_startAgain := by decide +kernel
  have hw0 : (Cond.fieldLink RX2 19 "SwingCircuits" "now" "LSwingCircuits$Swing;").before _ s = true := hts _ (by decide +kernel)
  have hw1 : (Cond.fieldLink RX2 12 "SwingCircuits" "circuit" "LSwingCircuits$Circuit;").before _ s = true := hts _ (by decide +kernel)
  have hw2 : (Cond.fieldLink RX2 26 "SwingCircuits" "happened" "I").before _ s = true := hts _ (by decide +kernel)
  have hw3 : (Cond.fieldLink RX2 30 "SwingCircuits" "tops" "[I").before _ s = true := hts _ (by decide +kernel)
  have hw4 : (Cond.fieldLink RX2 34 "SwingCircuits" "bottoms" "[I").before _ s = true := hts _ (by decide +kernel)
  have hl := lv_entry ([.ref (adx 0)]) (n := 2) (Nat.le_of_ble_eq_true rfl)
  rw [lg_entry_eq]
  generalize (lg_sl ([.ref (adx 0)]) ++ List.replicate (2 - (lg_sl ([.ref (adx 0)])).length) Slot.unset).toArray = ls at hl ⊢
  replace hl : lv_has ls 2 [(0, .ref (adx 0))] := hl
  unfold f_X2_startAgain at hf
  refine lv_aload_n hx hb dX2_startAgain_0 rfl (lv_at hl 0 rfl) ?_
  refine va_get (D := D) (ci := 2) (v := .ref (adn 0)) (C := RX2) (T := TX2) (N := 17) hx hb hts hinX2 hown hK.1 hP 0 rfl rfl 1 (by decide) hw0 (fun _ h9 => h9) rfl dX2_startAgain_1 ?_
  refine lv_aload_n hx hb dX2_startAgain_4 rfl (lv_at hl 0 rfl) ?_
  refine va_get (D := D) (ci := 2) (v := .ref (adc 0)) (C := RX2) (T := TX2) (N := 17) hx hb hts hinX2 hown hK.1 hP 0 rfl rfl 0 (by decide) hw1 (fun _ h9 => h9) rfl dX2_startAgain_5 ?_
  replace hf := bdE hf
  obtain ⟨r1, hgr1, hf⟩ := hf
  refine xV (w2 := (wX cI cJ adx adc adn adt gx ++ wCi cI adc gc ++ wSw cI cJ cZ adn ((r1.1, r1.2.1, r1.2.2.1, r1.2.2.2.1, r1.2.2.2.2.1, r1.2.2.2.2.2, gn.2.2.2.2.2.2)) ++ wSw cI cJ cZ adt gt)) (wr := (wX cI cJ adx adc adn adt gx ++ wSw cI cJ cZ adt gt)) (va_runV (As := [.ref (adc 0)]) (rest := []) ⟨hx, hb, hml, hown, hts⟩ (c_X1_restart l D cI cJ cZ adn adc gn gc r1 hgr1 _) (cwV 1 hts gX2_startAgain_X1_restart rfl rfl rfl (by decide +kernel) ⟨Nat.le_of_ble_eq_true rfl, Nat.le_of_ble_eq_true rfl⟩) ⟨PreW.blind, xRecv (q0 := 22) hK hP rfl rfl, (xPre hK hP hD [22, 23, 24, 25, 26, 11, 12, 13, 14, 15, 16, 17, 18, 19, 20, 21] rfl (by decide) _)⟩ rfl rfl hl.1 rfl (lv_room (Nat.le_of_ble_eq_true rfl)) dX2_startAgain_8 ⟨Nat.le_of_ble_eq_true rfl, Nat.le_of_ble_eq_true rfl⟩) hP hD hS hA [22, 23, 24, 25, 26, 11, 12, 13, 14, 15, 16, 17, 18, 19, 20, 21] [0, 1, 2, 3, 4, 5, 6, 7, 8, 9, 10, 27, 28, 29, 30, 31] [0, 1, 2, 3, 4, 5, 6, 7, 8, 9, 10, 21, 22, 23, 24, 25, 26, 27, 28, 29, 30, 31, 16, 17, 18, 19, 20, 11, 12, 13, 14, 15] rfl rfl (by decide) (by decide) rfl (by decide) (fun H locs hP hD hS => ?_)
  refine lv_aload_n hx hb dX2_startAgain_11 rfl (lv_at hl 0 rfl) ?_
  refine lv_iconst (v := 0) hx hb dX2_startAgain_12 (by decide) ?_
  refine va_put (D := D) (ci := 2) (v := .int 0) (ty := .int) (C := RX2) (T := TX2) (N := 17) hx hb hts hinX2 tyX2 tyX2_ok nmX2 hown hK.1 hP hD hS 0 rfl rfl 3 (by decide) hw2 (fun _ h9 => h9) rfl (by decide +kernel) rfl rfl (Nat.le_of_ble_eq_true rfl) dX2_startAgain_13 (fun H locs hP hD hS => ?_)
  replace hP : va_P D vwCl (wX cI cJ adx adc adn adt ((0, gx.2)) ++ wCi cI adc gc ++ wSw cI cJ cZ adn ((r1.1, r1.2.1, r1.2.2.1, r1.2.2.2.1, r1.2.2.2.2.1, r1.2.2.2.2.2, gn.2.2.2.2.2.2)) ++ wSw cI cJ cZ adt gt) H := hP
  replace hD : va_D A (wX cI cJ adx adc adn adt ((0, gx.2)) ++ wCi cI adc gc ++ wSw cI cJ cZ adn ((r1.1, r1.2.1, r1.2.2.1, r1.2.2.2.1, r1.2.2.2.2.1, r1.2.2.2.2.2, gn.2.2.2.2.2.2)) ++ wSw cI cJ cZ adt gt) := hD
  refine lv_iconst (v := 0) hx hb dX2_startAgain_16 (by decide) ?_
  refine lv_istore_n (lv' := [(1, .int 0), (0, .ref (adx 0))]) hx hb dX2_startAgain_17 rfl hl (by decide) rfl (fun ls hl => ?_)
  have L18 : ∀ (n : Nat) (l1_18 : Int32) (x1_18 : Ar) (x2_18 : Ar) (H : Heap) (locs : List Loc) (ls : Array Slot), f_X2_startAgain_L18 r1 n l1_18 x1_18 x2_18 = some o → va_P D vwCl (wX cI cJ adx adc adn adt ((0, x1_18, x2_18, gx.2.2.2)) ++ wCi cI adc gc ++ wSw cI cJ cZ adn ((r1.1, r1.2.1, r1.2.2.1, r1.2.2.2.1, r1.2.2.2.2.1, r1.2.2.2.2.2, gn.2.2.2.2.2.2)) ++ wSw cI cJ cZ adt gt) H → va_D A (wX cI cJ adx adc adn adt ((0, x1_18, x2_18, gx.2.2.2)) ++ wCi cI adc gc ++ wSw cI cJ cZ adn ((r1.1, r1.2.1, r1.2.2.1, r1.2.2.2.1, r1.2.2.2.2.1, r1.2.2.2.2.2, gn.2.2.2.2.2.2)) ++ wSw cI cJ cZ adt gt) → va_S A s.heap H locs → lv_has ls 2 [(0, .ref (adx 0)), (1, .int l1_18)] → W p l e (headSpec wsX2_startAgain rmX2_startAgain).room s m ([.ref (adx 0)] : List Value).toArray below meth c H locs 0 0 (MQ below (QV D A (wX cI cJ adx adc adn adt ((o.1, o.2.1, o.2.2.1, gx.2.2.2)) ++ wCi cI adc gc ++ wSw cI cJ cZ adn ((o.2.2.2.1, o.2.2.2.2.1, o.2.2.2.2.2.1, o.2.2.2.2.2.2.1, o.2.2.2.2.2.2.2.1, o.2.2.2.2.2.2.2.2, gn.2.2.2.2.2.2)) ++ wSw cI cJ cZ adt gt)) ([.ref (adx 0)] : List Value).toArray s 0 0 A) (F0 m 18 ls []) := by
    intro n
    induction n with
    | zero => intro l1_18 x1_18 x2_18 H locs ls hf; cases hf
    | succ n ih18 =>
      intro l1_18 x1_18 x2_18 H locs ls hf hP hD hS hl
      replace hf : f_X2_startAgain_B18 r1 (f_X2_startAgain_L18 r1 n) l1_18 x1_18 x2_18 = some o := hf
      generalize f_X2_startAgain_L18 r1 n = rec18 at ih18 hf
      unfold f_X2_startAgain_B18 at hf
      refine lv_iload_n hx hb dX2_startAgain_18 rfl (lv_at hl 1 rfl) ?_
      refine lv_iconst (v := 4) hx hb dX2_startAgain_19 (by decide) ?_
      refine lv_icmp_ge (tgt := 43) hx hb dX2_startAgain_20 (by decide) (fun q2 => ?_) (fun q2 => ?_)
      · replace hf := ifT q2 hf
        obtain rfl := Option.some.inj hf
        exact retV hx hb hr hlocks hP hD hS dX2_startAgain_43
      · replace hf := ifF q2 hf
        refine lv_aload_n hx hb dX2_startAgain_23 rfl (lv_at hl 0 rfl) ?_
        refine va_get (D := D) (ci := 2) (v := .ref (adx 1)) (C := RX2) (T := TX2) (N := 17) hx hb hts hinX2 hown hK.1 hP 0 rfl rfl 4 (by decide) hw3 (fun _ h9 => h9) rfl dX2_startAgain_24 ?_
        refine lv_iload_n hx hb dX2_startAgain_27 rfl (lv_at hl 1 rfl) ?_
        refine lv_iconst (v := 0) hx hb dX2_startAgain_28 (by decide) ?_
        replace hf := gdE hf
        obtain ⟨h3, hf⟩ := hf
        refine va_iast hx hb hK.1 hP hD hS 1 0 rfl rfl (ib_in h3) dX2_startAgain_29 (fun H locs hP hD hS => ?_)
        replace hP : va_P D vwCl (wX cI cJ adx adc adn adt ((0, upd x1_18 l1_18.toNatClampNeg 0, x2_18, gx.2.2.2)) ++ wCi cI adc gc ++ wSw cI cJ cZ adn ((r1.1, r1.2.1, r1.2.2.1, r1.2.2.2.1, r1.2.2.2.2.1, r1.2.2.2.2.2, gn.2.2.2.2.2.2)) ++ wSw cI cJ cZ adt gt) H := hP
        replace hD : va_D A (wX cI cJ adx adc adn adt ((0, upd x1_18 l1_18.toNatClampNeg 0, x2_18, gx.2.2.2)) ++ wCi cI adc gc ++ wSw cI cJ cZ adn ((r1.1, r1.2.1, r1.2.2.1, r1.2.2.2.1, r1.2.2.2.2.1, r1.2.2.2.2.2, gn.2.2.2.2.2.2)) ++ wSw cI cJ cZ adt gt) := hD
        refine lv_aload_n hx hb dX2_startAgain_30 rfl (lv_at hl 0 rfl) ?_
        refine va_get (D := D) (ci := 2) (v := .ref (adx 2)) (C := RX2) (T := TX2) (N := 17) hx hb hts hinX2 hown hK.1 hP 0 rfl rfl 5 (by decide) hw4 (fun _ h9 => h9) rfl dX2_startAgain_31 ?_
        refine lv_iload_n hx hb dX2_startAgain_34 rfl (lv_at hl 1 rfl) ?_
        refine lv_iconst (v := 0) hx hb dX2_startAgain_35 (by decide) ?_
        refine va_iast hx hb hK.1 hP hD hS 2 0 rfl rfl (ib_in h3) dX2_startAgain_36 (fun H locs hP hD hS => ?_)
        replace hP : va_P D vwCl (wX cI cJ adx adc adn adt ((0, upd x1_18 l1_18.toNatClampNeg 0, upd x2_18 l1_18.toNatClampNeg 0, gx.2.2.2)) ++ wCi cI adc gc ++ wSw cI cJ cZ adn ((r1.1, r1.2.1, r1.2.2.1, r1.2.2.2.1, r1.2.2.2.2.1, r1.2.2.2.2.2, gn.2.2.2.2.2.2)) ++ wSw cI cJ cZ adt gt) H := hP
        replace hD : va_D A (wX cI cJ adx adc adn adt ((0, upd x1_18 l1_18.toNatClampNeg 0, upd x2_18 l1_18.toNatClampNeg 0, gx.2.2.2)) ++ wCi cI adc gc ++ wSw cI cJ cZ adn ((r1.1, r1.2.1, r1.2.2.1, r1.2.2.2.1, r1.2.2.2.2.1, r1.2.2.2.2.2, gn.2.2.2.2.2.2)) ++ wSw cI cJ cZ adt gt) := hD
        refine lv_iinc (v := l1_18 + 1) (lv' := [(1, .int (l1_18 + 1)), (0, .ref (adx 0))]) hx hb dX2_startAgain_37 hl (k := 1) rfl (by rfl) (by decide) rfl (fun ls hl => ?_)
        refine lv_goto (tgt := 18) hx hb dX2_startAgain_40 (by decide) ?_
        exact ih18 (l1_18 + 1) (upd x1_18 l1_18.toNatClampNeg 0) (upd x2_18 l1_18.toNatClampNeg 0) _ _ _ hf hP hD hS (lv_sub hl [1, 0] rfl)
  exact L18 fuel 0 gx.2.1 gx.2.2.1 _ _ _ hf hP hD hS (lv_sub hl [1, 0] rfl)

def f_X2_isKept (p1 : Int32) : Option Bool :=
if p1 < 0 then
some false
else
if (500 : Int32) ≤ p1 then
some false
else
some true
abbrev rmX2_isKept : Room := { frames := 0, cells := 0, slots := 0, locals := 0 }
set_option maxHeartbeats 40000000 in
set_option maxRecDepth 100000 in
theorem c_X2_isKept (l : Launch) (D : va_G) (cI cJ cZ : ClassId) (p1 : Int32) (o : Bool) (hf : f_X2_isKept p1 = some o) : CtI l yX2_isKept wsX2_isKept rmX2_isKept D cI cJ cZ [.int p1] [] [] (b2i o) := by
  intro sz
  refine Met.ofW (cc := cX2_isKept) (maxL := 1) (ret := (some .boolean)) (by decide) rfl ?_
  intro p e s m args below meth c s₁ B hml hv
  obtain ⟨rfl, hsz, hP, hK, hD0⟩ := hv
  have hx := B.exec
  have hb := B.bytes
  have hr := B.returns
  have hts := atoms_spec (ws := wsX2_isKept) B.pre
  have hown : s.vm.findClass RX2 = some m.cls := findClass_of_methodNamed B.named
  have hlocks := B.notSynchronized
  subst hsz
  have hD := hD0.self (sz := s.heap.size)
  clear hD0
  generalize hAe : va_A [] s.heap.size = A at hD ⊢
  have hA : ∀ q : Nat, s.heap.size ≤ q → A q := fun q h => by rw [← hAe]; exact Or.inr h
  have hS : va_S A s.heap s.heap [] := va_S.rf
  have hl := lv_entry ([.int p1]) (n := 1) (Nat.le_of_ble_eq_true rfl)
  rw [lg_entry_eq]
  generalize (lg_sl ([.int p1]) ++ List.replicate (1 - (lg_sl ([.int p1])).length) Slot.unset).toArray = ls at hl ⊢
  replace hl : lv_has ls 1 [(0, .int p1)] := hl
  unfold f_X2_isKept at hf
  refine lv_iload_n hx hb dX2_isKept_0 rfl (lv_at hl 0 rfl) ?_
  refine lv_if_lt (tgt := 15) hx hb dX2_isKept_1 (by decide) (fun q1 => ?_) (fun q1 => ?_)
  · replace hf := ifT q1 hf
    refine lv_iconst (v := 0) hx hb dX2_isKept_15 (by decide) ?_
    obtain rfl := Option.some.inj hf
    exact retZ false rfl hx hb hr hlocks hP hD hS dX2_isKept_16
  · replace hf := ifF q1 hf
    refine lv_iload_n hx hb dX2_isKept_4 rfl (lv_at hl 0 rfl) ?_
    refine lv_sipush (v := 500) hx hb dX2_isKept_5 (by decide) ?_
    refine lv_icmp_ge (tgt := 15) hx hb dX2_isKept_8 (by decide) (fun q2 => ?_) (fun q2 => ?_)
    · replace hf := ifT q2 hf
      refine lv_iconst (v := 0) hx hb dX2_isKept_15 (by decide) ?_
      obtain rfl := Option.some.inj hf
      exact retZ false rfl hx hb hr hlocks hP hD hS dX2_isKept_16
    · replace hf := ifF q2 hf
      refine lv_iconst (v := 1) hx hb dX2_isKept_11 (by decide) ?_
      refine lv_goto (tgt := 16) hx hb dX2_isKept_12 (by decide) ?_
      obtain rfl := Option.some.inj hf
      exact retZ true rfl hx hb hr hlocks hP hD hS dX2_isKept_16

def f_X2_noteEvent_J26 (gx : Xo) (gn : Sw) (x3_26 : Al) : Option (Int32 × Ar × Ar × Al) :=
bnd (gx.1 + 1) (fun v2 =>
if ¬ gn.2.2.2.2.2.2.2.1 = 0 then
gd (ib gn.2.2.2.2.2.2.1 4) (
bnd ((gx.2.2.1 gn.2.2.2.2.2.2.1.toNatClampNeg) + 1) (fun v5 =>
some (v2, gx.2.1, upd gx.2.2.1 gn.2.2.2.2.2.2.1.toNatClampNeg v5, x3_26)))
else
gd (ib gn.2.2.2.2.2.2.1 4) (
bnd ((gx.2.1 gn.2.2.2.2.2.2.1.toNatClampNeg) + 1) (fun v7 =>
some (v2, upd gx.2.1 gn.2.2.2.2.2.2.1.toNatClampNeg v7, gx.2.2.1, x3_26))))
def f_X2_noteEvent (gx : Xo) (gn : Sw) : Option (Int32 × Ar × Ar × Al) :=
(f_X2_isKept gx.1).bind (fun r1 =>
if (b2i r1) = 0 then
f_X2_noteEvent_J26 gx gn gx.2.2.2.1
else
(f_X1_packedEvent gn).bind (fun r9 =>
gd (ib gx.1 500) (
f_X2_noteEvent_J26 gx gn (vp_updL gx.2.2.2.1 gx.1.toNatClampNeg r9))))
abbrev rmX2_noteEvent : Room := { frames := 2, cells := 0, slots := 0, locals := 43 }
set_option maxHeartbeats 40000000 in
set_option maxRecDepth 100000 in
theorem c_X2_noteEvent (l : Launch) (D : va_G) (cI cJ cZ : ClassId) (adx : Nat → Nat) (adc : Nat → Nat) (adn : Nat → Nat) (adt : Nat → Nat) (gx : Xo) (gc : Ci) (gn : Sw) (gt : Sw) (o : (Int32 × Ar × Ar × Al)) (hf : f_X2_noteEvent gx gn = some o) : CtV l yX2_noteEvent wsX2_noteEvent rmX2_noteEvent D cI cJ cZ [.ref (adx 0)] (wX cI cJ adx adc adn adt gx ++ wCi cI adc gc ++ wSw cI cJ cZ adn gn ++ wSw cI cJ cZ adt gt) (wX cI cJ adx adc adn adt ((o.1, o.2.1, o.2.2.1, o.2.2.2, gx.2.2.2.2)) ++ wCi cI adc gc ++ wSw cI cJ cZ adn gn ++ wSw cI cJ cZ adt gt) := by
  intro sz
  refine Met.ofW (cc := cX2_noteEvent) (maxL := 1) (ret := none) (by decide) rfl ?_
  intro p e s m args below meth c s₁ B hml hv
  obtain ⟨rfl, hsz, hP, hK, hD0⟩ := hv
  have hx := B.exec
  have hb := B.bytes
  have hr := B.returns
  have hts := atoms_spec (ws := wsX2_noteEvent) B.pre
  have hown : s.vm.findClass RX2 = some m.cls := findClass_of_methodNamed B.named
  have hlocks := B.notSynchronized
  subst hsz
  have hD := hD0.self (sz := s.heap.size)
  clear hD0
  generalize hAe : va_A (wX cI cJ adx adc adn adt gx ++ wCi cI adc gc ++ wSw cI cJ cZ adn gn ++ wSw cI cJ cZ adt gt) s.heap.size = A at hD ⊢
  have hA : ∀ q : Nat, s.heap.size ≤ q → A q := fun q h => by rw [← hAe]; exact Or.inr h
  have hS : va_S A s.heap s.heap [] := va_S.rf
  have hinX1 : ∀ w ∈ wsX10, w ∈ wsX2_noteEvent := by decide +kernel
  have hinX2 : ∀ w ∈ wsX20, w ∈ wsX2_noteEvent := by decide +kernel
  have hw0 : (Cond.fieldLink RX2 26 "SwingCircuits" "happened" "I").before _ s = true := hts _ (by decide +kernel)
  have hw1 : (Cond.fieldLink RX2 37 "SwingCircuits" "kept" "[J").before _ s = true := hts _ (by decide +kernel)
  have hw2 : (Cond.fieldLink RX2 19 "SwingCircuits" "now" "LSwingCircuits$Swing;").before _ s = true := hts _ (by decide +kernel)
  have hw3 : (Cond.fieldLink RX2 234 "SwingCircuits$Swing" "side" "I").before _ s = true := hts _ (by decide +kernel)
  have hw4 : (Cond.fieldLink RX2 30 "SwingCircuits" "tops" "[I").before _ s = true := hts _ (by decide +kernel)
  have hw5 : (Cond.fieldLink RX2 237 "SwingCircuits$Swing" "turned" "I").before _ s = true := hts _ (by decide +kernel)
  have hw6 : (Cond.fieldLink RX2 34 "SwingCircuits" "bottoms" "[I").before _ s = true := hts _ (by decide +kernel)
  have hl := lv_entry ([.ref (adx 0)]) (n := 1) (Nat.le_of_ble_eq_true rfl)
  rw [lg_entry_eq]
  generalize (lg_sl ([.ref (adx 0)]) ++ List.replicate (1 - (lg_sl ([.ref (adx 0)])).length) Slot.unset).toArray = ls at hl ⊢
  replace hl : lv_has ls 1 [(0, .ref (adx 0))] := hl
  unfold f_X2_noteEvent at hf
  refine lv_aload_n hx hb dX2_noteEvent_0 rfl (lv_at hl 0 rfl) ?_
  refine va_get (D := D) (ci := 2) (v := .int gx.1) (C := RX2) (T := TX2) (N := 17) hx hb hts hinX2 hown hK.1 hP 0 rfl rfl 3 (by decide) hw0 (fun _ h9 => h9) rfl dX2_noteEvent_1 ?_
  replace hf := bdE hf
  obtain ⟨r1, hgr1, hf⟩ := hf
  refine xI0 (va_runS (As := [.int gx.1]) (rest := []) ⟨hx, hb, hml, hown, hts⟩ (c_X2_isKept l D cI cJ cZ gx.1 r1 hgr1 _) (va_cwS 1 hts gX2_noteEvent_X2_isKept rfl rfl rfl (by decide +kernel) ⟨Nat.le_of_ble_eq_true rfl, Nat.le_of_ble_eq_true rfl⟩) ⟨PreW.blind, (xPre0 hK _)⟩ rfl rfl hl.1 rfl (lv_room (Nat.le_of_ble_eq_true rfl)) dX2_noteEvent_4 ⟨Nat.le_of_ble_eq_true rfl, Nat.le_of_ble_eq_true rfl⟩) hP hS hA (fun H locs hP hS => ?_)
  have J26 : ∀ (x3_26 : Al) (H : Heap) (locs : List Loc) (ls : Array Slot), f_X2_noteEvent_J26 gx gn x3_26 = some o → va_P D vwCl (wX cI cJ adx adc adn adt ((gx.1, gx.2.1, gx.2.2.1, x3_26, gx.2.2.2.2)) ++ wCi cI adc gc ++ wSw cI cJ cZ adn gn ++ wSw cI cJ cZ adt gt) H → va_D A (wX cI cJ adx adc adn adt ((gx.1, gx.2.1, gx.2.2.1, x3_26, gx.2.2.2.2)) ++ wCi cI adc gc ++ wSw cI cJ cZ adn gn ++ wSw cI cJ cZ adt gt) → va_S A s.heap H locs → lv_has ls 1 [(0, .ref (adx 0))] → W p l e (headSpec wsX2_noteEvent rmX2_noteEvent).room s m ([.ref (adx 0)] : List Value).toArray below meth c H locs 0 0 (MQ below (QV D A (wX cI cJ adx adc adn adt ((o.1, o.2.1, o.2.2.1, o.2.2.2, gx.2.2.2.2)) ++ wCi cI adc gc ++ wSw cI cJ cZ adn gn ++ wSw cI cJ cZ adt gt)) ([.ref (adx 0)] : List Value).toArray s 0 0 A) (F0 m 26 ls []) := by
    intro x3_26 H locs ls hf hP hD hS hl
    unfold f_X2_noteEvent_J26 at hf
    refine lv_aload_n hx hb dX2_noteEvent_26 rfl (lv_at hl 0 rfl) ?_
    refine lv_dup hx hb dX2_noteEvent_27 rfl ?_
    refine va_get (D := D) (ci := 2) (v := .int gx.1) (C := RX2) (T := TX2) (N := 17) hx hb hts hinX2 hown hK.1 hP 0 rfl rfl 3 (by decide) hw0 (fun _ h9 => h9) rfl dX2_noteEvent_28 ?_
    refine lv_iconst (v := 1) hx hb dX2_noteEvent_31 (by decide) ?_
    refine lv_iadd hx hb dX2_noteEvent_32 ?_
    refine lv_topi (fun v2 ev2 => ?_)
    replace hf := bndE hf ev2
    refine va_put (D := D) (ci := 2) (v := .int v2) (ty := .int) (C := RX2) (T := TX2) (N := 17) hx hb hts hinX2 tyX2 tyX2_ok nmX2 hown hK.1 hP hD hS 0 rfl rfl 3 (by decide) hw0 (fun _ h9 => h9) rfl (by decide +kernel) rfl rfl (Nat.le_of_ble_eq_true rfl) dX2_noteEvent_33 (fun H locs hP hD hS => ?_)
    replace hP : va_P D vwCl (wX cI cJ adx adc adn adt ((v2, gx.2.1, gx.2.2.1, x3_26, gx.2.2.2.2)) ++ wCi cI adc gc ++ wSw cI cJ cZ adn gn ++ wSw cI cJ cZ adt gt) H := hP
    replace hD : va_D A (wX cI cJ adx adc adn adt ((v2, gx.2.1, gx.2.2.1, x3_26, gx.2.2.2.2)) ++ wCi cI adc gc ++ wSw cI cJ cZ adn gn ++ wSw cI cJ cZ adt gt) := hD
    refine lv_aload_n hx hb dX2_noteEvent_36 rfl (lv_at hl 0 rfl) ?_
    refine va_get (D := D) (ci := 2) (v := .ref (adn 0)) (C := RX2) (T := TX2) (N := 17) hx hb hts hinX2 hown hK.1 hP 0 rfl rfl 1 (by decide) hw2 (fun _ h9 => h9) rfl dX2_noteEvent_37 ?_
    refine va_get (D := D) (ci := 1) (v := .int gn.2.2.2.2.2.2.2.1) (C := RX1) (T := TX1) (N := 10) hx hb hts hinX1 hown hK.1 hP 22 rfl rfl 7 (by decide) hw3 (fun _ h9 => h9) rfl dX2_noteEvent_40 ?_
    refine lv_if_ne (tgt := 65) hx hb dX2_noteEvent_43 (by decide) (fun q3 => ?_) (fun q3 => ?_)
    · replace hf := ifT q3 hf
      refine lv_aload_n hx hb dX2_noteEvent_65 rfl (lv_at hl 0 rfl) ?_
      refine va_get (D := D) (ci := 2) (v := .ref (adx 2)) (C := RX2) (T := TX2) (N := 17) hx hb hts hinX2 hown hK.1 hP 0 rfl rfl 5 (by decide) hw6 (fun _ h9 => h9) rfl dX2_noteEvent_66 ?_
      refine lv_aload_n hx hb dX2_noteEvent_69 rfl (lv_at hl 0 rfl) ?_
      refine va_get (D := D) (ci := 2) (v := .ref (adn 0)) (C := RX2) (T := TX2) (N := 17) hx hb hts hinX2 hown hK.1 hP 0 rfl rfl 1 (by decide) hw2 (fun _ h9 => h9) rfl dX2_noteEvent_70 ?_
      refine va_get (D := D) (ci := 1) (v := .int gn.2.2.2.2.2.2.1) (C := RX1) (T := TX1) (N := 10) hx hb hts hinX1 hown hK.1 hP 22 rfl rfl 6 (by decide) hw5 (fun _ h9 => h9) rfl dX2_noteEvent_73 ?_
      refine lv_dup2_11 hx hb dX2_noteEvent_76 rfl rfl ?_
      replace hf := gdE hf
      obtain ⟨h4, hf⟩ := hf
      refine va_iald hx hb hK.1 hP 2 0 rfl rfl (ib_in h4) dX2_noteEvent_77 ?_
      refine lv_iconst (v := 1) hx hb dX2_noteEvent_78 (by decide) ?_
      refine lv_iadd hx hb dX2_noteEvent_79 ?_
      refine lv_topi (fun v5 ev5 => ?_)
      replace hf := bndE hf ev5
      refine va_iast hx hb hK.1 hP hD hS 2 0 rfl rfl (ib_in h4) dX2_noteEvent_80 (fun H locs hP hD hS => ?_)
      replace hP : va_P D vwCl (wX cI cJ adx adc adn adt ((v2, gx.2.1, upd gx.2.2.1 gn.2.2.2.2.2.2.1.toNatClampNeg v5, x3_26, gx.2.2.2.2)) ++ wCi cI adc gc ++ wSw cI cJ cZ adn gn ++ wSw cI cJ cZ adt gt) H := hP
      replace hD : va_D A (wX cI cJ adx adc adn adt ((v2, gx.2.1, upd gx.2.2.1 gn.2.2.2.2.2.2.1.toNatClampNeg v5, x3_26, gx.2.2.2.2)) ++ wCi cI adc gc ++ wSw cI cJ cZ adn gn ++ wSw cI cJ cZ adt gt) := hD
      obtain rfl := Option.some.inj hf
      exact retV hx hb hr hlocks hP hD hS dX2_noteEvent_81
    · replace hf := ifN q3 hf
      refine lv_aload_n hx hb dX2_noteEvent_46 rfl (lv_at hl 0 rfl) ?_
      refine va_get (D := D) (ci := 2) (v := .ref (adx 1)) (C := RX2) (T := TX2) (N := 17) hx hb hts hinX2 hown hK.1 hP 0 rfl rfl 4 (by decide) hw4 (fun _ h9 => h9) rfl dX2_noteEvent_47 ?_
      refine lv_aload_n hx hb dX2_noteEvent_50 rfl (lv_at hl 0 rfl) ?_
      refine va_get (D := D) (ci := 2) (v := .ref (adn 0)) (C := RX2) (T := TX2) (N := 17) hx hb hts hinX2 hown hK.1 hP 0 rfl rfl 1 (by decide) hw2 (fun _ h9 => h9) rfl dX2_noteEvent_51 ?_
      refine va_get (D := D) (ci := 1) (v := .int gn.2.2.2.2.2.2.1) (C := RX1) (T := TX1) (N := 10) hx hb hts hinX1 hown hK.1 hP 22 rfl rfl 6 (by decide) hw5 (fun _ h9 => h9) rfl dX2_noteEvent_54 ?_
      refine lv_dup2_11 hx hb dX2_noteEvent_57 rfl rfl ?_
      replace hf := gdE hf
      obtain ⟨h6, hf⟩ := hf
      refine va_iald hx hb hK.1 hP 1 0 rfl rfl (ib_in h6) dX2_noteEvent_58 ?_
      refine lv_iconst (v := 1) hx hb dX2_noteEvent_59 (by decide) ?_
      refine lv_iadd hx hb dX2_noteEvent_60 ?_
      refine lv_topi (fun v7 ev7 => ?_)
      replace hf := bndE hf ev7
      refine va_iast hx hb hK.1 hP hD hS 1 0 rfl rfl (ib_in h6) dX2_noteEvent_61 (fun H locs hP hD hS => ?_)
      replace hP : va_P D vwCl (wX cI cJ adx adc adn adt ((v2, upd gx.2.1 gn.2.2.2.2.2.2.1.toNatClampNeg v7, gx.2.2.1, x3_26, gx.2.2.2.2)) ++ wCi cI adc gc ++ wSw cI cJ cZ adn gn ++ wSw cI cJ cZ adt gt) H := hP
      replace hD : va_D A (wX cI cJ adx adc adn adt ((v2, upd gx.2.1 gn.2.2.2.2.2.2.1.toNatClampNeg v7, gx.2.2.1, x3_26, gx.2.2.2.2)) ++ wCi cI adc gc ++ wSw cI cJ cZ adn gn ++ wSw cI cJ cZ adt gt) := hD
      refine lv_goto (tgt := 81) hx hb dX2_noteEvent_62 (by decide) ?_
      obtain rfl := Option.some.inj hf
      exact retV hx hb hr hlocks hP hD hS dX2_noteEvent_81
  refine lv_if_eq (tgt := 26) hx hb dX2_noteEvent_7 (by decide) (fun q8 => ?_) (fun q8 => ?_)
  · replace hf := ifT q8 hf
    exact J26 gx.2.2.2.1 _ _ _ hf hP hD hS (lv_sub hl [0] rfl)
  · replace hf := ifF q8 hf
    refine lv_aload_n hx hb dX2_noteEvent_10 rfl (lv_at hl 0 rfl) ?_
    refine va_get (D := D) (ci := 2) (v := .ref (adx 3)) (C := RX2) (T := TX2) (N := 17) hx hb hts hinX2 hown hK.1 hP 0 rfl rfl 6 (by decide) hw1 (fun _ h9 => h9) rfl dX2_noteEvent_11 ?_
    refine lv_aload_n hx hb dX2_noteEvent_14 rfl (lv_at hl 0 rfl) ?_
    refine va_get (D := D) (ci := 2) (v := .int gx.1) (C := RX2) (T := TX2) (N := 17) hx hb hts hinX2 hown hK.1 hP 0 rfl rfl 3 (by decide) hw0 (fun _ h9 => h9) rfl dX2_noteEvent_15 ?_
    refine lv_aload_n hx hb dX2_noteEvent_18 rfl (lv_at hl 0 rfl) ?_
    refine va_get (D := D) (ci := 2) (v := .ref (adn 0)) (C := RX2) (T := TX2) (N := 17) hx hb hts hinX2 hown hK.1 hP 0 rfl rfl 1 (by decide) hw2 (fun _ h9 => h9) rfl dX2_noteEvent_19 ?_
    replace hf := bdE hf
    obtain ⟨r9, hgr9, hf⟩ := hf
    refine xL (w2 := (wX cI cJ adx adc adn adt gx ++ wCi cI adc gc ++ wSw cI cJ cZ adn gn ++ wSw cI cJ cZ adt gt)) (wr := (wX cI cJ adx adc adn adt gx ++ wCi cI adc gc ++ wSw cI cJ cZ adt gt)) (va_runV (As := []) (rest := [.int gx.1, .ref (adx 3)]) ⟨hx, hb, hml, hown, hts⟩ (c_X1_packedEvent l D cI cJ cZ adn gn r9 hgr9 _) (cwV 0 hts gX2_noteEvent_X1_packedEvent rfl rfl rfl (by decide +kernel) ⟨Nat.le_of_ble_eq_true rfl, Nat.le_of_ble_eq_true rfl⟩) ⟨PreW.blind, xRecv (q0 := 22) hK hP rfl rfl, (xPre hK hP hD [22, 23, 24, 25, 26] rfl (by decide) _)⟩ rfl rfl hl.1 rfl (lv_room (Nat.le_of_ble_eq_true rfl)) dX2_noteEvent_22 ⟨Nat.le_of_ble_eq_true rfl, Nat.le_of_ble_eq_true rfl⟩) hP hD hS hA [22, 23, 24, 25, 26] [0, 1, 2, 3, 4, 5, 6, 7, 8, 9, 10, 11, 12, 13, 14, 15, 16, 17, 18, 19, 20, 21, 27, 28, 29, 30, 31] [0, 1, 2, 3, 4, 5, 6, 7, 8, 9, 10, 11, 12, 13, 14, 15, 16, 17, 18, 19, 20, 21, 27, 28, 29, 30, 31, 22, 23, 24, 25, 26] rfl rfl (by decide) (by decide) rfl (by decide) (fun H locs hP hD hS => ?_)
    replace hf := gdE hf
    obtain ⟨h10, hf⟩ := hf
    refine va_last hx hb hK.1 hP hD hS 3 1 rfl rfl (ib_in h10) dX2_noteEvent_25 (fun H locs hP hD hS => ?_)
    replace hP : va_P D vwCl (wX cI cJ adx adc adn adt ((gx.1, gx.2.1, gx.2.2.1, vp_updL gx.2.2.2.1 gx.1.toNatClampNeg r9, gx.2.2.2.2)) ++ wCi cI adc gc ++ wSw cI cJ cZ adn gn ++ wSw cI cJ cZ adt gt) H := hP
    replace hD : va_D A (wX cI cJ adx adc adn adt ((gx.1, gx.2.1, gx.2.2.1, vp_updL gx.2.2.2.1 gx.1.toNatClampNeg r9, gx.2.2.2.2)) ++ wCi cI adc gc ++ wSw cI cJ cZ adn gn ++ wSw cI cJ cZ adt gt) := hD
    exact J26 (vp_updL gx.2.2.2.1 gx.1.toNatClampNeg r9) _ _ _ hf hP hD hS (lv_sub hl [0] rfl)

def f_X2_isNextSpent (gc : Ci) (gn : Sw) (gt : Sw) : Option (Bool × Int64 × Int64 × Al × Al × Ar × Ar × Int32 × Int32 × Int64 × Int64) :=
if ¬ gc.1 = 0 then
(f_X1_copyFrom gt gn).bind (fun r2 =>
(f_X1_advance ((r2.1, r2.2.1, r2.2.2.1, r2.2.2.2.1, r2.2.2.2.2.1, r2.2.2.2.2.2, gt.2.2.2.2.2.2)) gc).bind (fun r3 =>
if ¬ (b2i r3.1) = 0 then
some (false, r3.2.1, r3.2.2.1, r3.2.2.2.1, r3.2.2.2.2.1, r3.2.2.2.2.2.1, r3.2.2.2.2.2.2.1, r3.2.2.2.2.2.2.2.1, r3.2.2.2.2.2.2.2.2.1, r3.2.2.2.2.2.2.2.2.2.1, r3.2.2.2.2.2.2.2.2.2.2)
else
some (true, r3.2.1, r3.2.2.1, r3.2.2.2.1, r3.2.2.2.2.1, r3.2.2.2.2.2.1, r3.2.2.2.2.2.2.1, r3.2.2.2.2.2.2.2.1, r3.2.2.2.2.2.2.2.2.1, r3.2.2.2.2.2.2.2.2.2.1, r3.2.2.2.2.2.2.2.2.2.2)))
else
some (false, gt.1, gt.2.1, gt.2.2.1, gt.2.2.2.1, gt.2.2.2.2.1, gt.2.2.2.2.2.1, gt.2.2.2.2.2.2.1, gt.2.2.2.2.2.2.2.1, gt.2.2.2.2.2.2.2.2.1, gt.2.2.2.2.2.2.2.2.2)
abbrev rmX2_isNextSpent : Room := { frames := 4, cells := 0, slots := 0, locals := 88 }
set_option maxHeartbeats 40000000 in
set_option maxRecDepth 100000 in
theorem c_X2_isNextSpent (l : Launch) (D : va_G) (cI cJ cZ : ClassId) (adx : Nat → Nat) (adc : Nat → Nat) (adn : Nat → Nat) (adt : Nat → Nat) (gx : Xo) (gc : Ci) (gn : Sw) (gt : Sw) (o : (Bool × Int64 × Int64 × Al × Al × Ar × Ar × Int32 × Int32 × Int64 × Int64)) (hf : f_X2_isNextSpent gc gn gt = some o) : CtI l yX2_isNextSpent wsX2_isNextSpent rmX2_isNextSpent D cI cJ cZ [.ref (adx 0)] (wX cI cJ adx adc adn adt gx ++ wCi cI adc gc ++ wSw cI cJ cZ adn gn ++ wSw cI cJ cZ adt gt) (wX cI cJ adx adc adn adt gx ++ wCi cI adc gc ++ wSw cI cJ cZ adn gn ++ wSw cI cJ cZ adt o.2) (b2i o.1) := by
  intro sz
  refine Met.ofW (cc := cX2_isNextSpent) (maxL := 1) (ret := (some .boolean)) (by decide) rfl ?_
  intro p e s m args below meth c s₁ B hml hv
  obtain ⟨rfl, hsz, hP, hK, hD0⟩ := hv
  have hx := B.exec
  have hb := B.bytes
  have hr := B.returns
  have hts := atoms_spec (ws := wsX2_isNextSpent) B.pre
  have hown : s.vm.findClass RX2 = some m.cls := findClass_of_methodNamed B.named
  have hlocks := B.notSynchronized
  subst hsz
  have hD := hD0.self (sz := s.heap.size)
  clear hD0
  generalize hAe : va_A (wX cI cJ adx adc adn adt gx ++ wCi cI adc gc ++ wSw cI cJ cZ adn gn ++ wSw cI cJ cZ adt gt) s.heap.size = A at hD ⊢
  have hA : ∀ q : Nat, s.heap.size ≤ q → A q := fun q h => by rw [← hAe]; exact Or.inr h
  have hS : va_S A s.heap s.heap [] := va_S.rf
  have hinX0 : ∀ w ∈ wsX00, w ∈ wsX2_isNextSpent := by decide +kernel
  have hinX2 : ∀ w ∈ wsX20, w ∈ wsX2_isNextSpent := by decide +kernel
  have hw0 : (Cond.fieldLink RX2 12 "SwingCircuits" "circuit" "LSwingCircuits$Circuit;").before _ s = true := hts _ (by decide +kernel)
  have hw1 : (Cond.fieldLink RX2 76 "SwingCircuits$Circuit" "cells" "I").before _ s = true := hts _ (by decide +kernel)
  have hw2 : (Cond.fieldLink RX2 23 "SwingCircuits" "trial" "LSwingCircuits$Swing;").before _ s = true := hts _ (by decide +kernel)
  have hw3 : (Cond.fieldLink RX2 19 "SwingCircuits" "now" "LSwingCircuits$Swing;").before _ s = true := hts _ (by decide +kernel)
  have hl := lv_entry ([.ref (adx 0)]) (n := 1) (Nat.le_of_ble_eq_true rfl)
  rw [lg_entry_eq]
  generalize (lg_sl ([.ref (adx 0)]) ++ List.replicate (1 - (lg_sl ([.ref (adx 0)])).length) Slot.unset).toArray = ls at hl ⊢
  replace hl : lv_has ls 1 [(0, .ref (adx 0))] := hl
  unfold f_X2_isNextSpent at hf
  refine lv_aload_n hx hb dX2_isNextSpent_0 rfl (lv_at hl 0 rfl) ?_
  refine va_get (D := D) (ci := 2) (v := .ref (adc 0)) (C := RX2) (T := TX2) (N := 17) hx hb hts hinX2 hown hK.1 hP 0 rfl rfl 0 (by decide) hw0 (fun _ h9 => h9) rfl dX2_isNextSpent_1 ?_
  refine va_get (D := D) (ci := 0) (v := .int gc.1) (C := RX0) (T := TX0) (N := 12) hx hb hts hinX0 hown hK.1 hP 11 rfl rfl 0 (by decide) hw1 (fun _ h9 => h9) rfl dX2_isNextSpent_4 ?_
  refine lv_if_ne (tgt := 12) hx hb dX2_isNextSpent_7 (by decide) (fun q1 => ?_) (fun q1 => ?_)
  · replace hf := ifT q1 hf
    refine lv_aload_n hx hb dX2_isNextSpent_12 rfl (lv_at hl 0 rfl) ?_
    refine va_get (D := D) (ci := 2) (v := .ref (adt 0)) (C := RX2) (T := TX2) (N := 17) hx hb hts hinX2 hown hK.1 hP 0 rfl rfl 2 (by decide) hw2 (fun _ h9 => h9) rfl dX2_isNextSpent_13 ?_
    refine lv_aload_n hx hb dX2_isNextSpent_16 rfl (lv_at hl 0 rfl) ?_
    refine va_get (D := D) (ci := 2) (v := .ref (adn 0)) (C := RX2) (T := TX2) (N := 17) hx hb hts hinX2 hown hK.1 hP 0 rfl rfl 1 (by decide) hw3 (fun _ h9 => h9) rfl dX2_isNextSpent_17 ?_
    replace hf := bdE hf
    obtain ⟨r2, hgr2, hf⟩ := hf
    refine xV (w2 := (wX cI cJ adx adc adn adt gx ++ wCi cI adc gc ++ wSw cI cJ cZ adn gn ++ wSw cI cJ cZ adt ((r2.1, r2.2.1, r2.2.2.1, r2.2.2.2.1, r2.2.2.2.2.1, r2.2.2.2.2.2, gt.2.2.2.2.2.2)))) (wr := (wX cI cJ adx adc adn adt gx ++ wCi cI adc gc)) (va_runV (As := [.ref (adn 0)]) (rest := []) ⟨hx, hb, hml, hown, hts⟩ (c_X1_copyFrom l D cI cJ cZ adt adn gt gn r2 hgr2 _) (cwV 1 hts gX2_isNextSpent_X1_copyFrom rfl rfl rfl (by decide +kernel) ⟨Nat.le_of_ble_eq_true rfl, Nat.le_of_ble_eq_true rfl⟩) ⟨PreW.blind, xRecv (q0 := 27) hK hP rfl rfl, (xPre hK hP hD [27, 28, 29, 30, 31, 22, 23, 24, 25, 26] rfl (by decide) _)⟩ rfl rfl hl.1 rfl (lv_room (Nat.le_of_ble_eq_true rfl)) dX2_isNextSpent_20 ⟨Nat.le_of_ble_eq_true rfl, Nat.le_of_ble_eq_true rfl⟩) hP hD hS hA [27, 28, 29, 30, 31, 22, 23, 24, 25, 26] [0, 1, 2, 3, 4, 5, 6, 7, 8, 9, 10, 11, 12, 13, 14, 15, 16, 17, 18, 19, 20, 21] [0, 1, 2, 3, 4, 5, 6, 7, 8, 9, 10, 11, 12, 13, 14, 15, 16, 17, 18, 19, 20, 21, 27, 28, 29, 30, 31, 22, 23, 24, 25, 26] rfl rfl (by decide) (by decide) rfl (by decide) (fun H locs hP hD hS => ?_)
    refine lv_aload_n hx hb dX2_isNextSpent_23 rfl (lv_at hl 0 rfl) ?_
    refine va_get (D := D) (ci := 2) (v := .ref (adt 0)) (C := RX2) (T := TX2) (N := 17) hx hb hts hinX2 hown hK.1 hP 0 rfl rfl 2 (by decide) hw2 (fun _ h9 => h9) rfl dX2_isNextSpent_24 ?_
    refine lv_aload_n hx hb dX2_isNextSpent_27 rfl (lv_at hl 0 rfl) ?_
    refine va_get (D := D) (ci := 2) (v := .ref (adc 0)) (C := RX2) (T := TX2) (N := 17) hx hb hts hinX2 hown hK.1 hP 0 rfl rfl 0 (by decide) hw0 (fun _ h9 => h9) rfl dX2_isNextSpent_28 ?_
    replace hf := bdE hf
    obtain ⟨r3, hgr3, hf⟩ := hf
    refine xI (w2 := (wX cI cJ adx adc adn adt gx ++ wCi cI adc gc ++ wSw cI cJ cZ adn gn ++ wSw cI cJ cZ adt r3.2)) (wr := (wX cI cJ adx adc adn adt gx ++ wSw cI cJ cZ adn gn)) (va_runV (As := [.ref (adc 0)]) (rest := []) ⟨hx, hb, hml, hown, hts⟩ (c_X1_advance l D cI cJ cZ adt adc ((r2.1, r2.2.1, r2.2.2.1, r2.2.2.2.1, r2.2.2.2.2.1, r2.2.2.2.2.2, gt.2.2.2.2.2.2)) gc r3 hgr3 _) (cwV 1 hts gX2_isNextSpent_X1_advance rfl rfl rfl (by decide +kernel) ⟨Nat.le_of_ble_eq_true rfl, Nat.le_of_ble_eq_true rfl⟩) ⟨PreW.blind, xRecv (q0 := 27) hK hP rfl rfl, (xPre hK hP hD [27, 28, 29, 30, 31, 11, 12, 13, 14, 15, 16, 17, 18, 19, 20, 21] rfl (by decide) _)⟩ rfl rfl hl.1 rfl (lv_room (Nat.le_of_ble_eq_true rfl)) dX2_isNextSpent_31 ⟨Nat.le_of_ble_eq_true rfl, Nat.le_of_ble_eq_true rfl⟩) hP hD hS hA [27, 28, 29, 30, 31, 11, 12, 13, 14, 15, 16, 17, 18, 19, 20, 21] [0, 1, 2, 3, 4, 5, 6, 7, 8, 9, 10, 22, 23, 24, 25, 26] [0, 1, 2, 3, 4, 5, 6, 7, 8, 9, 10, 21, 22, 23, 24, 25, 26, 27, 28, 29, 30, 31, 11, 12, 13, 14, 15, 16, 17, 18, 19, 20] rfl rfl (by decide) (by decide) rfl (by decide) (fun H locs hP hD hS => ?_)
    refine lv_if_ne (tgt := 41) hx hb dX2_isNextSpent_34 (by decide) (fun q4 => ?_) (fun q4 => ?_)
    · replace hf := ifT q4 hf
      refine lv_iconst (v := 0) hx hb dX2_isNextSpent_41 (by decide) ?_
      obtain rfl := Option.some.inj hf
      exact retZ false rfl hx hb hr hlocks hP hD hS dX2_isNextSpent_42
    · replace hf := ifN q4 hf
      refine lv_iconst (v := 1) hx hb dX2_isNextSpent_37 (by decide) ?_
      refine lv_goto (tgt := 42) hx hb dX2_isNextSpent_38 (by decide) ?_
      obtain rfl := Option.some.inj hf
      exact retZ true rfl hx hb hr hlocks hP hD hS dX2_isNextSpent_42
  · replace hf := ifN q1 hf
    refine lv_iconst (v := 0) hx hb dX2_isNextSpent_10 (by decide) ?_
    obtain rfl := Option.some.inj hf
    exact retZ false rfl hx hb hr hlocks hP hD hS dX2_isNextSpent_11

def f_X2_counted (gc : Ci) (gn : Sw) (p1 : Int32) : Option Int32 :=
if p1 < 0 then
some ((-1))
else
if gc.2.2.2.2.2.1 ≤ p1 then
some ((-1))
else
gd (ib p1 8) (
some (gn.2.2.2.2.2.1 p1.toNatClampNeg))
abbrev rmX2_counted : Room := { frames := 0, cells := 0, slots := 0, locals := 0 }
set_option maxHeartbeats 40000000 in
set_option maxRecDepth 100000 in
theorem c_X2_counted (l : Launch) (D : va_G) (cI cJ cZ : ClassId) (adx : Nat → Nat) (adc : Nat → Nat) (adn : Nat → Nat) (adt : Nat → Nat) (gx : Xo) (gc : Ci) (gn : Sw) (gt : Sw) (p1 : Int32) (o : Int32) (hf : f_X2_counted gc gn p1 = some o) : CtI l yX2_counted wsX2_counted rmX2_counted D cI cJ cZ [.ref (adx 0), .int p1] (wX cI cJ adx adc adn adt gx ++ wCi cI adc gc ++ wSw cI cJ cZ adn gn ++ wSw cI cJ cZ adt gt) (wX cI cJ adx adc adn adt gx ++ wCi cI adc gc ++ wSw cI cJ cZ adn gn ++ wSw cI cJ cZ adt gt) o := by
  intro sz
  refine Met.ofW (cc := cX2_counted) (maxL := 2) (ret := (some .int)) (by decide) rfl ?_
  intro p e s m args below meth c s₁ B hml hv
  obtain ⟨rfl, hsz, hP, hK, hD0⟩ := hv
  have hx := B.exec
  have hb := B.bytes
  have hr := B.returns
  have hts := atoms_spec (ws := wsX2_counted) B.pre
  have hown : s.vm.findClass RX2 = some m.cls := findClass_of_methodNamed B.named
  have hlocks := B.notSynchronized
  subst hsz
  have hD := hD0.self (sz := s.heap.size)
  clear hD0
  generalize hAe : va_A (wX cI cJ adx adc adn adt gx ++ wCi cI adc gc ++ wSw cI cJ cZ adn gn ++ wSw cI cJ cZ adt gt) s.heap.size = A at hD ⊢
  have hA : ∀ q : Nat, s.heap.size ≤ q → A q := fun q h => by rw [← hAe]; exact Or.inr h
  have hS : va_S A s.heap s.heap [] := va_S.rf
  have hinX0 : ∀ w ∈ wsX00, w ∈ wsX2_counted := by decide +kernel
  have hinX1 : ∀ w ∈ wsX10, w ∈ wsX2_counted := by decide +kernel
  have hinX2 : ∀ w ∈ wsX20, w ∈ wsX2_counted := by decide +kernel
  have hw0 : (Cond.fieldLink RX2 12 "SwingCircuits" "circuit" "LSwingCircuits$Circuit;").before _ s = true := hts _ (by decide +kernel)
  have hw1 : (Cond.fieldLink RX2 101 "SwingCircuits$Circuit" "links" "I").before _ s = true := hts _ (by decide +kernel)
  have hw2 : (Cond.fieldLink RX2 19 "SwingCircuits" "now" "LSwingCircuits$Swing;").before _ s = true := hts _ (by decide +kernel)
  have hw3 : (Cond.fieldLink RX2 171 "SwingCircuits$Swing" "counts" "[I").before _ s = true := hts _ (by decide +kernel)
  have hl := lv_entry ([.ref (adx 0), .int p1]) (n := 2) (Nat.le_of_ble_eq_true rfl)
  rw [lg_entry_eq]
  generalize (lg_sl ([.ref (adx 0), .int p1]) ++ List.replicate (2 - (lg_sl ([.ref (adx 0), .int p1])).length) Slot.unset).toArray = ls at hl ⊢
  replace hl : lv_has ls 2 [(0, .ref (adx 0)), (1, .int p1)] := hl
  unfold f_X2_counted at hf
  refine lv_iload_n hx hb dX2_counted_0 rfl (lv_at hl 1 rfl) ?_
  refine lv_if_lt (tgt := 27) hx hb dX2_counted_1 (by decide) (fun q1 => ?_) (fun q1 => ?_)
  · replace hf := ifT q1 hf
    refine lv_iconst (v := (-1)) hx hb dX2_counted_27 (by decide) ?_
    obtain rfl := Option.some.inj hf
    exact retI hx hb hr hlocks hP hD hS dX2_counted_28
  · replace hf := ifF q1 hf
    refine lv_iload_n hx hb dX2_counted_4 rfl (lv_at hl 1 rfl) ?_
    refine lv_aload_n hx hb dX2_counted_5 rfl (lv_at hl 0 rfl) ?_
    refine va_get (D := D) (ci := 2) (v := .ref (adc 0)) (C := RX2) (T := TX2) (N := 17) hx hb hts hinX2 hown hK.1 hP 0 rfl rfl 0 (by decide) hw0 (fun _ h9 => h9) rfl dX2_counted_6 ?_
    refine va_get (D := D) (ci := 0) (v := .int gc.2.2.2.2.2.1) (C := RX0) (T := TX0) (N := 12) hx hb hts hinX0 hown hK.1 hP 11 rfl rfl 5 (by decide) hw1 (fun _ h9 => h9) rfl dX2_counted_9 ?_
    refine lv_icmp_ge (tgt := 27) hx hb dX2_counted_12 (by decide) (fun q2 => ?_) (fun q2 => ?_)
    · replace hf := ifT q2 hf
      refine lv_iconst (v := (-1)) hx hb dX2_counted_27 (by decide) ?_
      obtain rfl := Option.some.inj hf
      exact retI hx hb hr hlocks hP hD hS dX2_counted_28
    · replace hf := ifF q2 hf
      refine lv_aload_n hx hb dX2_counted_15 rfl (lv_at hl 0 rfl) ?_
      refine va_get (D := D) (ci := 2) (v := .ref (adn 0)) (C := RX2) (T := TX2) (N := 17) hx hb hts hinX2 hown hK.1 hP 0 rfl rfl 1 (by decide) hw2 (fun _ h9 => h9) rfl dX2_counted_16 ?_
      refine va_get (D := D) (ci := 1) (v := .ref (adn 4)) (C := RX1) (T := TX1) (N := 10) hx hb hts hinX1 hown hK.1 hP 22 rfl rfl 5 (by decide) hw3 (fun _ h9 => h9) rfl dX2_counted_19 ?_
      refine lv_iload_n hx hb dX2_counted_22 rfl (lv_at hl 1 rfl) ?_
      replace hf := gdE hf
      obtain ⟨h3, hf⟩ := hf
      refine va_iald hx hb hK.1 hP 26 0 rfl rfl (ib_in h3) dX2_counted_23 ?_
      refine lv_goto (tgt := 28) hx hb dX2_counted_24 (by decide) ?_
      obtain rfl := Option.some.inj hf
      exact retI hx hb hr hlocks hP hD hS dX2_counted_28

def f_X2_forget (gx : Xo) : Option (Int32 × Int32) :=
some (gx.2.2.2.2.2.2.2.2.2.2.2.1, 0)
abbrev rmX2_forget : Room := { frames := 0, cells := 0, slots := 0, locals := 0 }
set_option maxHeartbeats 40000000 in
set_option maxRecDepth 100000 in
theorem c_X2_forget (l : Launch) (D : va_G) (cI cJ cZ : ClassId) (adx : Nat → Nat) (adc : Nat → Nat) (adn : Nat → Nat) (adt : Nat → Nat) (gx : Xo) (gc : Ci) (gn : Sw) (gt : Sw) (o : (Int32 × Int32)) (hf : f_X2_forget gx = some o) : CtI l yX2_forget wsX2_forget rmX2_forget D cI cJ cZ [.ref (adx 0)] (wX cI cJ adx adc adn adt gx ++ wCi cI adc gc ++ wSw cI cJ cZ adn gn ++ wSw cI cJ cZ adt gt) (wX cI cJ adx adc adn adt ((gx.1, gx.2.1, gx.2.2.1, gx.2.2.2.1, gx.2.2.2.2.1, gx.2.2.2.2.2.1, gx.2.2.2.2.2.2.1, gx.2.2.2.2.2.2.2.1, gx.2.2.2.2.2.2.2.2.1, gx.2.2.2.2.2.2.2.2.2.1, gx.2.2.2.2.2.2.2.2.2.2.1, o.2, gx.2.2.2.2.2.2.2.2.2.2.2.2)) ++ wCi cI adc gc ++ wSw cI cJ cZ adn gn ++ wSw cI cJ cZ adt gt) o.1 := by
  intro sz
  refine Met.ofW (cc := cX2_forget) (maxL := 2) (ret := (some .int)) (by decide) rfl ?_
  intro p e s m args below meth c s₁ B hml hv
  obtain ⟨rfl, hsz, hP, hK, hD0⟩ := hv
  have hx := B.exec
  have hb := B.bytes
  have hr := B.returns
  have hts := atoms_spec (ws := wsX2_forget) B.pre
  have hown : s.vm.findClass RX2 = some m.cls := findClass_of_methodNamed B.named
  have hlocks := B.notSynchronized
  subst hsz
  have hD := hD0.self (sz := s.heap.size)
  clear hD0
  generalize hAe : va_A (wX cI cJ adx adc adn adt gx ++ wCi cI adc gc ++ wSw cI cJ cZ adn gn ++ wSw cI cJ cZ adt gt) s.heap.size = A at hD ⊢
  have hA : ∀ q : Nat, s.heap.size ≤ q → A q := fun q h => by rw [← hAe]; exact Or.inr h
  have hS : va_S A s.heap s.heap [] := va_S.rf
  have hinX2 : ∀ w ∈ wsX20, w ∈ wsX2_forget := by decide +kernel
  have hw0 : (Cond.fieldLink RX2 63 "SwingCircuits" "measures" "I").before _ s = true := hts _ (by decide +kernel)
  have hl := lv_entry ([.ref (adx 0)]) (n := 2) (Nat.le_of_ble_eq_true rfl)
  rw [lg_entry_eq]
  generalize (lg_sl ([.ref (adx 0)]) ++ List.replicate (2 - (lg_sl ([.ref (adx 0)])).length) Slot.unset).toArray = ls at hl ⊢
  replace hl : lv_has ls 2 [(0, .ref (adx 0))] := hl
  unfold f_X2_forget at hf
  refine lv_aload_n hx hb dX2_forget_0 rfl (lv_at hl 0 rfl) ?_
  refine va_get (D := D) (ci := 2) (v := .int gx.2.2.2.2.2.2.2.2.2.2.2.1) (C := RX2) (T := TX2) (N := 17) hx hb hts hinX2 hown hK.1 hP 0 rfl rfl 14 (by decide) hw0 (fun _ h9 => h9) rfl dX2_forget_1 ?_
  refine lv_istore_n (lv' := [(1, .int gx.2.2.2.2.2.2.2.2.2.2.2.1), (0, .ref (adx 0))]) hx hb dX2_forget_4 rfl hl (by decide) rfl (fun ls hl => ?_)
  refine lv_aload_n hx hb dX2_forget_5 rfl (lv_at hl 1 rfl) ?_
  refine lv_iconst (v := 0) hx hb dX2_forget_6 (by decide) ?_
  refine va_put (D := D) (ci := 2) (v := .int 0) (ty := .int) (C := RX2) (T := TX2) (N := 17) hx hb hts hinX2 tyX2 tyX2_ok nmX2 hown hK.1 hP hD hS 0 rfl rfl 14 (by decide) hw0 (fun _ h9 => h9) rfl (by decide +kernel) rfl rfl (Nat.le_of_ble_eq_true rfl) dX2_forget_7 (fun H locs hP hD hS => ?_)
  replace hP : va_P D vwCl (wX cI cJ adx adc adn adt ((gx.1, gx.2.1, gx.2.2.1, gx.2.2.2.1, gx.2.2.2.2.1, gx.2.2.2.2.2.1, gx.2.2.2.2.2.2.1, gx.2.2.2.2.2.2.2.1, gx.2.2.2.2.2.2.2.2.1, gx.2.2.2.2.2.2.2.2.2.1, gx.2.2.2.2.2.2.2.2.2.2.1, 0, gx.2.2.2.2.2.2.2.2.2.2.2.2)) ++ wCi cI adc gc ++ wSw cI cJ cZ adn gn ++ wSw cI cJ cZ adt gt) H := hP
  replace hD : va_D A (wX cI cJ adx adc adn adt ((gx.1, gx.2.1, gx.2.2.1, gx.2.2.2.1, gx.2.2.2.2.1, gx.2.2.2.2.2.1, gx.2.2.2.2.2.2.1, gx.2.2.2.2.2.2.2.1, gx.2.2.2.2.2.2.2.2.1, gx.2.2.2.2.2.2.2.2.2.1, gx.2.2.2.2.2.2.2.2.2.2.1, 0, gx.2.2.2.2.2.2.2.2.2.2.2.2)) ++ wCi cI adc gc ++ wSw cI cJ cZ adn gn ++ wSw cI cJ cZ adt gt) := hD
  refine lv_iload_n hx hb dX2_forget_10 rfl (lv_at hl 0 rfl) ?_
  obtain rfl := Option.some.inj hf
  exact retI hx hb hr hlocks hP hD hS dX2_forget_11

def f_X2_ringed (gx : Xo) (p1 : Int32) : Option Int64 :=
if gx.2.2.2.2.2.2.1 = 0 then
some ((-1))
else
if p1 < 0 then
some ((-1))
else
if (8 : Int32) ≤ p1 then
some ((-1))
else
gd (ib p1 8) (
some (gx.2.2.2.2.2.1 p1.toNatClampNeg))
abbrev rmX2_ringed : Room := { frames := 0, cells := 0, slots := 0, locals := 0 }
set_option maxHeartbeats 40000000 in
set_option maxRecDepth 100000 in
theorem c_X2_ringed (l : Launch) (D : va_G) (cI cJ cZ : ClassId) (adx : Nat → Nat) (adc : Nat → Nat) (adn : Nat → Nat) (adt : Nat → Nat) (gx : Xo) (gc : Ci) (gn : Sw) (gt : Sw) (p1 : Int32) (o : Int64) (hf : f_X2_ringed gx p1 = some o) : CtL l yX2_ringed wsX2_ringed rmX2_ringed D cI cJ cZ [.ref (adx 0), .int p1] (wX cI cJ adx adc adn adt gx ++ wCi cI adc gc ++ wSw cI cJ cZ adn gn ++ wSw cI cJ cZ adt gt) (wX cI cJ adx adc adn adt gx ++ wCi cI adc gc ++ wSw cI cJ cZ adn gn ++ wSw cI cJ cZ adt gt) o := by
  intro sz
  refine Met.ofW (cc := cX2_ringed) (maxL := 2) (ret := (some .long)) (by decide) rfl ?_
  intro p e s m args below meth c s₁ B hml hv
  obtain ⟨rfl, hsz, hP, hK, hD0⟩ := hv
  have hx := B.exec
  have hb := B.bytes
  have hr := B.returns
  have hts := atoms_spec (ws := wsX2_ringed) B.pre
  have hown : s.vm.findClass RX2 = some m.cls := findClass_of_methodNamed B.named
  have hlocks := B.notSynchronized
  subst hsz
  have hD := hD0.self (sz := s.heap.size)
  clear hD0
  generalize hAe : va_A (wX cI cJ adx adc adn adt gx ++ wCi cI adc gc ++ wSw cI cJ cZ adn gn ++ wSw cI cJ cZ adt gt) s.heap.size = A at hD ⊢
  have hA : ∀ q : Nat, s.heap.size ≤ q → A q := fun q h => by rw [← hAe]; exact Or.inr h
  have hS : va_S A s.heap s.heap [] := va_S.rf
  have hinX2 : ∀ w ∈ wsX20, w ∈ wsX2_ringed := by decide +kernel
  have hw0 : (Cond.fieldLink RX2 47 "SwingCircuits" "ringFound" "Z").before _ s = true := hts _ (by decide +kernel)
  have hw1 : (Cond.fieldLink RX2 44 "SwingCircuits" "ringAnswers" "[J").before _ s = true := hts _ (by decide +kernel)
  have hw2 : (Cond.constantLong RX2 203 (-1)).before _ s = true := hts _ (by decide +kernel)
  have hl := lv_entry ([.ref (adx 0), .int p1]) (n := 2) (Nat.le_of_ble_eq_true rfl)
  rw [lg_entry_eq]
  generalize (lg_sl ([.ref (adx 0), .int p1]) ++ List.replicate (2 - (lg_sl ([.ref (adx 0), .int p1])).length) Slot.unset).toArray = ls at hl ⊢
  replace hl : lv_has ls 2 [(0, .ref (adx 0)), (1, .int p1)] := hl
  unfold f_X2_ringed at hf
  refine lv_aload_n hx hb dX2_ringed_0 rfl (lv_at hl 0 rfl) ?_
  refine va_get (D := D) (ci := 2) (v := .int gx.2.2.2.2.2.2.1) (C := RX2) (T := TX2) (N := 17) hx hb hts hinX2 hown hK.1 hP 0 rfl rfl 9 (by decide) hw0 (fun _ h9 => h9) rfl dX2_ringed_1 ?_
  refine lv_if_eq (tgt := 26) hx hb dX2_ringed_4 (by decide) (fun q1 => ?_) (fun q1 => ?_)
  · replace hf := ifT q1 hf
    refine lv_ldc2 hx hb hown hw2 dX2_ringed_26 ?_
    obtain rfl := Option.some.inj hf
    exact retL hx hb hr hlocks hP hD hS dX2_ringed_29
  · replace hf := ifF q1 hf
    refine lv_iload_n hx hb dX2_ringed_7 rfl (lv_at hl 1 rfl) ?_
    refine lv_if_lt (tgt := 26) hx hb dX2_ringed_8 (by decide) (fun q2 => ?_) (fun q2 => ?_)
    · replace hf := ifT q2 hf
      refine lv_ldc2 hx hb hown hw2 dX2_ringed_26 ?_
      obtain rfl := Option.some.inj hf
      exact retL hx hb hr hlocks hP hD hS dX2_ringed_29
    · replace hf := ifF q2 hf
      refine lv_iload_n hx hb dX2_ringed_11 rfl (lv_at hl 1 rfl) ?_
      refine lv_bipush (v := 8) hx hb dX2_ringed_12 (by decide) ?_
      refine lv_icmp_ge (tgt := 26) hx hb dX2_ringed_14 (by decide) (fun q3 => ?_) (fun q3 => ?_)
      · replace hf := ifT q3 hf
        refine lv_ldc2 hx hb hown hw2 dX2_ringed_26 ?_
        obtain rfl := Option.some.inj hf
        exact retL hx hb hr hlocks hP hD hS dX2_ringed_29
      · replace hf := ifF q3 hf
        refine lv_aload_n hx hb dX2_ringed_17 rfl (lv_at hl 0 rfl) ?_
        refine va_get (D := D) (ci := 2) (v := .ref (adx 5)) (C := RX2) (T := TX2) (N := 17) hx hb hts hinX2 hown hK.1 hP 0 rfl rfl 8 (by decide) hw1 (fun _ h9 => h9) rfl dX2_ringed_18 ?_
        refine lv_iload_n hx hb dX2_ringed_21 rfl (lv_at hl 1 rfl) ?_
        replace hf := gdE hf
        obtain ⟨h4, hf⟩ := hf
        refine va_lald hx hb hK.1 hP 5 1 rfl rfl (ib_in h4) dX2_ringed_22 ?_
        refine lv_goto (tgt := 29) hx hb dX2_ringed_23 (by decide) ?_
        obtain rfl := Option.some.inj hf
        exact retL hx hb hr hlocks hP hD hS dX2_ringed_29

def f_X2_clear (gx : Xo) (gc : Ci) (gn : Sw) : Option (Int32 × Int32 × Ar × Ar × Int32 × Int32 × Int64 × Int64 × Al × Al × Ar × Ar) :=
(f_X2_startAgain gx ((0, gc.2.1, gc.2.2.1, gc.2.2.2.1, gc.2.2.2.2.1, 0, gc.2.2.2.2.2.2)) gn).bind (fun r1 =>
some (gc.1, r1.1, r1.2.1, r1.2.2.1, 0, 0, r1.2.2.2.1, r1.2.2.2.2.1, r1.2.2.2.2.2.1, r1.2.2.2.2.2.2.1, r1.2.2.2.2.2.2.2.1, r1.2.2.2.2.2.2.2.2))
abbrev rmX2_clear : Room := { frames := 2, cells := 0, slots := 0, locals := 43 }
set_option maxHeartbeats 40000000 in
set_option maxRecDepth 100000 in
theorem c_X2_clear (l : Launch) (D : va_G) (cI cJ cZ : ClassId) (adx : Nat → Nat) (adc : Nat → Nat) (adn : Nat → Nat) (adt : Nat → Nat) (gx : Xo) (gc : Ci) (gn : Sw) (gt : Sw) (o : (Int32 × Int32 × Ar × Ar × Int32 × Int32 × Int64 × Int64 × Al × Al × Ar × Ar)) (hf : f_X2_clear gx gc gn = some o) : CtI l yX2_clear wsX2_clear rmX2_clear D cI cJ cZ [.ref (adx 0)] (wX cI cJ adx adc adn adt gx ++ wCi cI adc gc ++ wSw cI cJ cZ adn gn ++ wSw cI cJ cZ adt gt) (wX cI cJ adx adc adn adt ((o.2.1, o.2.2.1, o.2.2.2.1, gx.2.2.2)) ++ wCi cI adc ((o.2.2.2.2.1, gc.2.1, gc.2.2.1, gc.2.2.2.1, gc.2.2.2.2.1, o.2.2.2.2.2.1, gc.2.2.2.2.2.2)) ++ wSw cI cJ cZ adn ((o.2.2.2.2.2.2.1, o.2.2.2.2.2.2.2.1, o.2.2.2.2.2.2.2.2.1, o.2.2.2.2.2.2.2.2.2.1, o.2.2.2.2.2.2.2.2.2.2.1, o.2.2.2.2.2.2.2.2.2.2.2, gn.2.2.2.2.2.2)) ++ wSw cI cJ cZ adt gt) o.1 := by
  intro sz
  refine Met.ofW (cc := cX2_clear) (maxL := 2) (ret := (some .int)) (by decide) rfl ?_
  intro p e s m args below meth c s₁ B hml hv
  obtain ⟨rfl, hsz, hP, hK, hD0⟩ := hv
  have hx := B.exec
  have hb := B.bytes
  have hr := B.returns
  have hts := atoms_spec (ws := wsX2_clear) B.pre
  have hown : s.vm.findClass RX2 = some m.cls := findClass_of_methodNamed B.named
  have hlocks := B.notSynchronized
  subst hsz
  have hD := hD0.self (sz := s.heap.size)
  clear hD0
  generalize hAe : va_A (wX cI cJ adx adc adn adt gx ++ wCi cI adc gc ++ wSw cI cJ cZ adn gn ++ wSw cI cJ cZ adt gt) s.heap.size = A at hD ⊢
  have hA : ∀ q : Nat, s.heap.size ≤ q → A q := fun q h => by rw [← hAe]; exact Or.inr h
  have hS : va_S A s.heap s.heap [] := va_S.rf
  have hinX0 : ∀ w ∈ wsX00, w ∈ wsX2_clear := by decide +kernel
  have hinX2 : ∀ w ∈ wsX20, w ∈ wsX2_clear := by decide +kernel
  have hw0 : (Cond.fieldLink RX2 12 "SwingCircuits" "circuit" "LSwingCircuits$Circuit;").before _ s = true := hts _ (by decide +kernel)
  have hw1 : (Cond.fieldLink RX2 76 "SwingCircuits$Circuit" "cells" "I").before _ s = true := hts _ (by decide +kernel)
  have hw2 : (Cond.fieldLink RX2 101 "SwingCircuits$Circuit" "links" "I").before _ s = true := hts _ (by decide +kernel)
  have hl := lv_entry ([.ref (adx 0)]) (n := 2) (Nat.le_of_ble_eq_true rfl)
  rw [lg_entry_eq]
  generalize (lg_sl ([.ref (adx 0)]) ++ List.replicate (2 - (lg_sl ([.ref (adx 0)])).length) Slot.unset).toArray = ls at hl ⊢
  replace hl : lv_has ls 2 [(0, .ref (adx 0))] := hl
  unfold f_X2_clear at hf
  refine lv_aload_n hx hb dX2_clear_0 rfl (lv_at hl 0 rfl) ?_
  refine va_get (D := D) (ci := 2) (v := .ref (adc 0)) (C := RX2) (T := TX2) (N := 17) hx hb hts hinX2 hown hK.1 hP 0 rfl rfl 0 (by decide) hw0 (fun _ h9 => h9) rfl dX2_clear_1 ?_
  refine va_get (D := D) (ci := 0) (v := .int gc.1) (C := RX0) (T := TX0) (N := 12) hx hb hts hinX0 hown hK.1 hP 11 rfl rfl 0 (by decide) hw1 (fun _ h9 => h9) rfl dX2_clear_4 ?_
  refine lv_istore_n (lv' := [(1, .int gc.1), (0, .ref (adx 0))]) hx hb dX2_clear_7 rfl hl (by decide) rfl (fun ls hl => ?_)
  refine lv_aload_n hx hb dX2_clear_8 rfl (lv_at hl 1 rfl) ?_
  refine va_get (D := D) (ci := 2) (v := .ref (adc 0)) (C := RX2) (T := TX2) (N := 17) hx hb hts hinX2 hown hK.1 hP 0 rfl rfl 0 (by decide) hw0 (fun _ h9 => h9) rfl dX2_clear_9 ?_
  refine lv_iconst (v := 0) hx hb dX2_clear_12 (by decide) ?_
  refine va_put (D := D) (ci := 0) (v := .int 0) (ty := .int) (C := RX0) (T := TX0) (N := 12) hx hb hts hinX0 tyX0 tyX0_ok nmX0 hown hK.1 hP hD hS 11 rfl rfl 0 (by decide) hw1 (fun _ h9 => h9) rfl (by decide +kernel) rfl rfl (Nat.le_of_ble_eq_true rfl) dX2_clear_13 (fun H locs hP hD hS => ?_)
  replace hP : va_P D vwCl (wX cI cJ adx adc adn adt gx ++ wCi cI adc ((0, gc.2)) ++ wSw cI cJ cZ adn gn ++ wSw cI cJ cZ adt gt) H := hP
  replace hD : va_D A (wX cI cJ adx adc adn adt gx ++ wCi cI adc ((0, gc.2)) ++ wSw cI cJ cZ adn gn ++ wSw cI cJ cZ adt gt) := hD
  refine lv_aload_n hx hb dX2_clear_16 rfl (lv_at hl 1 rfl) ?_
  refine va_get (D := D) (ci := 2) (v := .ref (adc 0)) (C := RX2) (T := TX2) (N := 17) hx hb hts hinX2 hown hK.1 hP 0 rfl rfl 0 (by decide) hw0 (fun _ h9 => h9) rfl dX2_clear_17 ?_
  refine lv_iconst (v := 0) hx hb dX2_clear_20 (by decide) ?_
  refine va_put (D := D) (ci := 0) (v := .int 0) (ty := .int) (C := RX0) (T := TX0) (N := 12) hx hb hts hinX0 tyX0 tyX0_ok nmX0 hown hK.1 hP hD hS 11 rfl rfl 5 (by decide) hw2 (fun _ h9 => h9) rfl (by decide +kernel) rfl rfl (Nat.le_of_ble_eq_true rfl) dX2_clear_21 (fun H locs hP hD hS => ?_)
  replace hP : va_P D vwCl (wX cI cJ adx adc adn adt gx ++ wCi cI adc ((0, gc.2.1, gc.2.2.1, gc.2.2.2.1, gc.2.2.2.2.1, 0, gc.2.2.2.2.2.2)) ++ wSw cI cJ cZ adn gn ++ wSw cI cJ cZ adt gt) H := hP
  replace hD : va_D A (wX cI cJ adx adc adn adt gx ++ wCi cI adc ((0, gc.2.1, gc.2.2.1, gc.2.2.2.1, gc.2.2.2.2.1, 0, gc.2.2.2.2.2.2)) ++ wSw cI cJ cZ adn gn ++ wSw cI cJ cZ adt gt) := hD
  refine lv_aload_n hx hb dX2_clear_24 rfl (lv_at hl 1 rfl) ?_
  replace hf := bdE hf
  obtain ⟨r1, hgr1, hf⟩ := hf
  refine xVw (va_runV (As := []) (rest := []) ⟨hx, hb, hml, hown, hts⟩ (c_X2_startAgain l D cI cJ cZ adx adc adn adt gx ((0, gc.2.1, gc.2.2.1, gc.2.2.2.1, gc.2.2.2.2.1, 0, gc.2.2.2.2.2.2)) gn gt r1 hgr1 _) (cwV 0 hts gX2_clear_X2_startAgain rfl rfl rfl (by decide +kernel) ⟨Nat.le_of_ble_eq_true rfl, Nat.le_of_ble_eq_true rfl⟩) ⟨PreW.blind, xRecv (q0 := 0) hK hP rfl rfl, (xPrew hK hP hD _)⟩ rfl rfl hl.1 rfl (lv_room (Nat.le_of_ble_eq_true rfl)) dX2_clear_25 ⟨Nat.le_of_ble_eq_true rfl, Nat.le_of_ble_eq_true rfl⟩) hD hS hA (fun H locs hP hD hS => ?_)
  replace hP : va_P D vwCl (wX cI cJ adx adc adn adt ((r1.1, r1.2.1, r1.2.2.1, gx.2.2.2)) ++ wCi cI adc ((0, gc.2.1, gc.2.2.1, gc.2.2.2.1, gc.2.2.2.2.1, 0, gc.2.2.2.2.2.2)) ++ wSw cI cJ cZ adn ((r1.2.2.2.1, r1.2.2.2.2.1, r1.2.2.2.2.2.1, r1.2.2.2.2.2.2.1, r1.2.2.2.2.2.2.2.1, r1.2.2.2.2.2.2.2.2, gn.2.2.2.2.2.2)) ++ wSw cI cJ cZ adt gt) H := hP
  replace hD : va_D A (wX cI cJ adx adc adn adt ((r1.1, r1.2.1, r1.2.2.1, gx.2.2.2)) ++ wCi cI adc ((0, gc.2.1, gc.2.2.1, gc.2.2.2.1, gc.2.2.2.2.1, 0, gc.2.2.2.2.2.2)) ++ wSw cI cJ cZ adn ((r1.2.2.2.1, r1.2.2.2.2.1, r1.2.2.2.2.2.1, r1.2.2.2.2.2.2.1, r1.2.2.2.2.2.2.2.1, r1.2.2.2.2.2.2.2.2, gn.2.2.2.2.2.2)) ++ wSw cI cJ cZ adt gt) := hD
  refine lv_iload_n hx hb dX2_clear_28 rfl (lv_at hl 0 rfl) ?_
  obtain rfl := Option.some.inj hf
  exact retI hx hb hr hlocks hP hD hS dX2_clear_29

def f_X2_reset (gx : Xo) (gc : Ci) (gn : Sw) : Option (Int32 × Int32 × Ar × Ar × Int64 × Int64 × Al × Al × Ar × Ar) :=
(f_X2_startAgain gx gc gn).bind (fun r1 =>
some (gx.1, r1.1, r1.2.1, r1.2.2.1, r1.2.2.2.1, r1.2.2.2.2.1, r1.2.2.2.2.2.1, r1.2.2.2.2.2.2.1, r1.2.2.2.2.2.2.2.1, r1.2.2.2.2.2.2.2.2))
abbrev rmX2_reset : Room := { frames := 2, cells := 0, slots := 0, locals := 43 }
set_option maxHeartbeats 40000000 in
set_option maxRecDepth 100000 in
theorem c_X2_reset (l : Launch) (D : va_G) (cI cJ cZ : ClassId) (adx : Nat → Nat) (adc : Nat → Nat) (adn : Nat → Nat) (adt : Nat → Nat) (gx : Xo) (gc : Ci) (gn : Sw) (gt : Sw) (o : (Int32 × Int32 × Ar × Ar × Int64 × Int64 × Al × Al × Ar × Ar)) (hf : f_X2_reset gx gc gn = some o) : CtI l yX2_reset wsX2_reset rmX2_reset D cI cJ cZ [.ref (adx 0)] (wX cI cJ adx adc adn adt gx ++ wCi cI adc gc ++ wSw cI cJ cZ adn gn ++ wSw cI cJ cZ adt gt) (wX cI cJ adx adc adn adt ((o.2.1, o.2.2.1, o.2.2.2.1, gx.2.2.2)) ++ wCi cI adc gc ++ wSw cI cJ cZ adn ((o.2.2.2.2.1, o.2.2.2.2.2.1, o.2.2.2.2.2.2.1, o.2.2.2.2.2.2.2.1, o.2.2.2.2.2.2.2.2.1, o.2.2.2.2.2.2.2.2.2, gn.2.2.2.2.2.2)) ++ wSw cI cJ cZ adt gt) o.1 := by
  intro sz
  refine Met.ofW (cc := cX2_reset) (maxL := 2) (ret := (some .int)) (by decide) rfl ?_
  intro p e s m args below meth c s₁ B hml hv
  obtain ⟨rfl, hsz, hP, hK, hD0⟩ := hv
  have hx := B.exec
  have hb := B.bytes
  have hr := B.returns
  have hts := atoms_spec (ws := wsX2_reset) B.pre
  have hown : s.vm.findClass RX2 = some m.cls := findClass_of_methodNamed B.named
  have hlocks := B.notSynchronized
  subst hsz
  have hD := hD0.self (sz := s.heap.size)
  clear hD0
  generalize hAe : va_A (wX cI cJ adx adc adn adt gx ++ wCi cI adc gc ++ wSw cI cJ cZ adn gn ++ wSw cI cJ cZ adt gt) s.heap.size = A at hD ⊢
  have hA : ∀ q : Nat, s.heap.size ≤ q → A q := fun q h => by rw [← hAe]; exact Or.inr h
  have hS : va_S A s.heap s.heap [] := va_S.rf
  have hinX2 : ∀ w ∈ wsX20, w ∈ wsX2_reset := by decide +kernel
  have hw0 : (Cond.fieldLink RX2 26 "SwingCircuits" "happened" "I").before _ s = true := hts _ (by decide +kernel)
  have hl := lv_entry ([.ref (adx 0)]) (n := 2) (Nat.le_of_ble_eq_true rfl)
  rw [lg_entry_eq]
  generalize (lg_sl ([.ref (adx 0)]) ++ List.replicate (2 - (lg_sl ([.ref (adx 0)])).length) Slot.unset).toArray = ls at hl ⊢
  replace hl : lv_has ls 2 [(0, .ref (adx 0))] := hl
  unfold f_X2_reset at hf
  refine lv_aload_n hx hb dX2_reset_0 rfl (lv_at hl 0 rfl) ?_
  refine va_get (D := D) (ci := 2) (v := .int gx.1) (C := RX2) (T := TX2) (N := 17) hx hb hts hinX2 hown hK.1 hP 0 rfl rfl 3 (by decide) hw0 (fun _ h9 => h9) rfl dX2_reset_1 ?_
  refine lv_istore_n (lv' := [(1, .int gx.1), (0, .ref (adx 0))]) hx hb dX2_reset_4 rfl hl (by decide) rfl (fun ls hl => ?_)
  refine lv_aload_n hx hb dX2_reset_5 rfl (lv_at hl 1 rfl) ?_
  replace hf := bdE hf
  obtain ⟨r1, hgr1, hf⟩ := hf
  refine xVw (va_runV (As := []) (rest := []) ⟨hx, hb, hml, hown, hts⟩ (c_X2_startAgain l D cI cJ cZ adx adc adn adt gx gc gn gt r1 hgr1 _) (cwV 0 hts gX2_reset_X2_startAgain rfl rfl rfl (by decide +kernel) ⟨Nat.le_of_ble_eq_true rfl, Nat.le_of_ble_eq_true rfl⟩) ⟨PreW.blind, xRecv (q0 := 0) hK hP rfl rfl, (xPrew hK hP hD _)⟩ rfl rfl hl.1 rfl (lv_room (Nat.le_of_ble_eq_true rfl)) dX2_reset_6 ⟨Nat.le_of_ble_eq_true rfl, Nat.le_of_ble_eq_true rfl⟩) hD hS hA (fun H locs hP hD hS => ?_)
  replace hP : va_P D vwCl (wX cI cJ adx adc adn adt ((r1.1, r1.2.1, r1.2.2.1, gx.2.2.2)) ++ wCi cI adc gc ++ wSw cI cJ cZ adn ((r1.2.2.2.1, r1.2.2.2.2.1, r1.2.2.2.2.2.1, r1.2.2.2.2.2.2.1, r1.2.2.2.2.2.2.2.1, r1.2.2.2.2.2.2.2.2, gn.2.2.2.2.2.2)) ++ wSw cI cJ cZ adt gt) H := hP
  replace hD : va_D A (wX cI cJ adx adc adn adt ((r1.1, r1.2.1, r1.2.2.1, gx.2.2.2)) ++ wCi cI adc gc ++ wSw cI cJ cZ adn ((r1.2.2.2.1, r1.2.2.2.2.1, r1.2.2.2.2.2.1, r1.2.2.2.2.2.2.1, r1.2.2.2.2.2.2.2.1, r1.2.2.2.2.2.2.2.2, gn.2.2.2.2.2.2)) ++ wSw cI cJ cZ adt gt) := hD
  refine lv_iload_n hx hb dX2_reset_9 rfl (lv_at hl 0 rfl) ?_
  obtain rfl := Option.some.inj hf
  exact retI hx hb hr hlocks hP hD hS dX2_reset_10

def f_X2_measure (gx : Xo) (p1 : Int32) (p2 : Int32) : Option (Int32 × Ar × Ar × Int32) :=
(f_X2_isTerm p1).bind (fun r1 =>
if (b2i r1) = 0 then
some ((-1), gx.2.2.2.2.2.2.2.2.2.1, gx.2.2.2.2.2.2.2.2.2.2.1, gx.2.2.2.2.2.2.2.2.2.2.2.1)
else
(f_X2_isTerm p2).bind (fun r3 =>
if (b2i r3) = 0 then
some ((-1), gx.2.2.2.2.2.2.2.2.2.1, gx.2.2.2.2.2.2.2.2.2.2.1, gx.2.2.2.2.2.2.2.2.2.2.2.1)
else
if gx.2.2.2.2.2.2.2.2.2.2.2.1 < 8 then
gd (ib gx.2.2.2.2.2.2.2.2.2.2.2.1 8) (
bnd (gx.2.2.2.2.2.2.2.2.2.2.2.1 + 1) (fun v7 =>
some (v7, upd gx.2.2.2.2.2.2.2.2.2.1 gx.2.2.2.2.2.2.2.2.2.2.2.1.toNatClampNeg p1, upd gx.2.2.2.2.2.2.2.2.2.2.1 gx.2.2.2.2.2.2.2.2.2.2.2.1.toNatClampNeg p2, v7)))
else
some ((-1), gx.2.2.2.2.2.2.2.2.2.1, gx.2.2.2.2.2.2.2.2.2.2.1, gx.2.2.2.2.2.2.2.2.2.2.2.1)))
abbrev rmX2_measure : Room := { frames := 1, cells := 0, slots := 0, locals := 20 }
set_option maxHeartbeats 40000000 in
set_option maxRecDepth 100000 in
theorem c_X2_measure (l : Launch) (D : va_G) (cI cJ cZ : ClassId) (adx : Nat → Nat) (adc : Nat → Nat) (adn : Nat → Nat) (adt : Nat → Nat) (gx : Xo) (gc : Ci) (gn : Sw) (gt : Sw) (p1 : Int32) (p2 : Int32) (o : (Int32 × Ar × Ar × Int32)) (hf : f_X2_measure gx p1 p2 = some o) : CtI l yX2_measure wsX2_measure rmX2_measure D cI cJ cZ [.ref (adx 0), .int p1, .int p2] (wX cI cJ adx adc adn adt gx ++ wCi cI adc gc ++ wSw cI cJ cZ adn gn ++ wSw cI cJ cZ adt gt) (wX cI cJ adx adc adn adt ((gx.1, gx.2.1, gx.2.2.1, gx.2.2.2.1, gx.2.2.2.2.1, gx.2.2.2.2.2.1, gx.2.2.2.2.2.2.1, gx.2.2.2.2.2.2.2.1, gx.2.2.2.2.2.2.2.2.1, o.2.1, o.2.2.1, o.2.2.2, gx.2.2.2.2.2.2.2.2.2.2.2.2)) ++ wCi cI adc gc ++ wSw cI cJ cZ adn gn ++ wSw cI cJ cZ adt gt) o.1 := by
  intro sz
  refine Met.ofW (cc := cX2_measure) (maxL := 3) (ret := (some .int)) (by decide) rfl ?_
  intro p e s m args below meth c s₁ B hml hv
  obtain ⟨rfl, hsz, hP, hK, hD0⟩ := hv
  have hx := B.exec
  have hb := B.bytes
  have hr := B.returns
  have hts := atoms_spec (ws := wsX2_measure) B.pre
  have hown : s.vm.findClass RX2 = some m.cls := findClass_of_methodNamed B.named
  have hlocks := B.notSynchronized
  subst hsz
  have hD := hD0.self (sz := s.heap.size)
  clear hD0
  generalize hAe : va_A (wX cI cJ adx adc adn adt gx ++ wCi cI adc gc ++ wSw cI cJ cZ adn gn ++ wSw cI cJ cZ adt gt) s.heap.size = A at hD ⊢
  have hA : ∀ q : Nat, s.heap.size ≤ q → A q := fun q h => by rw [← hAe]; exact Or.inr h
  have hS : va_S A s.heap s.heap [] := va_S.rf
  have hinX2 : ∀ w ∈ wsX20, w ∈ wsX2_measure := by decide +kernel
  have hw0 : (Cond.fieldLink RX2 63 "SwingCircuits" "measures" "I").before _ s = true := hts _ (by decide +kernel)
  have hw1 : (Cond.fieldLink RX2 57 "SwingCircuits" "measuredNum" "[I").before _ s = true := hts _ (by decide +kernel)
  have hw2 : (Cond.fieldLink RX2 60 "SwingCircuits" "measuredDen" "[I").before _ s = true := hts _ (by decide +kernel)
  have hl := lv_entry ([.ref (adx 0), .int p1, .int p2]) (n := 3) (Nat.le_of_ble_eq_true rfl)
  rw [lg_entry_eq]
  generalize (lg_sl ([.ref (adx 0), .int p1, .int p2]) ++ List.replicate (3 - (lg_sl ([.ref (adx 0), .int p1, .int p2])).length) Slot.unset).toArray = ls at hl ⊢
  replace hl : lv_has ls 3 [(0, .ref (adx 0)), (1, .int p1), (2, .int p2)] := hl
  unfold f_X2_measure at hf
  refine lv_iload_n hx hb dX2_measure_0 rfl (lv_at hl 1 rfl) ?_
  replace hf := bdE hf
  obtain ⟨r1, hgr1, hf⟩ := hf
  refine xI0 (va_runS (As := [.int p1]) (rest := []) ⟨hx, hb, hml, hown, hts⟩ (c_X2_isTerm l D cI cJ cZ p1 r1 hgr1 _) (va_cwS 1 hts gX2_measure_X2_isTerm rfl rfl rfl (by decide +kernel) ⟨Nat.le_of_ble_eq_true rfl, Nat.le_of_ble_eq_true rfl⟩) ⟨PreW.blind, (xPre0 hK _)⟩ rfl rfl hl.1 rfl (lv_room (Nat.le_of_ble_eq_true rfl)) dX2_measure_1 ⟨Nat.le_of_ble_eq_true rfl, Nat.le_of_ble_eq_true rfl⟩) hP hS hA (fun H locs hP hS => ?_)
  refine lv_if_eq (tgt := 23) hx hb dX2_measure_4 (by decide) (fun q2 => ?_) (fun q2 => ?_)
  · replace hf := ifT q2 hf
    refine lv_iconst (v := (-1)) hx hb dX2_measure_23 (by decide) ?_
    obtain rfl := Option.some.inj hf
    exact retI hx hb hr hlocks hP hD hS dX2_measure_24
  · replace hf := ifF q2 hf
    refine lv_iload_n hx hb dX2_measure_7 rfl (lv_at hl 2 rfl) ?_
    replace hf := bdE hf
    obtain ⟨r3, hgr3, hf⟩ := hf
    refine xI0 (va_runS (As := [.int p2]) (rest := []) ⟨hx, hb, hml, hown, hts⟩ (c_X2_isTerm l D cI cJ cZ p2 r3 hgr3 _) (va_cwS 1 hts gX2_measure_X2_isTerm rfl rfl rfl (by decide +kernel) ⟨Nat.le_of_ble_eq_true rfl, Nat.le_of_ble_eq_true rfl⟩) ⟨PreW.blind, (xPre0 hK _)⟩ rfl rfl hl.1 rfl (lv_room (Nat.le_of_ble_eq_true rfl)) dX2_measure_8 ⟨Nat.le_of_ble_eq_true rfl, Nat.le_of_ble_eq_true rfl⟩) hP hS hA (fun H locs hP hS => ?_)
    refine lv_if_eq (tgt := 23) hx hb dX2_measure_11 (by decide) (fun q4 => ?_) (fun q4 => ?_)
    · replace hf := ifT q4 hf
      refine lv_iconst (v := (-1)) hx hb dX2_measure_23 (by decide) ?_
      obtain rfl := Option.some.inj hf
      exact retI hx hb hr hlocks hP hD hS dX2_measure_24
    · replace hf := ifF q4 hf
      refine lv_aload_n hx hb dX2_measure_14 rfl (lv_at hl 0 rfl) ?_
      refine va_get (D := D) (ci := 2) (v := .int gx.2.2.2.2.2.2.2.2.2.2.2.1) (C := RX2) (T := TX2) (N := 17) hx hb hts hinX2 hown hK.1 hP 0 rfl rfl 14 (by decide) hw0 (fun _ h9 => h9) rfl dX2_measure_15 ?_
      refine lv_bipush (v := 8) hx hb dX2_measure_18 (by decide) ?_
      refine lv_icmp_lt (tgt := 25) hx hb dX2_measure_20 (by decide) (fun q5 => ?_) (fun q5 => ?_)
      · replace hf := ifT q5 hf
        refine lv_aload_n hx hb dX2_measure_25 rfl (lv_at hl 0 rfl) ?_
        refine va_get (D := D) (ci := 2) (v := .ref (adx 7)) (C := RX2) (T := TX2) (N := 17) hx hb hts hinX2 hown hK.1 hP 0 rfl rfl 12 (by decide) hw1 (fun _ h9 => h9) rfl dX2_measure_26 ?_
        refine lv_aload_n hx hb dX2_measure_29 rfl (lv_at hl 0 rfl) ?_
        refine va_get (D := D) (ci := 2) (v := .int gx.2.2.2.2.2.2.2.2.2.2.2.1) (C := RX2) (T := TX2) (N := 17) hx hb hts hinX2 hown hK.1 hP 0 rfl rfl 14 (by decide) hw0 (fun _ h9 => h9) rfl dX2_measure_30 ?_
        refine lv_iload_n hx hb dX2_measure_33 rfl (lv_at hl 1 rfl) ?_
        replace hf := gdE hf
        obtain ⟨h6, hf⟩ := hf
        refine va_iast hx hb hK.1 hP hD hS 7 0 rfl rfl (ib_in h6) dX2_measure_34 (fun H locs hP hD hS => ?_)
        replace hP : va_P D vwCl (wX cI cJ adx adc adn adt ((gx.1, gx.2.1, gx.2.2.1, gx.2.2.2.1, gx.2.2.2.2.1, gx.2.2.2.2.2.1, gx.2.2.2.2.2.2.1, gx.2.2.2.2.2.2.2.1, gx.2.2.2.2.2.2.2.2.1, upd gx.2.2.2.2.2.2.2.2.2.1 gx.2.2.2.2.2.2.2.2.2.2.2.1.toNatClampNeg p1, gx.2.2.2.2.2.2.2.2.2.2)) ++ wCi cI adc gc ++ wSw cI cJ cZ adn gn ++ wSw cI cJ cZ adt gt) H := hP
        replace hD : va_D A (wX cI cJ adx adc adn adt ((gx.1, gx.2.1, gx.2.2.1, gx.2.2.2.1, gx.2.2.2.2.1, gx.2.2.2.2.2.1, gx.2.2.2.2.2.2.1, gx.2.2.2.2.2.2.2.1, gx.2.2.2.2.2.2.2.2.1, upd gx.2.2.2.2.2.2.2.2.2.1 gx.2.2.2.2.2.2.2.2.2.2.2.1.toNatClampNeg p1, gx.2.2.2.2.2.2.2.2.2.2)) ++ wCi cI adc gc ++ wSw cI cJ cZ adn gn ++ wSw cI cJ cZ adt gt) := hD
        refine lv_aload_n hx hb dX2_measure_35 rfl (lv_at hl 0 rfl) ?_
        refine va_get (D := D) (ci := 2) (v := .ref (adx 8)) (C := RX2) (T := TX2) (N := 17) hx hb hts hinX2 hown hK.1 hP 0 rfl rfl 13 (by decide) hw2 (fun _ h9 => h9) rfl dX2_measure_36 ?_
        refine lv_aload_n hx hb dX2_measure_39 rfl (lv_at hl 0 rfl) ?_
        refine va_get (D := D) (ci := 2) (v := .int gx.2.2.2.2.2.2.2.2.2.2.2.1) (C := RX2) (T := TX2) (N := 17) hx hb hts hinX2 hown hK.1 hP 0 rfl rfl 14 (by decide) hw0 (fun _ h9 => h9) rfl dX2_measure_40 ?_
        refine lv_iload_n hx hb dX2_measure_43 rfl (lv_at hl 2 rfl) ?_
        refine va_iast hx hb hK.1 hP hD hS 8 0 rfl rfl (ib_in h6) dX2_measure_44 (fun H locs hP hD hS => ?_)
        replace hP : va_P D vwCl (wX cI cJ adx adc adn adt ((gx.1, gx.2.1, gx.2.2.1, gx.2.2.2.1, gx.2.2.2.2.1, gx.2.2.2.2.2.1, gx.2.2.2.2.2.2.1, gx.2.2.2.2.2.2.2.1, gx.2.2.2.2.2.2.2.2.1, upd gx.2.2.2.2.2.2.2.2.2.1 gx.2.2.2.2.2.2.2.2.2.2.2.1.toNatClampNeg p1, upd gx.2.2.2.2.2.2.2.2.2.2.1 gx.2.2.2.2.2.2.2.2.2.2.2.1.toNatClampNeg p2, gx.2.2.2.2.2.2.2.2.2.2.2)) ++ wCi cI adc gc ++ wSw cI cJ cZ adn gn ++ wSw cI cJ cZ adt gt) H := hP
        replace hD : va_D A (wX cI cJ adx adc adn adt ((gx.1, gx.2.1, gx.2.2.1, gx.2.2.2.1, gx.2.2.2.2.1, gx.2.2.2.2.2.1, gx.2.2.2.2.2.2.1, gx.2.2.2.2.2.2.2.1, gx.2.2.2.2.2.2.2.2.1, upd gx.2.2.2.2.2.2.2.2.2.1 gx.2.2.2.2.2.2.2.2.2.2.2.1.toNatClampNeg p1, upd gx.2.2.2.2.2.2.2.2.2.2.1 gx.2.2.2.2.2.2.2.2.2.2.2.1.toNatClampNeg p2, gx.2.2.2.2.2.2.2.2.2.2.2)) ++ wCi cI adc gc ++ wSw cI cJ cZ adn gn ++ wSw cI cJ cZ adt gt) := hD
        refine lv_aload_n hx hb dX2_measure_45 rfl (lv_at hl 0 rfl) ?_
        refine lv_dup hx hb dX2_measure_46 rfl ?_
        refine va_get (D := D) (ci := 2) (v := .int gx.2.2.2.2.2.2.2.2.2.2.2.1) (C := RX2) (T := TX2) (N := 17) hx hb hts hinX2 hown hK.1 hP 0 rfl rfl 14 (by decide) hw0 (fun _ h9 => h9) rfl dX2_measure_47 ?_
        refine lv_iconst (v := 1) hx hb dX2_measure_50 (by decide) ?_
        refine lv_iadd hx hb dX2_measure_51 ?_
        refine lv_topi (fun v7 ev7 => ?_)
        replace hf := bndE hf ev7
        refine va_put (D := D) (ci := 2) (v := .int v7) (ty := .int) (C := RX2) (T := TX2) (N := 17) hx hb hts hinX2 tyX2 tyX2_ok nmX2 hown hK.1 hP hD hS 0 rfl rfl 14 (by decide) hw0 (fun _ h9 => h9) rfl (by decide +kernel) rfl rfl (Nat.le_of_ble_eq_true rfl) dX2_measure_52 (fun H locs hP hD hS => ?_)
        replace hP : va_P D vwCl (wX cI cJ adx adc adn adt ((gx.1, gx.2.1, gx.2.2.1, gx.2.2.2.1, gx.2.2.2.2.1, gx.2.2.2.2.2.1, gx.2.2.2.2.2.2.1, gx.2.2.2.2.2.2.2.1, gx.2.2.2.2.2.2.2.2.1, upd gx.2.2.2.2.2.2.2.2.2.1 gx.2.2.2.2.2.2.2.2.2.2.2.1.toNatClampNeg p1, upd gx.2.2.2.2.2.2.2.2.2.2.1 gx.2.2.2.2.2.2.2.2.2.2.2.1.toNatClampNeg p2, v7, gx.2.2.2.2.2.2.2.2.2.2.2.2)) ++ wCi cI adc gc ++ wSw cI cJ cZ adn gn ++ wSw cI cJ cZ adt gt) H := hP
        replace hD : va_D A (wX cI cJ adx adc adn adt ((gx.1, gx.2.1, gx.2.2.1, gx.2.2.2.1, gx.2.2.2.2.1, gx.2.2.2.2.2.1, gx.2.2.2.2.2.2.1, gx.2.2.2.2.2.2.2.1, gx.2.2.2.2.2.2.2.2.1, upd gx.2.2.2.2.2.2.2.2.2.1 gx.2.2.2.2.2.2.2.2.2.2.2.1.toNatClampNeg p1, upd gx.2.2.2.2.2.2.2.2.2.2.1 gx.2.2.2.2.2.2.2.2.2.2.2.1.toNatClampNeg p2, v7, gx.2.2.2.2.2.2.2.2.2.2.2.2)) ++ wCi cI adc gc ++ wSw cI cJ cZ adn gn ++ wSw cI cJ cZ adt gt) := hD
        refine lv_aload_n hx hb dX2_measure_55 rfl (lv_at hl 0 rfl) ?_
        refine va_get (D := D) (ci := 2) (v := .int v7) (C := RX2) (T := TX2) (N := 17) hx hb hts hinX2 hown hK.1 hP 0 rfl rfl 14 (by decide) hw0 (fun _ h9 => h9) rfl dX2_measure_56 ?_
        obtain rfl := Option.some.inj hf
        exact retI hx hb hr hlocks hP hD hS dX2_measure_59
      · replace hf := ifF q5 hf
        refine lv_iconst (v := (-1)) hx hb dX2_measure_23 (by decide) ?_
        obtain rfl := Option.some.inj hf
        exact retI hx hb hr hlocks hP hD hS dX2_measure_24

def f_X2_drawer (gx : Xo) (p1 : Int32) : Option (Int32 × Ar × Int32) :=
(f_X2_isRate p1).bind (fun r1 =>
if (b2i r1) = 0 then
some ((-1), gx.2.2.2.2.2.2.2.1, gx.2.2.2.2.2.2.2.2.1)
else
(f_X2_isStocked gx p1).bind (fun r3 =>
if ¬ (b2i r3) = 0 then
some ((-1), gx.2.2.2.2.2.2.2.1, gx.2.2.2.2.2.2.2.2.1)
else
if gx.2.2.2.2.2.2.2.2.1 < 10 then
gd (ib gx.2.2.2.2.2.2.2.2.1 10) (
bnd (gx.2.2.2.2.2.2.2.2.1 + 1) (fun v7 =>
some (v7, upd gx.2.2.2.2.2.2.2.1 gx.2.2.2.2.2.2.2.2.1.toNatClampNeg p1, v7)))
else
some ((-1), gx.2.2.2.2.2.2.2.1, gx.2.2.2.2.2.2.2.2.1)))
abbrev rmX2_drawer : Room := { frames := 1, cells := 0, slots := 0, locals := 22 }
set_option maxHeartbeats 40000000 in
set_option maxRecDepth 100000 in
theorem c_X2_drawer (l : Launch) (D : va_G) (cI cJ cZ : ClassId) (adx : Nat → Nat) (adc : Nat → Nat) (adn : Nat → Nat) (adt : Nat → Nat) (gx : Xo) (gc : Ci) (gn : Sw) (gt : Sw) (p1 : Int32) (o : (Int32 × Ar × Int32)) (hf : f_X2_drawer gx p1 = some o) : CtI l yX2_drawer wsX2_drawer rmX2_drawer D cI cJ cZ [.ref (adx 0), .int p1] (wX cI cJ adx adc adn adt gx ++ wCi cI adc gc ++ wSw cI cJ cZ adn gn ++ wSw cI cJ cZ adt gt) (wX cI cJ adx adc adn adt ((gx.1, gx.2.1, gx.2.2.1, gx.2.2.2.1, gx.2.2.2.2.1, gx.2.2.2.2.2.1, gx.2.2.2.2.2.2.1, o.2.1, o.2.2, gx.2.2.2.2.2.2.2.2.2)) ++ wCi cI adc gc ++ wSw cI cJ cZ adn gn ++ wSw cI cJ cZ adt gt) o.1 := by
  intro sz
  refine Met.ofW (cc := cX2_drawer) (maxL := 2) (ret := (some .int)) (by decide) rfl ?_
  intro p e s m args below meth c s₁ B hml hv
  obtain ⟨rfl, hsz, hP, hK, hD0⟩ := hv
  have hx := B.exec
  have hb := B.bytes
  have hr := B.returns
  have hts := atoms_spec (ws := wsX2_drawer) B.pre
  have hown : s.vm.findClass RX2 = some m.cls := findClass_of_methodNamed B.named
  have hlocks := B.notSynchronized
  subst hsz
  have hD := hD0.self (sz := s.heap.size)
  clear hD0
  generalize hAe : va_A (wX cI cJ adx adc adn adt gx ++ wCi cI adc gc ++ wSw cI cJ cZ adn gn ++ wSw cI cJ cZ adt gt) s.heap.size = A at hD ⊢
  have hA : ∀ q : Nat, s.heap.size ≤ q → A q := fun q h => by rw [← hAe]; exact Or.inr h
  have hS : va_S A s.heap s.heap [] := va_S.rf
  have hinX2 : ∀ w ∈ wsX20, w ∈ wsX2_drawer := by decide +kernel
  have hw0 : (Cond.fieldLink RX2 54 "SwingCircuits" "stocked" "I").before _ s = true := hts _ (by decide +kernel)
  have hw1 : (Cond.fieldLink RX2 51 "SwingCircuits" "stock" "[I").before _ s = true := hts _ (by decide +kernel)
  have hl := lv_entry ([.ref (adx 0), .int p1]) (n := 2) (Nat.le_of_ble_eq_true rfl)
  rw [lg_entry_eq]
  generalize (lg_sl ([.ref (adx 0), .int p1]) ++ List.replicate (2 - (lg_sl ([.ref (adx 0), .int p1])).length) Slot.unset).toArray = ls at hl ⊢
  replace hl : lv_has ls 2 [(0, .ref (adx 0)), (1, .int p1)] := hl
  unfold f_X2_drawer at hf
  refine lv_iload_n hx hb dX2_drawer_0 rfl (lv_at hl 1 rfl) ?_
  replace hf := bdE hf
  obtain ⟨r1, hgr1, hf⟩ := hf
  refine xI0 (va_runS (As := [.int p1]) (rest := []) ⟨hx, hb, hml, hown, hts⟩ (c_X2_isRate l D cI cJ cZ p1 r1 hgr1 _) (va_cwS 1 hts gX2_drawer_X2_isRate rfl rfl rfl (by decide +kernel) ⟨Nat.le_of_ble_eq_true rfl, Nat.le_of_ble_eq_true rfl⟩) ⟨PreW.blind, (xPre0 hK _)⟩ rfl rfl hl.1 rfl (lv_room (Nat.le_of_ble_eq_true rfl)) dX2_drawer_1 ⟨Nat.le_of_ble_eq_true rfl, Nat.le_of_ble_eq_true rfl⟩) hP hS hA (fun H locs hP hS => ?_)
  refine lv_if_eq (tgt := 24) hx hb dX2_drawer_4 (by decide) (fun q2 => ?_) (fun q2 => ?_)
  · replace hf := ifT q2 hf
    refine lv_iconst (v := (-1)) hx hb dX2_drawer_24 (by decide) ?_
    obtain rfl := Option.some.inj hf
    exact retI hx hb hr hlocks hP hD hS dX2_drawer_25
  · replace hf := ifF q2 hf
    refine lv_aload_n hx hb dX2_drawer_7 rfl (lv_at hl 0 rfl) ?_
    refine lv_iload_n hx hb dX2_drawer_8 rfl (lv_at hl 1 rfl) ?_
    replace hf := bdE hf
    obtain ⟨r3, hgr3, hf⟩ := hf
    refine xIw (va_runV (As := [.int p1]) (rest := []) ⟨hx, hb, hml, hown, hts⟩ (c_X2_isStocked l D cI cJ cZ adx adc adn adt gx gc gn gt p1 r3 hgr3 _) (cwV 1 hts gX2_drawer_X2_isStocked rfl rfl rfl (by decide +kernel) ⟨Nat.le_of_ble_eq_true rfl, Nat.le_of_ble_eq_true rfl⟩) ⟨PreW.blind, xRecv (q0 := 0) hK hP rfl rfl, (xPrew hK hP hD _)⟩ rfl rfl hl.1 rfl (lv_room (Nat.le_of_ble_eq_true rfl)) dX2_drawer_9 ⟨Nat.le_of_ble_eq_true rfl, Nat.le_of_ble_eq_true rfl⟩) hD hS hA (fun H locs hP hD hS => ?_)
    replace hP : va_P D vwCl (wX cI cJ adx adc adn adt gx ++ wCi cI adc gc ++ wSw cI cJ cZ adn gn ++ wSw cI cJ cZ adt gt) H := hP
    replace hD : va_D A (wX cI cJ adx adc adn adt gx ++ wCi cI adc gc ++ wSw cI cJ cZ adn gn ++ wSw cI cJ cZ adt gt) := hD
    refine lv_if_ne (tgt := 24) hx hb dX2_drawer_12 (by decide) (fun q4 => ?_) (fun q4 => ?_)
    · replace hf := ifT q4 hf
      refine lv_iconst (v := (-1)) hx hb dX2_drawer_24 (by decide) ?_
      obtain rfl := Option.some.inj hf
      exact retI hx hb hr hlocks hP hD hS dX2_drawer_25
    · replace hf := ifN q4 hf
      refine lv_aload_n hx hb dX2_drawer_15 rfl (lv_at hl 0 rfl) ?_
      refine va_get (D := D) (ci := 2) (v := .int gx.2.2.2.2.2.2.2.2.1) (C := RX2) (T := TX2) (N := 17) hx hb hts hinX2 hown hK.1 hP 0 rfl rfl 11 (by decide) hw0 (fun _ h9 => h9) rfl dX2_drawer_16 ?_
      refine lv_bipush (v := 10) hx hb dX2_drawer_19 (by decide) ?_
      refine lv_icmp_lt (tgt := 26) hx hb dX2_drawer_21 (by decide) (fun q5 => ?_) (fun q5 => ?_)
      · replace hf := ifT q5 hf
        refine lv_aload_n hx hb dX2_drawer_26 rfl (lv_at hl 0 rfl) ?_
        refine va_get (D := D) (ci := 2) (v := .ref (adx 6)) (C := RX2) (T := TX2) (N := 17) hx hb hts hinX2 hown hK.1 hP 0 rfl rfl 10 (by decide) hw1 (fun _ h9 => h9) rfl dX2_drawer_27 ?_
        refine lv_aload_n hx hb dX2_drawer_30 rfl (lv_at hl 0 rfl) ?_
        refine va_get (D := D) (ci := 2) (v := .int gx.2.2.2.2.2.2.2.2.1) (C := RX2) (T := TX2) (N := 17) hx hb hts hinX2 hown hK.1 hP 0 rfl rfl 11 (by decide) hw0 (fun _ h9 => h9) rfl dX2_drawer_31 ?_
        refine lv_iload_n hx hb dX2_drawer_34 rfl (lv_at hl 1 rfl) ?_
        replace hf := gdE hf
        obtain ⟨h6, hf⟩ := hf
        refine va_iast hx hb hK.1 hP hD hS 6 0 rfl rfl (ib_in h6) dX2_drawer_35 (fun H locs hP hD hS => ?_)
        replace hP : va_P D vwCl (wX cI cJ adx adc adn adt ((gx.1, gx.2.1, gx.2.2.1, gx.2.2.2.1, gx.2.2.2.2.1, gx.2.2.2.2.2.1, gx.2.2.2.2.2.2.1, upd gx.2.2.2.2.2.2.2.1 gx.2.2.2.2.2.2.2.2.1.toNatClampNeg p1, gx.2.2.2.2.2.2.2.2)) ++ wCi cI adc gc ++ wSw cI cJ cZ adn gn ++ wSw cI cJ cZ adt gt) H := hP
        replace hD : va_D A (wX cI cJ adx adc adn adt ((gx.1, gx.2.1, gx.2.2.1, gx.2.2.2.1, gx.2.2.2.2.1, gx.2.2.2.2.2.1, gx.2.2.2.2.2.2.1, upd gx.2.2.2.2.2.2.2.1 gx.2.2.2.2.2.2.2.2.1.toNatClampNeg p1, gx.2.2.2.2.2.2.2.2)) ++ wCi cI adc gc ++ wSw cI cJ cZ adn gn ++ wSw cI cJ cZ adt gt) := hD
        refine lv_aload_n hx hb dX2_drawer_36 rfl (lv_at hl 0 rfl) ?_
        refine lv_dup hx hb dX2_drawer_37 rfl ?_
        refine va_get (D := D) (ci := 2) (v := .int gx.2.2.2.2.2.2.2.2.1) (C := RX2) (T := TX2) (N := 17) hx hb hts hinX2 hown hK.1 hP 0 rfl rfl 11 (by decide) hw0 (fun _ h9 => h9) rfl dX2_drawer_38 ?_
        refine lv_iconst (v := 1) hx hb dX2_drawer_41 (by decide) ?_
        refine lv_iadd hx hb dX2_drawer_42 ?_
        refine lv_topi (fun v7 ev7 => ?_)
        replace hf := bndE hf ev7
        refine va_put (D := D) (ci := 2) (v := .int v7) (ty := .int) (C := RX2) (T := TX2) (N := 17) hx hb hts hinX2 tyX2 tyX2_ok nmX2 hown hK.1 hP hD hS 0 rfl rfl 11 (by decide) hw0 (fun _ h9 => h9) rfl (by decide +kernel) rfl rfl (Nat.le_of_ble_eq_true rfl) dX2_drawer_43 (fun H locs hP hD hS => ?_)
        replace hP : va_P D vwCl (wX cI cJ adx adc adn adt ((gx.1, gx.2.1, gx.2.2.1, gx.2.2.2.1, gx.2.2.2.2.1, gx.2.2.2.2.2.1, gx.2.2.2.2.2.2.1, upd gx.2.2.2.2.2.2.2.1 gx.2.2.2.2.2.2.2.2.1.toNatClampNeg p1, v7, gx.2.2.2.2.2.2.2.2.2)) ++ wCi cI adc gc ++ wSw cI cJ cZ adn gn ++ wSw cI cJ cZ adt gt) H := hP
        replace hD : va_D A (wX cI cJ adx adc adn adt ((gx.1, gx.2.1, gx.2.2.1, gx.2.2.2.1, gx.2.2.2.2.1, gx.2.2.2.2.2.1, gx.2.2.2.2.2.2.1, upd gx.2.2.2.2.2.2.2.1 gx.2.2.2.2.2.2.2.2.1.toNatClampNeg p1, v7, gx.2.2.2.2.2.2.2.2.2)) ++ wCi cI adc gc ++ wSw cI cJ cZ adn gn ++ wSw cI cJ cZ adt gt) := hD
        refine lv_aload_n hx hb dX2_drawer_46 rfl (lv_at hl 0 rfl) ?_
        refine va_get (D := D) (ci := 2) (v := .int v7) (C := RX2) (T := TX2) (N := 17) hx hb hts hinX2 hown hK.1 hP 0 rfl rfl 11 (by decide) hw0 (fun _ h9 => h9) rfl dX2_drawer_47 ?_
        obtain rfl := Option.some.inj hf
        exact retI hx hb hr hlocks hP hD hS dX2_drawer_50
      · replace hf := ifF q5 hf
        refine lv_iconst (v := (-1)) hx hb dX2_drawer_24 (by decide) ?_
        obtain rfl := Option.some.inj hf
        exact retI hx hb hr hlocks hP hD hS dX2_drawer_25

def f_X2_count (gx : Xo) (gc : Ci) (gn : Sw) (gt : Sw) (p1 : Int32) : Option (Int32 × Int64 × Int64 × Al × Al × Ar × Ar × Int32 × Int32 × Int64 × Int64) :=
if p1 = 0 then
some (gc.1, gt.1, gt.2.1, gt.2.2.1, gt.2.2.2.1, gt.2.2.2.2.1, gt.2.2.2.2.2.1, gt.2.2.2.2.2.2.1, gt.2.2.2.2.2.2.2.1, gt.2.2.2.2.2.2.2.2.1, gt.2.2.2.2.2.2.2.2.2)
else
if p1 = 1 then
some (gc.2.2.2.2.2.1, gt.1, gt.2.1, gt.2.2.1, gt.2.2.2.1, gt.2.2.2.2.1, gt.2.2.2.2.2.1, gt.2.2.2.2.2.2.1, gt.2.2.2.2.2.2.2.1, gt.2.2.2.2.2.2.2.2.1, gt.2.2.2.2.2.2.2.2.2)
else
if p1 = 2 then
some (gx.1, gt.1, gt.2.1, gt.2.2.1, gt.2.2.2.1, gt.2.2.2.2.1, gt.2.2.2.2.2.1, gt.2.2.2.2.2.2.1, gt.2.2.2.2.2.2.2.1, gt.2.2.2.2.2.2.2.2.1, gt.2.2.2.2.2.2.2.2.2)
else
if p1 = 3 then
some (gn.1.toInt32, gt.1, gt.2.1, gt.2.2.1, gt.2.2.2.1, gt.2.2.2.2.1, gt.2.2.2.2.2.1, gt.2.2.2.2.2.2.1, gt.2.2.2.2.2.2.2.1, gt.2.2.2.2.2.2.2.2.1, gt.2.2.2.2.2.2.2.2.2)
else
if p1 = 4 then
some (gn.2.1.toInt32, gt.1, gt.2.1, gt.2.2.1, gt.2.2.2.1, gt.2.2.2.2.1, gt.2.2.2.2.2.1, gt.2.2.2.2.2.2.1, gt.2.2.2.2.2.2.2.1, gt.2.2.2.2.2.2.2.2.1, gt.2.2.2.2.2.2.2.2.2)
else
if p1 = 5 then
(f_X2_isNextSpent gc gn gt).bind (fun r7 =>
if (b2i r7.1) = 0 then
some (0, r7.2.1, r7.2.2.1, r7.2.2.2.1, r7.2.2.2.2.1, r7.2.2.2.2.2.1, r7.2.2.2.2.2.2.1, r7.2.2.2.2.2.2.2.1, r7.2.2.2.2.2.2.2.2.1, r7.2.2.2.2.2.2.2.2.2.1, r7.2.2.2.2.2.2.2.2.2.2)
else
some (1, r7.2.1, r7.2.2.1, r7.2.2.2.1, r7.2.2.2.2.1, r7.2.2.2.2.2.1, r7.2.2.2.2.2.2.1, r7.2.2.2.2.2.2.2.1, r7.2.2.2.2.2.2.2.2.1, r7.2.2.2.2.2.2.2.2.2.1, r7.2.2.2.2.2.2.2.2.2.2))
else
if p1 = 6 then
some (gx.2.2.2.2.2.2.2.2.1, gt.1, gt.2.1, gt.2.2.1, gt.2.2.2.1, gt.2.2.2.2.1, gt.2.2.2.2.2.1, gt.2.2.2.2.2.2.1, gt.2.2.2.2.2.2.2.1, gt.2.2.2.2.2.2.2.2.1, gt.2.2.2.2.2.2.2.2.2)
else
if p1 = 7 then
some (gx.2.2.2.2.2.2.2.2.2.2.2.1, gt.1, gt.2.1, gt.2.2.1, gt.2.2.2.1, gt.2.2.2.2.1, gt.2.2.2.2.2.1, gt.2.2.2.2.2.2.1, gt.2.2.2.2.2.2.2.1, gt.2.2.2.2.2.2.2.2.1, gt.2.2.2.2.2.2.2.2.2)
else
some ((-1), gt.1, gt.2.1, gt.2.2.1, gt.2.2.2.1, gt.2.2.2.2.1, gt.2.2.2.2.2.1, gt.2.2.2.2.2.2.1, gt.2.2.2.2.2.2.2.1, gt.2.2.2.2.2.2.2.2.1, gt.2.2.2.2.2.2.2.2.2)
abbrev rmX2_count : Room := { frames := 5, cells := 0, slots := 0, locals := 108 }
set_option maxHeartbeats 40000000 in
set_option maxRecDepth 100000 in
theorem c_X2_count (l : Launch) (D : va_G) (cI cJ cZ : ClassId) (adx : Nat → Nat) (adc : Nat → Nat) (adn : Nat → Nat) (adt : Nat → Nat) (gx : Xo) (gc : Ci) (gn : Sw) (gt : Sw) (p1 : Int32) (o : (Int32 × Int64 × Int64 × Al × Al × Ar × Ar × Int32 × Int32 × Int64 × Int64)) (hf : f_X2_count gx gc gn gt p1 = some o) : CtI l yX2_count wsX2_count rmX2_count D cI cJ cZ [.ref (adx 0), .int p1] (wX cI cJ adx adc adn adt gx ++ wCi cI adc gc ++ wSw cI cJ cZ adn gn ++ wSw cI cJ cZ adt gt) (wX cI cJ adx adc adn adt gx ++ wCi cI adc gc ++ wSw cI cJ cZ adn gn ++ wSw cI cJ cZ adt o.2) o.1 := by
  intro sz
  refine Met.ofW (cc := cX2_count) (maxL := 2) (ret := (some .int)) (by decide) rfl ?_
  intro p e s m args below meth c s₁ B hml hv
  obtain ⟨rfl, hsz, hP, hK, hD0⟩ := hv
  have hx := B.exec
  have hb := B.bytes
  have hr := B.returns
  have hts := atoms_spec (ws := wsX2_count) B.pre
  have hown : s.vm.findClass RX2 = some m.cls := findClass_of_methodNamed B.named
  have hlocks := B.notSynchronized
  subst hsz
  have hD := hD0.self (sz := s.heap.size)
  clear hD0
  generalize hAe : va_A (wX cI cJ adx adc adn adt gx ++ wCi cI adc gc ++ wSw cI cJ cZ adn gn ++ wSw cI cJ cZ adt gt) s.heap.size = A at hD ⊢
  have hA : ∀ q : Nat, s.heap.size ≤ q → A q := fun q h => by rw [← hAe]; exact Or.inr h
  have hS : va_S A s.heap s.heap [] := va_S.rf
  have hinX0 : ∀ w ∈ wsX00, w ∈ wsX2_count := by decide +kernel
  have hinX1 : ∀ w ∈ wsX10, w ∈ wsX2_count := by decide +kernel
  have hinX2 : ∀ w ∈ wsX20, w ∈ wsX2_count := by decide +kernel
  have hw0 : (Cond.fieldLink RX2 63 "SwingCircuits" "measures" "I").before _ s = true := hts _ (by decide +kernel)
  have hw1 : (Cond.fieldLink RX2 54 "SwingCircuits" "stocked" "I").before _ s = true := hts _ (by decide +kernel)
  have hw2 : (Cond.fieldLink RX2 19 "SwingCircuits" "now" "LSwingCircuits$Swing;").before _ s = true := hts _ (by decide +kernel)
  have hw3 : (Cond.fieldLink RX2 141 "SwingCircuits$Swing" "timeDen" "J").before _ s = true := hts _ (by decide +kernel)
  have hw4 : (Cond.fieldLink RX2 137 "SwingCircuits$Swing" "timeNum" "J").before _ s = true := hts _ (by decide +kernel)
  have hw5 : (Cond.fieldLink RX2 26 "SwingCircuits" "happened" "I").before _ s = true := hts _ (by decide +kernel)
  have hw6 : (Cond.fieldLink RX2 12 "SwingCircuits" "circuit" "LSwingCircuits$Circuit;").before _ s = true := hts _ (by decide +kernel)
  have hw7 : (Cond.fieldLink RX2 101 "SwingCircuits$Circuit" "links" "I").before _ s = true := hts _ (by decide +kernel)
  have hw8 : (Cond.fieldLink RX2 76 "SwingCircuits$Circuit" "cells" "I").before _ s = true := hts _ (by decide +kernel)
  have hl := lv_entry ([.ref (adx 0), .int p1]) (n := 2) (Nat.le_of_ble_eq_true rfl)
  rw [lg_entry_eq]
  generalize (lg_sl ([.ref (adx 0), .int p1]) ++ List.replicate (2 - (lg_sl ([.ref (adx 0), .int p1])).length) Slot.unset).toArray = ls at hl ⊢
  replace hl : lv_has ls 2 [(0, .ref (adx 0)), (1, .int p1)] := hl
  unfold f_X2_count at hf
  refine lv_iload_n hx hb dX2_count_0 rfl (lv_at hl 1 rfl) ?_
  by_cases q1 : p1 = 0
  · replace hf := ifT q1 hf
    refine lv_tableIn (off := 47) (tgt := 48) hx hb dX2_count_1 (by rw [q1]; decide) (by rw [q1]; decide) (by rw [q1]; rfl) (by decide) ?_
    refine lv_aload_n hx hb dX2_count_48 rfl (lv_at hl 0 rfl) ?_
    refine va_get (D := D) (ci := 2) (v := .ref (adc 0)) (C := RX2) (T := TX2) (N := 17) hx hb hts hinX2 hown hK.1 hP 0 rfl rfl 0 (by decide) hw6 (fun _ h9 => h9) rfl dX2_count_49 ?_
    refine va_get (D := D) (ci := 0) (v := .int gc.1) (C := RX0) (T := TX0) (N := 12) hx hb hts hinX0 hown hK.1 hP 11 rfl rfl 0 (by decide) hw8 (fun _ h9 => h9) rfl dX2_count_52 ?_
    obtain rfl := Option.some.inj hf
    exact retI hx hb hr hlocks hP hD hS dX2_count_55
  · replace hf := ifF q1 hf
    by_cases q2 : p1 = 1
    · replace hf := ifT q2 hf
      refine lv_tableIn (off := 55) (tgt := 56) hx hb dX2_count_1 (by rw [q2]; decide) (by rw [q2]; decide) (by rw [q2]; rfl) (by decide) ?_
      refine lv_aload_n hx hb dX2_count_56 rfl (lv_at hl 0 rfl) ?_
      refine va_get (D := D) (ci := 2) (v := .ref (adc 0)) (C := RX2) (T := TX2) (N := 17) hx hb hts hinX2 hown hK.1 hP 0 rfl rfl 0 (by decide) hw6 (fun _ h9 => h9) rfl dX2_count_57 ?_
      refine va_get (D := D) (ci := 0) (v := .int gc.2.2.2.2.2.1) (C := RX0) (T := TX0) (N := 12) hx hb hts hinX0 hown hK.1 hP 11 rfl rfl 5 (by decide) hw7 (fun _ h9 => h9) rfl dX2_count_60 ?_
      obtain rfl := Option.some.inj hf
      exact retI hx hb hr hlocks hP hD hS dX2_count_63
    · replace hf := ifF q2 hf
      by_cases q3 : p1 = 2
      · replace hf := ifT q3 hf
        refine lv_tableIn (off := 63) (tgt := 64) hx hb dX2_count_1 (by rw [q3]; decide) (by rw [q3]; decide) (by rw [q3]; rfl) (by decide) ?_
        refine lv_aload_n hx hb dX2_count_64 rfl (lv_at hl 0 rfl) ?_
        refine va_get (D := D) (ci := 2) (v := .int gx.1) (C := RX2) (T := TX2) (N := 17) hx hb hts hinX2 hown hK.1 hP 0 rfl rfl 3 (by decide) hw5 (fun _ h9 => h9) rfl dX2_count_65 ?_
        obtain rfl := Option.some.inj hf
        exact retI hx hb hr hlocks hP hD hS dX2_count_68
      · replace hf := ifF q3 hf
        by_cases q4 : p1 = 3
        · replace hf := ifT q4 hf
          refine lv_tableIn (off := 68) (tgt := 69) hx hb dX2_count_1 (by rw [q4]; decide) (by rw [q4]; decide) (by rw [q4]; rfl) (by decide) ?_
          refine lv_aload_n hx hb dX2_count_69 rfl (lv_at hl 0 rfl) ?_
          refine va_get (D := D) (ci := 2) (v := .ref (adn 0)) (C := RX2) (T := TX2) (N := 17) hx hb hts hinX2 hown hK.1 hP 0 rfl rfl 1 (by decide) hw2 (fun _ h9 => h9) rfl dX2_count_70 ?_
          refine va_get (D := D) (ci := 1) (v := .long gn.1) (C := RX1) (T := TX1) (N := 10) hx hb hts hinX1 hown hK.1 hP 22 rfl rfl 0 (by decide) hw4 (fun _ h9 => h9) rfl dX2_count_73 ?_
          refine lv_l2i hx hb dX2_count_76 rfl ?_
          obtain rfl := Option.some.inj hf
          exact retI hx hb hr hlocks hP hD hS dX2_count_77
        · replace hf := ifF q4 hf
          by_cases q5 : p1 = 4
          · replace hf := ifT q5 hf
            refine lv_tableIn (off := 77) (tgt := 78) hx hb dX2_count_1 (by rw [q5]; decide) (by rw [q5]; decide) (by rw [q5]; rfl) (by decide) ?_
            refine lv_aload_n hx hb dX2_count_78 rfl (lv_at hl 0 rfl) ?_
            refine va_get (D := D) (ci := 2) (v := .ref (adn 0)) (C := RX2) (T := TX2) (N := 17) hx hb hts hinX2 hown hK.1 hP 0 rfl rfl 1 (by decide) hw2 (fun _ h9 => h9) rfl dX2_count_79 ?_
            refine va_get (D := D) (ci := 1) (v := .long gn.2.1) (C := RX1) (T := TX1) (N := 10) hx hb hts hinX1 hown hK.1 hP 22 rfl rfl 1 (by decide) hw3 (fun _ h9 => h9) rfl dX2_count_82 ?_
            refine lv_l2i hx hb dX2_count_85 rfl ?_
            obtain rfl := Option.some.inj hf
            exact retI hx hb hr hlocks hP hD hS dX2_count_86
          · replace hf := ifF q5 hf
            by_cases q6 : p1 = 5
            · replace hf := ifT q6 hf
              refine lv_tableIn (off := 86) (tgt := 87) hx hb dX2_count_1 (by rw [q6]; decide) (by rw [q6]; decide) (by rw [q6]; rfl) (by decide) ?_
              refine lv_aload_n hx hb dX2_count_87 rfl (lv_at hl 0 rfl) ?_
              replace hf := bdE hf
              obtain ⟨r7, hgr7, hf⟩ := hf
              refine xIw (va_runV (As := []) (rest := []) ⟨hx, hb, hml, hown, hts⟩ (c_X2_isNextSpent l D cI cJ cZ adx adc adn adt gx gc gn gt r7 hgr7 _) (cwV 0 hts gX2_count_X2_isNextSpent rfl rfl rfl (by decide +kernel) ⟨Nat.le_of_ble_eq_true rfl, Nat.le_of_ble_eq_true rfl⟩) ⟨PreW.blind, xRecv (q0 := 0) hK hP rfl rfl, (xPrew hK hP hD _)⟩ rfl rfl hl.1 rfl (lv_room (Nat.le_of_ble_eq_true rfl)) dX2_count_88 ⟨Nat.le_of_ble_eq_true rfl, Nat.le_of_ble_eq_true rfl⟩) hD hS hA (fun H locs hP hD hS => ?_)
              replace hP : va_P D vwCl (wX cI cJ adx adc adn adt gx ++ wCi cI adc gc ++ wSw cI cJ cZ adn gn ++ wSw cI cJ cZ adt r7.2) H := hP
              replace hD : va_D A (wX cI cJ adx adc adn adt gx ++ wCi cI adc gc ++ wSw cI cJ cZ adn gn ++ wSw cI cJ cZ adt r7.2) := hD
              refine lv_if_eq (tgt := 98) hx hb dX2_count_91 (by decide) (fun q8 => ?_) (fun q8 => ?_)
              · replace hf := ifT q8 hf
                refine lv_iconst (v := 0) hx hb dX2_count_98 (by decide) ?_
                obtain rfl := Option.some.inj hf
                exact retI hx hb hr hlocks hP hD hS dX2_count_99
              · replace hf := ifF q8 hf
                refine lv_iconst (v := 1) hx hb dX2_count_94 (by decide) ?_
                refine lv_goto (tgt := 99) hx hb dX2_count_95 (by decide) ?_
                obtain rfl := Option.some.inj hf
                exact retI hx hb hr hlocks hP hD hS dX2_count_99
            · replace hf := ifF q6 hf
              by_cases q9 : p1 = 6
              · replace hf := ifT q9 hf
                refine lv_tableIn (off := 99) (tgt := 100) hx hb dX2_count_1 (by rw [q9]; decide) (by rw [q9]; decide) (by rw [q9]; rfl) (by decide) ?_
                refine lv_aload_n hx hb dX2_count_100 rfl (lv_at hl 0 rfl) ?_
                refine va_get (D := D) (ci := 2) (v := .int gx.2.2.2.2.2.2.2.2.1) (C := RX2) (T := TX2) (N := 17) hx hb hts hinX2 hown hK.1 hP 0 rfl rfl 11 (by decide) hw1 (fun _ h9 => h9) rfl dX2_count_101 ?_
                obtain rfl := Option.some.inj hf
                exact retI hx hb hr hlocks hP hD hS dX2_count_104
              · replace hf := ifF q9 hf
                by_cases q10 : p1 = 7
                · replace hf := ifT q10 hf
                  refine lv_tableIn (off := 104) (tgt := 105) hx hb dX2_count_1 (by rw [q10]; decide) (by rw [q10]; decide) (by rw [q10]; rfl) (by decide) ?_
                  refine lv_aload_n hx hb dX2_count_105 rfl (lv_at hl 0 rfl) ?_
                  refine va_get (D := D) (ci := 2) (v := .int gx.2.2.2.2.2.2.2.2.2.2.2.1) (C := RX2) (T := TX2) (N := 17) hx hb hts hinX2 hown hK.1 hP 0 rfl rfl 14 (by decide) hw0 (fun _ h9 => h9) rfl dX2_count_106 ?_
                  obtain rfl := Option.some.inj hf
                  exact retI hx hb hr hlocks hP hD hS dX2_count_109
                · replace hf := ifF q10 hf
                  refine lv_tableOut (tgt := 110) hx hb dX2_count_1 (by have nq1 := lv_neT q1 (a := 0) (by decide); have nq2 := lv_neT q2 (a := 1) (by decide); have nq3 := lv_neT q3 (a := 2) (by decide); have nq4 := lv_neT q4 (a := 3) (by decide); have nq5 := lv_neT q5 (a := 4) (by decide); have nq6 := lv_neT q6 (a := 5) (by decide); have nq9 := lv_neT q9 (a := 6) (by decide); have nq10 := lv_neT q10 (a := 7) (by decide); omega) (by decide) ?_
                  refine lv_iconst (v := (-1)) hx hb dX2_count_110 (by decide) ?_
                  obtain rfl := Option.some.inj hf
                  exact retI hx hb hr hlocks hP hD hS dX2_count_111

def f_X2_event (gx : Xo) (p1 : Int32) (p2 : Int32) : Option Int32 :=
(f_X2_isKept p1).bind (fun r1 =>
if (b2i r1) = 0 then
some ((-1))
else
if p1 < gx.1 then
if p2 = 0 then
gd (ib p1 500) (
(f_X2_turnedIn (gx.2.2.2.1 p1.toNatClampNeg)).bind (fun r6 =>
some r6))
else
if p2 = 1 then
gd (ib p1 500) (
(f_X2_sideIn (gx.2.2.2.1 p1.toNatClampNeg)).bind (fun r9 =>
some r9))
else
if p2 = 2 then
gd (ib p1 500) (
(f_X2_timeNumIn (gx.2.2.2.1 p1.toNatClampNeg)).bind (fun r12 =>
some r12.toInt32))
else
if p2 = 3 then
gd (ib p1 500) (
(f_X2_timeDenIn (gx.2.2.2.1 p1.toNatClampNeg)).bind (fun r15 =>
some r15.toInt32))
else
some ((-1))
else
some ((-1)))
abbrev rmX2_event : Room := { frames := 1, cells := 0, slots := 0, locals := 21 }
set_option maxHeartbeats 40000000 in
set_option maxRecDepth 100000 in
theorem c_X2_event (l : Launch) (D : va_G) (cI cJ cZ : ClassId) (adx : Nat → Nat) (adc : Nat → Nat) (adn : Nat → Nat) (adt : Nat → Nat) (gx : Xo) (gc : Ci) (gn : Sw) (gt : Sw) (p1 : Int32) (p2 : Int32) (o : Int32) (hf : f_X2_event gx p1 p2 = some o) : CtI l yX2_event wsX2_event rmX2_event D cI cJ cZ [.ref (adx 0), .int p1, .int p2] (wX cI cJ adx adc adn adt gx ++ wCi cI adc gc ++ wSw cI cJ cZ adn gn ++ wSw cI cJ cZ adt gt) (wX cI cJ adx adc adn adt gx ++ wCi cI adc gc ++ wSw cI cJ cZ adn gn ++ wSw cI cJ cZ adt gt) o := by
  intro sz
  refine Met.ofW (cc := cX2_event) (maxL := 3) (ret := (some .int)) (by decide) rfl ?_
  intro p e s m args below meth c s₁ B hml hv
  obtain ⟨rfl, hsz, hP, hK, hD0⟩ := hv
  have hx := B.exec
  have hb := B.bytes
  have hr := B.returns
  have hts := atoms_spec (ws := wsX2_event) B.pre
  have hown : s.vm.findClass RX2 = some m.cls := findClass_of_methodNamed B.named
  have hlocks := B.notSynchronized
  subst hsz
  have hD := hD0.self (sz := s.heap.size)
  clear hD0
  generalize hAe : va_A (wX cI cJ adx adc adn adt gx ++ wCi cI adc gc ++ wSw cI cJ cZ adn gn ++ wSw cI cJ cZ adt gt) s.heap.size = A at hD ⊢
  have hA : ∀ q : Nat, s.heap.size ≤ q → A q := fun q h => by rw [← hAe]; exact Or.inr h
  have hS : va_S A s.heap s.heap [] := va_S.rf
  have hinX2 : ∀ w ∈ wsX20, w ∈ wsX2_event := by decide +kernel
  have hw0 : (Cond.fieldLink RX2 26 "SwingCircuits" "happened" "I").before _ s = true := hts _ (by decide +kernel)
  have hw1 : (Cond.fieldLink RX2 37 "SwingCircuits" "kept" "[J").before _ s = true := hts _ (by decide +kernel)
  have hl := lv_entry ([.ref (adx 0), .int p1, .int p2]) (n := 3) (Nat.le_of_ble_eq_true rfl)
  rw [lg_entry_eq]
  generalize (lg_sl ([.ref (adx 0), .int p1, .int p2]) ++ List.replicate (3 - (lg_sl ([.ref (adx 0), .int p1, .int p2])).length) Slot.unset).toArray = ls at hl ⊢
  replace hl : lv_has ls 3 [(0, .ref (adx 0)), (1, .int p1), (2, .int p2)] := hl
  unfold f_X2_event at hf
  refine lv_iload_n hx hb dX2_event_0 rfl (lv_at hl 1 rfl) ?_
  replace hf := bdE hf
  obtain ⟨r1, hgr1, hf⟩ := hf
  refine xI0 (va_runS (As := [.int p1]) (rest := []) ⟨hx, hb, hml, hown, hts⟩ (c_X2_isKept l D cI cJ cZ p1 r1 hgr1 _) (va_cwS 1 hts gX2_event_X2_isKept rfl rfl rfl (by decide +kernel) ⟨Nat.le_of_ble_eq_true rfl, Nat.le_of_ble_eq_true rfl⟩) ⟨PreW.blind, (xPre0 hK _)⟩ rfl rfl hl.1 rfl (lv_room (Nat.le_of_ble_eq_true rfl)) dX2_event_1 ⟨Nat.le_of_ble_eq_true rfl, Nat.le_of_ble_eq_true rfl⟩) hP hS hA (fun H locs hP hS => ?_)
  refine lv_if_eq (tgt := 15) hx hb dX2_event_4 (by decide) (fun q2 => ?_) (fun q2 => ?_)
  · replace hf := ifT q2 hf
    refine lv_iconst (v := (-1)) hx hb dX2_event_15 (by decide) ?_
    obtain rfl := Option.some.inj hf
    exact retI hx hb hr hlocks hP hD hS dX2_event_16
  · replace hf := ifF q2 hf
    refine lv_iload_n hx hb dX2_event_7 rfl (lv_at hl 1 rfl) ?_
    refine lv_aload_n hx hb dX2_event_8 rfl (lv_at hl 0 rfl) ?_
    refine va_get (D := D) (ci := 2) (v := .int gx.1) (C := RX2) (T := TX2) (N := 17) hx hb hts hinX2 hown hK.1 hP 0 rfl rfl 3 (by decide) hw0 (fun _ h9 => h9) rfl dX2_event_9 ?_
    refine lv_icmp_lt (tgt := 17) hx hb dX2_event_12 (by decide) (fun q3 => ?_) (fun q3 => ?_)
    · replace hf := ifT q3 hf
      refine lv_iload_n hx hb dX2_event_17 rfl (lv_at hl 2 rfl) ?_
      by_cases q4 : p2 = 0
      · replace hf := ifT q4 hf
        refine lv_tableIn (off := 30) (tgt := 48) hx hb dX2_event_18 (by rw [q4]; decide) (by rw [q4]; decide) (by rw [q4]; rfl) (by decide) ?_
        refine lv_aload_n hx hb dX2_event_48 rfl (lv_at hl 0 rfl) ?_
        refine va_get (D := D) (ci := 2) (v := .ref (adx 3)) (C := RX2) (T := TX2) (N := 17) hx hb hts hinX2 hown hK.1 hP 0 rfl rfl 6 (by decide) hw1 (fun _ h9 => h9) rfl dX2_event_49 ?_
        refine lv_iload_n hx hb dX2_event_52 rfl (lv_at hl 1 rfl) ?_
        replace hf := gdE hf
        obtain ⟨h5, hf⟩ := hf
        refine va_lald hx hb hK.1 hP 3 1 rfl rfl (ib_in h5) dX2_event_53 ?_
        replace hf := bdE hf
        obtain ⟨r6, hgr6, hf⟩ := hf
        refine xI0 (va_runS (As := [.long (gx.2.2.2.1 p1.toNatClampNeg)]) (rest := []) ⟨hx, hb, hml, hown, hts⟩ (c_X2_turnedIn l D cI cJ cZ (gx.2.2.2.1 p1.toNatClampNeg) r6 hgr6 _) (va_cwS 1 hts gX2_event_X2_turnedIn rfl rfl rfl (by decide +kernel) ⟨Nat.le_of_ble_eq_true rfl, Nat.le_of_ble_eq_true rfl⟩) ⟨PreW.blind, (xPre0 hK _)⟩ rfl rfl hl.1 rfl (lv_room (Nat.le_of_ble_eq_true rfl)) dX2_event_54 ⟨Nat.le_of_ble_eq_true rfl, Nat.le_of_ble_eq_true rfl⟩) hP hS hA (fun H locs hP hS => ?_)
        obtain rfl := Option.some.inj hf
        exact retI hx hb hr hlocks hP hD hS dX2_event_57
      · replace hf := ifF q4 hf
        by_cases q7 : p2 = 1
        · replace hf := ifT q7 hf
          refine lv_tableIn (off := 40) (tgt := 58) hx hb dX2_event_18 (by rw [q7]; decide) (by rw [q7]; decide) (by rw [q7]; rfl) (by decide) ?_
          refine lv_aload_n hx hb dX2_event_58 rfl (lv_at hl 0 rfl) ?_
          refine va_get (D := D) (ci := 2) (v := .ref (adx 3)) (C := RX2) (T := TX2) (N := 17) hx hb hts hinX2 hown hK.1 hP 0 rfl rfl 6 (by decide) hw1 (fun _ h9 => h9) rfl dX2_event_59 ?_
          refine lv_iload_n hx hb dX2_event_62 rfl (lv_at hl 1 rfl) ?_
          replace hf := gdE hf
          obtain ⟨h8, hf⟩ := hf
          refine va_lald hx hb hK.1 hP 3 1 rfl rfl (ib_in h8) dX2_event_63 ?_
          replace hf := bdE hf
          obtain ⟨r9, hgr9, hf⟩ := hf
          refine xI0 (va_runS (As := [.long (gx.2.2.2.1 p1.toNatClampNeg)]) (rest := []) ⟨hx, hb, hml, hown, hts⟩ (c_X2_sideIn l D cI cJ cZ (gx.2.2.2.1 p1.toNatClampNeg) r9 hgr9 _) (va_cwS 1 hts gX2_event_X2_sideIn rfl rfl rfl (by decide +kernel) ⟨Nat.le_of_ble_eq_true rfl, Nat.le_of_ble_eq_true rfl⟩) ⟨PreW.blind, (xPre0 hK _)⟩ rfl rfl hl.1 rfl (lv_room (Nat.le_of_ble_eq_true rfl)) dX2_event_64 ⟨Nat.le_of_ble_eq_true rfl, Nat.le_of_ble_eq_true rfl⟩) hP hS hA (fun H locs hP hS => ?_)
          obtain rfl := Option.some.inj hf
          exact retI hx hb hr hlocks hP hD hS dX2_event_67
        · replace hf := ifF q7 hf
          by_cases q10 : p2 = 2
          · replace hf := ifT q10 hf
            refine lv_tableIn (off := 50) (tgt := 68) hx hb dX2_event_18 (by rw [q10]; decide) (by rw [q10]; decide) (by rw [q10]; rfl) (by decide) ?_
            refine lv_aload_n hx hb dX2_event_68 rfl (lv_at hl 0 rfl) ?_
            refine va_get (D := D) (ci := 2) (v := .ref (adx 3)) (C := RX2) (T := TX2) (N := 17) hx hb hts hinX2 hown hK.1 hP 0 rfl rfl 6 (by decide) hw1 (fun _ h9 => h9) rfl dX2_event_69 ?_
            refine lv_iload_n hx hb dX2_event_72 rfl (lv_at hl 1 rfl) ?_
            replace hf := gdE hf
            obtain ⟨h11, hf⟩ := hf
            refine va_lald hx hb hK.1 hP 3 1 rfl rfl (ib_in h11) dX2_event_73 ?_
            replace hf := bdE hf
            obtain ⟨r12, hgr12, hf⟩ := hf
            refine xL0 (va_runS (As := [.long (gx.2.2.2.1 p1.toNatClampNeg)]) (rest := []) ⟨hx, hb, hml, hown, hts⟩ (c_X2_timeNumIn l D cI cJ cZ (gx.2.2.2.1 p1.toNatClampNeg) r12 hgr12 _) (va_cwS 1 hts gX2_event_X2_timeNumIn rfl rfl rfl (by decide +kernel) ⟨Nat.le_of_ble_eq_true rfl, Nat.le_of_ble_eq_true rfl⟩) ⟨PreW.blind, (xPre0 hK _)⟩ rfl rfl hl.1 rfl (lv_room (Nat.le_of_ble_eq_true rfl)) dX2_event_74 ⟨Nat.le_of_ble_eq_true rfl, Nat.le_of_ble_eq_true rfl⟩) hP hS hA (fun H locs hP hS => ?_)
            refine lv_l2i hx hb dX2_event_77 rfl ?_
            obtain rfl := Option.some.inj hf
            exact retI hx hb hr hlocks hP hD hS dX2_event_78
          · replace hf := ifF q10 hf
            by_cases q13 : p2 = 3
            · replace hf := ifT q13 hf
              refine lv_tableIn (off := 61) (tgt := 79) hx hb dX2_event_18 (by rw [q13]; decide) (by rw [q13]; decide) (by rw [q13]; rfl) (by decide) ?_
              refine lv_aload_n hx hb dX2_event_79 rfl (lv_at hl 0 rfl) ?_
              refine va_get (D := D) (ci := 2) (v := .ref (adx 3)) (C := RX2) (T := TX2) (N := 17) hx hb hts hinX2 hown hK.1 hP 0 rfl rfl 6 (by decide) hw1 (fun _ h9 => h9) rfl dX2_event_80 ?_
              refine lv_iload_n hx hb dX2_event_83 rfl (lv_at hl 1 rfl) ?_
              replace hf := gdE hf
              obtain ⟨h14, hf⟩ := hf
              refine va_lald hx hb hK.1 hP 3 1 rfl rfl (ib_in h14) dX2_event_84 ?_
              replace hf := bdE hf
              obtain ⟨r15, hgr15, hf⟩ := hf
              refine xL0 (va_runS (As := [.long (gx.2.2.2.1 p1.toNatClampNeg)]) (rest := []) ⟨hx, hb, hml, hown, hts⟩ (c_X2_timeDenIn l D cI cJ cZ (gx.2.2.2.1 p1.toNatClampNeg) r15 hgr15 _) (va_cwS 1 hts gX2_event_X2_timeDenIn rfl rfl rfl (by decide +kernel) ⟨Nat.le_of_ble_eq_true rfl, Nat.le_of_ble_eq_true rfl⟩) ⟨PreW.blind, (xPre0 hK _)⟩ rfl rfl hl.1 rfl (lv_room (Nat.le_of_ble_eq_true rfl)) dX2_event_85 ⟨Nat.le_of_ble_eq_true rfl, Nat.le_of_ble_eq_true rfl⟩) hP hS hA (fun H locs hP hS => ?_)
              refine lv_l2i hx hb dX2_event_88 rfl ?_
              obtain rfl := Option.some.inj hf
              exact retI hx hb hr hlocks hP hD hS dX2_event_89
            · replace hf := ifF q13 hf
              refine lv_tableOut (tgt := 90) hx hb dX2_event_18 (by have nq4 := lv_neT q4 (a := 0) (by decide); have nq7 := lv_neT q7 (a := 1) (by decide); have nq10 := lv_neT q10 (a := 2) (by decide); have nq13 := lv_neT q13 (a := 3) (by decide); omega) (by decide) ?_
              refine lv_iconst (v := (-1)) hx hb dX2_event_90 (by decide) ?_
              obtain rfl := Option.some.inj hf
              exact retI hx hb hr hlocks hP hD hS dX2_event_91
    · replace hf := ifF q3 hf
      refine lv_iconst (v := (-1)) hx hb dX2_event_15 (by decide) ?_
      obtain rfl := Option.some.inj hf
      exact retI hx hb hr hlocks hP hD hS dX2_event_16
