/-! what a throw stands on, at a state: the words that a warmed machine keeps in their own way, the two texts; where the two statics lie -/
section TW
def neB : List Cond := [.declares (Bundle.initS ne_RE), .declares (Bundle.initS ne_EX), .declares (Bundle.initS Bundle.tN), .castable ne_NE ne_NE]
theorem neB_all : ∀ w ∈ (ne_all.filter vx_no).filter (fun w => !goodWord w), w ∈ neB := by decide +kernel
def TwV (sa sb : Nat) (U : State) : Prop := va_Nw (.declares (Bundle.initS ne_RE)) U ∧ va_Nw (.declares (Bundle.initS ne_EX)) U ∧ va_Nw (.declares (Bundle.initS Bundle.tN)) U ∧ va_Nw (.castable ne_NE ne_NE) U ∧ vk_R RX2 150 "no such cell" sa U ∧ vk_R RX2 169 "a cell has no such number" sb U
theorem TwV.warm {sa sb : Nat} {s U : State} (hW : s.WarmedH U.vm) (h : TwV sa sb s) : TwV sa sb U := ⟨va_Nw.warmD hW h.1, va_Nw.warmD hW h.2.1, va_Nw.warmD hW h.2.2.1, va_Nw.warmC hW h.2.2.2.1, vk_R.warm hW h.2.2.2.2.1, vk_R.warm hW h.2.2.2.2.2⟩
theorem TwV.same {sa sb : Nat} {s U : State} (hv : s.vm = U.vm) (h : TwV sa sb s) : TwV sa sb U := ⟨va_Nw.same rfl hv h.1, va_Nw.same rfl hv h.2.1, va_Nw.same rfl hv h.2.2.1, va_Nw.same rfl hv h.2.2.2.1, vk_R.same hv.symm h.2.2.2.2.1, vk_R.same hv.symm h.2.2.2.2.2⟩
theorem tw_at {sa sb : Nat} {s : State} {args : Array Value} (h : TwV sa sb s) (hg : ∀ w ∈ wsNE, w.before args s = true) : ∀ w ∈ ne_all.filter vx_no, w.before args s = true :=
  vx_hat hg neB_all (vx_c (va_Nw.use rfl h.1) (vx_c (va_Nw.use rfl h.2.1) (vx_c (va_Nw.use rfl h.2.2.1) (vx_c (va_Nw.use rfl h.2.2.2.1) vx_n))))
def PreT (D : va_G) (cI cJ cZ : ClassId) (ws : va_W) (sz sa sb : Nat) (U : State) : Prop := PreW D cI cJ cZ ws sz U ∧ TwV sa sb U ∧ vx_Zq Bundle.tN "UNASSIGNED_STACK" Bundle.steD (va_A ws sz) U U.heap ∧ vx_Zq Bundle.tN "SUPPRESSED_SENTINEL" Bundle.listD (va_A ws sz) U U.heap
theorem PreT.blind {D : va_G} {cI cJ cZ : ClassId} {ws : va_W} {sz sa sb : Nat} {av : List Value} : FrameBlind (va_Pc av (PreT D cI cJ cZ ws sz sa sb)) := fun a U g mk q =>
  ⟨q.1, ⟨q.2.1.1, q.2.1.2.1, ⟨va_K.moved (u := U) (U := U.calling g mk a) (Vm.Alike.refl U.vm) q.2.1.2.2.1.1, NwW.same (s := U) (U := U.calling g mk a) rfl q.2.1.2.2.1.2⟩, q.2.1.2.2.2⟩, TwV.same (s := U) (U := U.calling g mk a) rfl q.2.2.1, vx_Zq.moved (u := U) (U := U.calling g mk a) (Vm.Alike.refl U.vm) q.2.2.2.1, vx_Zq.moved (u := U) (U := U.calling g mk a) (Vm.Alike.refl U.vm) q.2.2.2.2⟩
theorem wsNE_of : ∀ w ∈ wsNE, w ∈ wsX2_of := fun w h => List.mem_cons_of_mem _ (List.mem_append_right _ h)
end TW
