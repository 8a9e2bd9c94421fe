/-! the frame at a call of the law: the callee's world stands first -/
section FRM
theorem P_mem {D : va_G} {H : Heap} {a : va_W} : va_P D vwCl a H ↔ ∀ q ∈ a, va_at D vwCl q H := ⟨fun h q hq => by
    obtain ⟨k, hk⟩ := List.getElem?_of_mem hq
    exact h k q hk, fun h k q hk => h q (List.mem_of_getElem? hk)⟩
theorem D_mem {A : Nat → Prop} {a : va_W} : va_D A a ↔ (a.map Prod.fst).Nodup ∧ ∀ q ∈ a, A q.1 := by
  constructor
  · intro h
    refine ⟨?_, fun q hq => ?_⟩
    · rw [List.nodup_iff_pairwise_ne, List.pairwise_iff_getElem]
      intro i j hi hj hij e
      rw [List.length_map] at hi hj
      rw [List.getElem_map, List.getElem_map] at e
      have h9 := h.1 i j a[i] a[j] (List.getElem?_eq_getElem hi) (List.getElem?_eq_getElem hj) e
      omega
    · obtain ⟨k, hk⟩ := List.getElem?_of_mem hq
      exact h.2 k q hk
  · intro h
    obtain ⟨h1, h2⟩ := h
    rw [List.nodup_iff_pairwise_ne, List.pairwise_iff_getElem] at h1
    refine ⟨fun i j p q hi hj e => ?_, fun k q hk => h2 q (List.mem_of_getElem? hk)⟩
    obtain ⟨li, ei⟩ := List.getElem?_eq_some_iff.mp hi
    obtain ⟨lj, ej⟩ := List.getElem?_eq_some_iff.mp hj
    rcases Nat.lt_trichotomy i j with h3 | h3 | h3
    · exact absurd (by rw [List.getElem_map, List.getElem_map, ei, ej]; exact e) (h1 i j (by rw [List.length_map]; exact li) (by rw [List.length_map]; exact lj) h3)
    · exact h3
    · exact absurd (by rw [List.getElem_map, List.getElem_map, ei, ej]; exact e.symm) (h1 j i (by rw [List.length_map]; exact lj) (by rw [List.length_map]; exact li) h3)
theorem P_perm {D : va_G} {H : Heap} {a b : va_W} (hp : a.Perm b) (h : va_P D vwCl a H) : va_P D vwCl b H := P_mem.mpr fun q hq => P_mem.mp h q (hp.mem_iff.mpr hq)
theorem D_perm {A : Nat → Prop} {a b : va_W} (hp : a.Perm b) (h : va_D A a) : va_D A b := by
  obtain ⟨h1, h2⟩ := D_mem.mp h
  exact D_mem.mpr ⟨(hp.map Prod.fst).nodup h1, fun q hq => h2 q (hp.mem_iff.mpr hq)⟩
theorem perm_r {a b c : va_W} : (a ++ (b ++ c)).Perm (b ++ (c ++ a)) := by
  have h := List.perm_append_comm (l₁ := a) (l₂ := b ++ c)
  rw [List.append_assoc b c a] at h
  exact h
theorem perm_b {a b c : va_W} : (b ++ (c ++ a)).Perm (a ++ (b ++ c)) := perm_r.symm
theorem perm_s {a b c : va_W} : (a ++ (b ++ c)).Perm ((a ++ c) ++ b) := by
  rw [List.append_assoc]
  exact List.Perm.append_left a List.perm_append_comm
theorem P_left {D : va_G} {H : Heap} {a b : va_W} (h : va_P D vwCl (a ++ b) H) : va_P D vwCl a H := P_mem.mpr fun q hq => P_mem.mp h q (List.mem_append_left _ hq)
theorem P_right {D : va_G} {H : Heap} {a b : va_W} (h : va_P D vwCl (a ++ b) H) : va_P D vwCl b H := P_mem.mpr fun q hq => P_mem.mp h q (List.mem_append_right _ hq)
theorem D_left {A : Nat → Prop} {a b : va_W} (h : va_D A (a ++ b)) : va_D A a := by
  obtain ⟨h1, h2⟩ := D_mem.mp h
  rw [List.map_append, List.nodup_append] at h1
  exact D_mem.mpr ⟨h1.1, fun q hq => h2 q (List.mem_append_left _ hq)⟩
theorem pfx_free {A0 : Nat → Prop} {H0 H : Heap} {locs : List Loc} {wc wr : va_W} (hD : va_D A0 (wc ++ wr)) (hS : va_S A0 H0 H locs) (hA : ∀ q, H0.size ≤ q → A0 q) : ∀ q, va_A wc H.size q → A0 q := fun q h =>
  h.elim (fun ⟨k, e, hk⟩ => (D_mem.mp hD).2 (q, e) (List.mem_append_left _ (List.mem_of_getElem? hk))) (fun h => hA q (Nat.le_trans hS.1 h))
theorem pfx_join {D : va_G} {A0 : Nat → Prop} {H H1 : Heap} {wc wr w1 : va_W} (hP : va_P D vwCl (wc ++ wr) H) (hD : va_D A0 (wc ++ wr)) (hFc : ∀ q, va_A wc H.size q → A0 q) (hk : ∀ q : Nat, q < H.size → ¬ va_A wc H.size q → H1[q]? = H[q]?) (hP1 : va_P D vwCl w1 H1) (hD1 : va_D (va_A wc H.size) w1) : va_P D vwCl (w1 ++ wr) H1 ∧ va_D A0 (w1 ++ wr) := by
  have hPr := P_right hP
  obtain ⟨n0, a0⟩ := D_mem.mp hD
  rw [List.map_append, List.nodup_append] at n0
  obtain ⟨-, n2, n3⟩ := n0
  obtain ⟨n1, a1⟩ := D_mem.mp hD1
  have hr : ∀ q ∈ wr, q.1 < H.size ∧ ¬ va_A wc H.size q.1 := fun q hq => by
    obtain ⟨k, hk9⟩ := List.getElem?_of_mem hq
    have hlt : q.1 < H.size := (hPr k q hk9).lt
    refine ⟨hlt, fun hz => ?_⟩
    rcases hz with ⟨k2, e2, h2⟩ | h2
    · exact n3 q.1 (List.mem_map.mpr ⟨(q.1, e2), List.mem_of_getElem? h2, rfl⟩) q.1 (List.mem_map.mpr ⟨q, hq, rfl⟩) rfl
    · omega
  have hPk : va_P D vwCl wr H1 := hPr.kept (fun k q h => hk q.1 (hr q (List.mem_of_getElem? h)).1 (hr q (List.mem_of_getElem? h)).2)
  refine ⟨P_mem.mpr fun q hq => ?_, D_mem.mpr ⟨?_, fun q hq => ?_⟩⟩
  · rcases List.mem_append.mp hq with h | h
    · exact P_mem.mp hP1 q h
    · exact P_mem.mp hPk q h
  · rw [List.map_append, List.nodup_append]
    refine ⟨n1, n2, fun x hx y hy e => ?_⟩
    obtain ⟨q1, h1, rfl⟩ := List.mem_map.mp hx
    obtain ⟨q2, h2, rfl⟩ := List.mem_map.mp hy
    exact (hr q2 h2).2 (e ▸ a1 q1 h1)
  · rcases List.mem_append.mp hq with h | h
    · exact hFc _ (a1 q h)
    · exact a0 q (List.mem_append_right _ h)
theorem xPrep {s : State} {H : Heap} {D : va_G} {cI cJ cZ : ClassId} {wc wr : va_W} {A0 : Nat → Prop} (hK : Kw D cI cJ cZ s) (hP : va_P D vwCl (wc ++ wr) H) (hD : va_D A0 (wc ++ wr)) (av : List Value) : ∀ U : State, U.heap = H → s.WarmedH U.vm → va_Pc av (PreW D cI cJ cZ wc H.size) av.toArray U := fun U hU hW =>
  ⟨rfl, by rw [hU], by rw [hU]; exact P_left hP, hK.warm hW, (D_left hD).weaken (fun _ _ _ _ => trivial)⟩
theorem xPreTp {s : State} {H : Heap} {locs : List Loc} {D : va_G} {cI cJ cZ : ClassId} {wc wr : va_W} {A0 : Nat → Prop} {sa sb : Nat} (hK : Kw D cI cJ cZ s) (hP : va_P D vwCl (wc ++ wr) H) (hD : va_D A0 (wc ++ wr)) (hS : va_S A0 s.heap H locs) (hFc : ∀ q, va_A wc H.size q → A0 q) (hTw : TwV sa sb s)
    (hU : vx_Zq Bundle.tN "UNASSIGNED_STACK" Bundle.steD A0 s s.heap) (hN : vx_Zq Bundle.tN "SUPPRESSED_SENTINEL" Bundle.listD A0 s s.heap) (av : List Value) : ∀ U : State, U.heap = H → s.WarmedH U.vm → va_Pc av (PreT D cI cJ cZ wc H.size sa sb) av.toArray U := fun U hUH hW =>
  ⟨rfl, (xPrep hK hP hD av U hUH hW).2, hTw.warm hW, by rw [hUH]; exact vx_Zq.moved hW.alike ((hU.kept hS.2.1).narrow hFc), by rw [hUH]; exact vx_Zq.moved hW.alike ((hN.kept hS.2.1).narrow hFc)⟩
section FX
variable {p : Program} {l : Launch} {e : Env} {R : Room} {s : State} {m : MethodId} {args : Array Value} {below : List Frame} {meth : Method} {c : Code} {H : Heap} {locs : List Loc} {cells slots : Nat} {Q : State → Prop}
variable {pc : Nat} {ls : Array Slot} {rest st0 : List Value} {a : Array Value} {A0 : Nat → Prop} {H0 : Heap} {mc ms : Nat} {D : va_G} {wc wr w1 : va_W}
theorem xIp {r : Int32} (hr : va_Run p l e R s m args below meth c H locs cells slots mc ms (F0 m pc ls st0) rest (QI D (va_A wc H.size) r w1 a) (va_A wc H.size)) (hP : va_P D vwCl (wc ++ wr) H) (hD : va_D A0 (wc ++ wr)) (hS : va_S A0 H0 H locs) (hA : ∀ q, H0.size ≤ q → A0 q)
    (kk : ∀ (H1 : Heap) (locs1 : List Loc), va_P D vwCl (w1 ++ wr) H1 → va_D A0 (w1 ++ wr) → va_S A0 H0 H1 locs1 → W p l e R s m args below meth c H1 locs1 (cells + mc) (slots + ms) Q (F0 m (pc + 3) ls (.int r :: rest))) : W p l e R s m args below meth c H locs cells slots Q (F0 m pc ls st0) := by
  have hFc := pfx_free hD hS hA
  refine va_calli hr hS (fun q _ h => hFc q h) hFc (fun r1 u t H1 locs1 ht hvm hw hB hz1 hk1 hS1 => ?_)
  cases hw
  obtain ⟨hP1, hD1⟩ := hB
  rw [ht] at hP1
  obtain ⟨h1, h2⟩ := pfx_join hP hD hFc hk1 hP1 hD1
  exact kk H1 locs1 h1 h2 hS1
theorem xLp {r : Int64} (hr : va_Run p l e R s m args below meth c H locs cells slots mc ms (F0 m pc ls st0) rest (QL D (va_A wc H.size) r w1 a) (va_A wc H.size)) (hP : va_P D vwCl (wc ++ wr) H) (hD : va_D A0 (wc ++ wr)) (hS : va_S A0 H0 H locs) (hA : ∀ q, H0.size ≤ q → A0 q)
    (kk : ∀ (H1 : Heap) (locs1 : List Loc), va_P D vwCl (w1 ++ wr) H1 → va_D A0 (w1 ++ wr) → va_S A0 H0 H1 locs1 → W p l e R s m args below meth c H1 locs1 (cells + mc) (slots + ms) Q (F0 m (pc + 3) ls (.long r :: rest))) : W p l e R s m args below meth c H locs cells slots Q (F0 m pc ls st0) := by
  have hFc := pfx_free hD hS hA
  refine va_calll hr hS (fun q _ h => hFc q h) hFc (fun r1 u t H1 locs1 ht hvm hw hB hz1 hk1 hS1 => ?_)
  cases hw
  obtain ⟨hP1, hD1⟩ := hB
  rw [ht] at hP1
  obtain ⟨h1, h2⟩ := pfx_join hP hD hFc hk1 hP1 hD1
  exact kk H1 locs1 h1 h2 hS1
end FX
end FRM
