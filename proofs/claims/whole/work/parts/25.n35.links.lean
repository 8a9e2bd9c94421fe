/-! the class passes an event on -/
section LINKS
abbrev MN : Nat := 3200000000000000
abbrev MD : Nat := 60000000000000
theorem VRep.upND {v : AV} {num den : Al} {fil cnt : Ar} (h : VRep v num den fil cnt) (t : Nat) (x y : Int) : VRep (up (vN v) t x, up (vD v) t y, vF v, vK v) (vp_updL num t (lI x)) (vp_updL den t (lI y)) fil cnt := by
  refine ⟨fun i hi => ?_, h.2⟩
  obtain ⟨h1, h2, h3⟩ := h.1 i hi
  by_cases e : i = t
  · subst e
    exact ⟨by rw [uL_s]; exact congrArg lI (up_s _ _ _).symm, by rw [uL_s]; exact congrArg lI (up_s _ _ _).symm, h3⟩
  · exact ⟨by rw [uL_n e, h1]; exact congrArg lI (up_n e).symm, by rw [uL_n e, h2]; exact congrArg lI (up_n e).symm, h3⟩
theorem VRep.upN {v : AV} {num den : Al} {fil cnt : Ar} (h : VRep v num den fil cnt) (t : Nat) (x : Int) : VRep (up (vN v) t x, vD v, vF v, vK v) (vp_updL num t (lI x)) den fil cnt := by
  refine ⟨fun i hi => ?_, h.2⟩
  obtain ⟨h1, h2, h3⟩ := h.1 i hi
  by_cases e : i = t
  · subst e
    exact ⟨by rw [uL_s]; exact congrArg lI (up_s _ _ _).symm, h2, h3⟩
  · exact ⟨by rw [uL_n e, h1]; exact congrArg lI (up_n e).symm, h2, h3⟩
theorem VRep.upF {v : AV} {num den : Al} {fil cnt : Ar} (h : VRep v num den fil cnt) (t : Nat) (x : Bool) {y : Int32} (hy : y = b2i x) : VRep (vN v, vD v, up (vF v) t x, vK v) num den (upd fil t (vp_nar .boolean y)) cnt := by
  refine ⟨fun i hi => ?_, h.2⟩
  obtain ⟨h1, h2, h3⟩ := h.1 i hi
  have hn : vp_nar .boolean y = b2i x := by rw [hy]; cases x <;> rfl
  by_cases e : i = t
  · subst e
    exact ⟨h1, h2, by rw [uI_s, hn]; exact congrArg b2i (up_s _ _ _).symm⟩
  · exact ⟨h1, h2, by rw [uI_n e, h3]; exact congrArg b2i (up_n e).symm⟩
theorem VRep.upK {v : AV} {num den : Al} {fil cnt : Ar} (h : VRep v num den fil cnt) (t x : Nat) {y : Int32} (hy : y = nI x) : VRep (vN v, vD v, vF v, up (vK v) t x) num den fil (upd cnt t y) := by
  refine ⟨h.1, fun k hk => ?_⟩
  by_cases e : k = t
  · subst e
    rw [uI_s, hy]
    exact congrArg nI (up_s _ _ _).symm
  · rw [uI_n e, h.2 k hk]
    exact congrArg nI (up_n e).symm
theorem kb_ok {q : AC} {v : AV} {c : Ci} {s : Sw} (hQ : QOK q) (hC : CRep q c) (hV : VRep v s.2.2.1 s.2.2.2.1 s.2.2.2.2.1 s.2.2.2.2.2.1) {t : Nat} (ht : t < 4) (hn : (vN v t).natAbs ≤ 4500000000000000) (hd : (vD v t).natAbs ≤ MD) :
    ∃ num2 den2 : Al, f_X1_keepBetweenBars s c (nI t) = some (num2, den2) ∧ VRep (if aHi q t * vD v t < vN v t then (up (vN v) t (aHi q t), up (vD v) t 1, vF v, vK v) else if vN v t < aLo q t * vD v t then (up (vN v) t (aLo q t), up (vD v) t 1, vF v, vK v) else v) num2 den2 s.2.2.2.2.1 s.2.2.2.2.2.1 := by
  have hcl : (nI t).toNatClampNeg = t := cl_nI (by omega)
  obtain ⟨h1, h2, -⟩ := hV.1 t ht
  obtain ⟨c1, c2, -, -⟩ := hC.2.2.1 t ht
  obtain ⟨b1, b2, -, -⟩ := hQ.2.2.1 t ht
  have x1 : B63 (vN v t) := by omega
  have x2 : B63 (aHi q t * vD v t) := B63_nb (nb_mul b2 hd) (by decide)
  have x3 : B63 (aLo q t * vD v t) := B63_nb (nb_mul b1 hd) (by decide)
  unfold f_X1_keepBetweenBars
  simp only [bnd]
  rw [gd_t _ (ib_nI ht (by omega)), hcl, h1, h2, c1, c2, i2l_iI (by omega), i2l_iI (by omega), lI_mul, lI_mul]
  by_cases e1 : aHi q t * vD v t < vN v t
  · rw [if_pos e1, if_neg (fun h => by have := (lI_le x1 x2).mp ((lg_cmp_le _ _).mp h); omega)]
    exact ⟨_, _, rfl, hV.upND t _ 1⟩
  · rw [if_neg e1, if_pos ((lg_cmp_le _ _).mpr ((lI_le x1 x2).mpr (by omega)))]
    by_cases e2 : vN v t < aLo q t * vD v t
    · rw [if_pos e2, if_neg (fun h => by have := (lI_le x3 x1).mp ((lg_cmp_ge _ _).mp h); omega)]
      exact ⟨_, _, rfl, hV.upND t _ 1⟩
    · rw [if_neg e2, if_pos ((lg_cmp_ge _ _).mpr ((lI_le x3 x1).mpr (by omega)))]
      exact ⟨_, _, rfl, hV⟩
theorem up_up {α : Type} (f : Nat → α) (k : Nat) (x y : α) : up (up f k x) k y = up f k y := by
  funext j
  unfold up
  split <;> rfl
theorem da_ok {q : AC} {v : AV} {c : Ci} {s : Sw} (hQ : QOK q) (hC : CRep q c) (hV : VRep v s.2.2.1 s.2.2.2.1 s.2.2.2.2.1 s.2.2.2.2.2.1) (hB : VB q v MN MD) {k : Nat} (hk : k < aL q) :
    ∃ (num2 den2 : Al) (fil2 : Ar), f_X1_doAct s c (nI k) = some (num2, den2, fil2) ∧ VRep (aAct q k v) num2 den2 fil2 s.2.2.2.2.2.1 := by
  have hL8 := hQ.2.1
  have hC4 := hQ.1
  have hcl : (nI k).toNatClampNeg = k := cl_nI (by omega)
  obtain ⟨-, -, -, c4, c5, c6⟩ := hC.2.2.2 k hk
  obtain ⟨-, -, -, -, q5, q6, q7, q8, q9⟩ := hQ.2.2.2.2 k hk
  have ht : aTo q k < 4 := by omega
  have hct : (nI (aTo q k)).toNatClampNeg = aTo q k := cl_nI (by omega)
  obtain ⟨v1, v2, v3⟩ := hV.1 _ ht
  obtain ⟨w1, w2, w3, -⟩ := hB.1 _ ht
  have hib : ib (nI (aTo q k)) 4 = true := ib_nI ht (by omega)
  unfold f_X1_doAct
  rw [gd_t _ (ib_nI (show k < 8 by omega) (by omega)), hcl, c4, c5, c6]
  simp only [bnd]
  rw [hct, gd_t _ hib, gd_t _ hib, gd_t _ hib, gd_t _ hib]
  unfold aAct
  by_cases a0 : aAc q k = 0
  · rw [if_pos (show nI (aAc q k) = 0 by rw [a0]; rfl), if_pos a0]
    have hby := q7 a0
    rw [v1, v2, i2l_iI (by omega), lI_mul, lI_add]
    have hV2 := hV.upN (aTo q k) (vN v (aTo q k) + aBy q k * vD v (aTo q k))
    have hb2 : (vN v (aTo q k) + aBy q k * vD v (aTo q k)).natAbs ≤ 4500000000000000 := Nat.le_trans (nb_add w1 (nb_mul hby w3)) (by decide)
    obtain ⟨num2, den2, h1, h2⟩ := kb_ok (v := (up (vN v) (aTo q k) (vN v (aTo q k) + aBy q k * vD v (aTo q k)), vD v, vF v, vK v)) (s := (s.1, s.2.1, vp_updL s.2.2.1 (aTo q k) (lI (vN v (aTo q k) + aBy q k * vD v (aTo q k))), s.2.2.2)) hQ hC hV2 ht (by rw [show vN (up (vN v) (aTo q k) (vN v (aTo q k) + aBy q k * vD v (aTo q k)), vD v, vF v, vK v) (aTo q k) = _ from up_s _ _ _]; exact hb2) w3
    refine ⟨num2, den2, s.2.2.2.2.1, ?_, ?_⟩
    · rw [h1]
      rfl
    · rw [show vN (up (vN v) (aTo q k) (vN v (aTo q k) + aBy q k * vD v (aTo q k)), vD v, vF v, vK v) (aTo q k) = vN v (aTo q k) + aBy q k * vD v (aTo q k) from up_s _ _ _] at h2
      have e : ∀ x : Int, up (vN (up (vN v) (aTo q k) (vN v (aTo q k) + aBy q k * vD v (aTo q k)), vD v, vF v, vK v)) (aTo q k) x = up (vN v) (aTo q k) x := fun x => up_up _ _ _ _
      rw [e, e] at h2
      exact h2
  · rw [if_neg (fun h => a0 ((nI_eq0 (by omega)).mp h)), if_neg a0]
    by_cases a1 : aAc q k = 1
    · rw [if_pos (show nI (aAc q k) = 1 by rw [a1]; rfl), if_pos a1, v3]
      cases hfl : vF v (aTo q k) with
      | true =>
        rw [if_pos (show ¬ b2i true = 0 by decide)]
        exact ⟨_, _, _, rfl, hV.upF _ false rfl⟩
      | false =>
        rw [if_neg (show ¬ ¬ b2i false = 0 by decide)]
        exact ⟨_, _, _, rfl, hV.upF _ true rfl⟩
    · rw [if_neg (fun h => a1 ((nI_eq1 (by omega)).mp h)), if_neg a1]
      rcases q8 (by omega) with hb | hb
      · rw [if_neg (show ¬ ¬ iI (aBy q k) = 0 by rw [hb]; decide), hb]
        exact ⟨_, _, _, rfl, hV.upF _ true rfl⟩
      · rw [if_pos (show ¬ iI (aBy q k) = 0 by rw [hb]; decide), hb]
        exact ⟨_, _, _, rfl, hV.upF _ false rfl⟩
/-- the bounds stay -/
theorem aAct_b {q : AC} {v : AV} (hQ : QOK q) (hB : VB q v MN MD) {k : Nat} (hk : k < aL q) : VB q (aAct q k v) MN MD := by
  have hC4 := hQ.1
  obtain ⟨-, -, -, -, q5, q6, q7, q8, q9⟩ := hQ.2.2.2.2 k hk
  have ht : aTo q k < 4 := by omega
  obtain ⟨b1, b2, -, -⟩ := hQ.2.2.1 _ ht
  obtain ⟨w1, w2, w3, w4⟩ := hB.1 _ ht
  have one : ∀ x : Int, x.natAbs ≤ 50 → VB q (up (vN v) (aTo q k) x, up (vD v) (aTo q k) 1, vF v, vK v) MN MD := by
    intro x hx
    refine ⟨fun i hi => ?_, hB.2⟩
    by_cases e : i = aTo q k
    · subst e
      rw [show vN (up (vN v) (aTo q k) x, up (vD v) (aTo q k) 1, vF v, vK v) (aTo q k) = x from up_s _ _ _, show vD (up (vN v) (aTo q k) x, up (vD v) (aTo q k) 1, vF v, vK v) (aTo q k) = 1 from up_s _ _ _]
      exact ⟨by unfold MN; omega, by omega, by decide, Int.gcd_one_right x⟩
    · rw [show vN (up (vN v) (aTo q k) x, up (vD v) (aTo q k) 1, vF v, vK v) i = vN v i from up_n e, show vD (up (vN v) (aTo q k) x, up (vD v) (aTo q k) 1, vF v, vK v) i = vD v i from up_n e]
      exact hB.1 i hi
  unfold aAct
  split
  · rename_i a0
    split
    · exact one _ b2
    · rename_i e1
      split
      · exact one _ b1
      · rename_i e2
        refine ⟨fun i hi => ?_, hB.2⟩
        by_cases e : i = aTo q k
        · subst e
          rw [show vN (up (vN v) (aTo q k) (vN v (aTo q k) + aBy q k * vD v (aTo q k)), vD v, vF v, vK v) (aTo q k) = vN v (aTo q k) + aBy q k * vD v (aTo q k) from up_s _ _ _]
          have n1 := nb_mul b1 w3
          have n2 := nb_mul b2 w3
          refine ⟨?_, w2, w3, cop_add w4⟩
          unfold MN MD at *
          omega
        · rw [show vN (up (vN v) (aTo q k) (vN v (aTo q k) + aBy q k * vD v (aTo q k)), vD v, vF v, vK v) i = vN v i from up_n e]
          exact hB.1 i hi
  · split
    · exact hB
    · exact hB
theorem aLink_b {q : AC} {v : AV} (hQ : QOK q) (hB : VB q v MN MD) {b z k : Nat} (hk : k < aL q) : VB q (aLink q b z k v) MN MD := by
  have hL8 := hQ.2.1
  obtain ⟨-, -, q3, q4, -⟩ := hQ.2.2.2.2 k hk
  have cnt : ∀ x : Nat, x < aNt q k → VB q (vN v, vD v, vF v, up (vK v) k x) MN MD := by
    intro x hx
    refine ⟨hB.1, fun j hj => ?_, fun j hj => ?_⟩
    · by_cases e : j = k
      · subst e
        rw [show vK (vN v, vD v, vF v, up (vK v) j x) j = x from up_s _ _ _]
        exact hx
      · rw [show vK (vN v, vD v, vF v, up (vK v) k x) j = vK v j from up_n e]
        exact hB.2.1 j hj
    · by_cases e : j = k
      · subst e
        rw [show vK (vN v, vD v, vF v, up (vK v) j x) j = x from up_s _ _ _]
        omega
      · rw [show vK (vN v, vD v, vF v, up (vK v) k x) j = vK v j from up_n e]
        exact hB.2.2 j hj
  have hlt := hB.2.1 k hk
  unfold aLink
  split
  · split
    · exact aAct_b hQ (cnt 0 (by omega)) hk
    · exact cnt _ (by omega)
  · exact hB
theorem po_B {q : AC} {v : AV} {c : Ci} {s : Sw} (hQ : QOK q) (hC : CRep q c) {num den : Al} {fil cnt : Ar} (hV : VRep v num den fil cnt) (hB : VB q v MN MD) {b z : Nat} (hb : b < 4) (hz : z ≤ 1) (e7 : s.2.2.2.2.2.2.1 = nI b) (e8 : s.2.2.2.2.2.2.2.1 = nI z) {k : Nat} (hk : k < aL q) :
    ∃ (num2 den2 : Al) (fil2 cnt2 : Ar), (∀ rec, f_X1_passOn_B2 s c rec (nI k) num den fil cnt = rec (nI (k + 1)) num2 den2 fil2 cnt2) ∧ VRep (aLink q b z k v) num2 den2 fil2 cnt2 := by
  have hL8 := hQ.2.1
  have hC4 := hQ.1
  have hk8 : k < 8 := by omega
  have hcl : (nI k).toNatClampNeg = k := cl_nI (by omega)
  obtain ⟨c1, c2, c3, -, -, -⟩ := hC.2.2.2 k hk
  obtain ⟨q1, q2, q3, q4, -⟩ := hQ.2.2.2.2 k hk
  have hct := hV.2 k hk8
  have hlt := hB.2.1 k hk
  have head : ∀ rec, f_X1_passOn_B2 s c rec (nI k) num den fil cnt = if ¬ nI (aFr q k) = nI b then rec (nI (k + 1)) num den fil cnt else if ¬ nI (aAt q k) = nI z then rec (nI (k + 1)) num den fil cnt else if ¬ nI (vK v k + 1) = nI (aNt q k) then rec (nI (k + 1)) num den fil (upd cnt k (nI (vK v k + 1))) else (f_X1_doAct (s.1, s.2.1, num, den, fil, upd (upd cnt k (nI (vK v k + 1))) k 0, s.2.2.2.2.2.2) c (nI k)).bind (fun r7 => rec (nI (k + 1)) r7.1 r7.2.1 r7.2.2 (upd (upd cnt k (nI (vK v k + 1))) k 0)) := by
    intro rec
    unfold f_X1_passOn_B2 f_X1_passOn_J74
    simp only [bnd]
    rw [if_neg (by rw [hC.2.1]; exact nI_ge hk (by omega)), gd_t _ (ib_nI hk8 (by omega)), hcl, c1, c2, c3, e7, e8, hct, nI_1, nI_1, uI_s]
  unfold aLink
  by_cases f1 : aFr q k = b
  · by_cases f2 : aAt q k = z
    · rw [if_pos ⟨f1, f2⟩]
      by_cases f3 : vK v k + 1 = aNt q k
      · rw [if_pos f3]
        have hV2 : VRep (vN v, vD v, vF v, up (vK v) k 0) num den fil (upd (upd cnt k (nI (vK v k + 1))) k 0) := by
          have h := (hV.upK k (vK v k + 1) rfl).upK k 0 (y := 0) rfl
          rw [show up (vK (vN v, vD v, vF v, up (vK v) k (vK v k + 1))) k 0 = up (vK v) k 0 from up_up _ _ _ _] at h
          exact h
        have hB2 : VB q (vN v, vD v, vF v, up (vK v) k 0) MN MD := by
          have h := aLink_b (b := b) (z := z) hQ hB hk
          refine ⟨hB.1, fun j hj => ?_, fun j hj => ?_⟩
          · by_cases e : j = k
            · subst e
              rw [show vK (vN v, vD v, vF v, up (vK v) j 0) j = 0 from up_s _ _ _]
              omega
            · rw [show vK (vN v, vD v, vF v, up (vK v) k 0) j = vK v j from up_n e]
              exact hB.2.1 j hj
          · by_cases e : j = k
            · subst e
              rw [show vK (vN v, vD v, vF v, up (vK v) j 0) j = 0 from up_s _ _ _]
              omega
            · rw [show vK (vN v, vD v, vF v, up (vK v) k 0) j = vK v j from up_n e]
              exact hB.2.2 j hj
        obtain ⟨num2, den2, fil2, h1, h2⟩ := da_ok (s := (s.1, s.2.1, num, den, fil, upd (upd cnt k (nI (vK v k + 1))) k 0, s.2.2.2.2.2.2)) hQ hC hV2 hB2 hk
        refine ⟨num2, den2, fil2, upd (upd cnt k (nI (vK v k + 1))) k 0, fun rec => ?_, h2⟩
        rw [head rec, if_neg (show ¬ ¬ nI (aFr q k) = nI b by rw [f1]; exact fun h => h rfl), if_neg (show ¬ ¬ nI (aAt q k) = nI z by rw [f2]; exact fun h => h rfl), if_neg (show ¬ ¬ nI (vK v k + 1) = nI (aNt q k) by rw [f3]; exact fun h => h rfl), h1]
        rfl
      · rw [if_neg f3]
        refine ⟨num, den, fil, upd cnt k (nI (vK v k + 1)), fun rec => ?_, hV.upK k (vK v k + 1) rfl⟩
        rw [head rec, if_neg (show ¬ ¬ nI (aFr q k) = nI b by rw [f1]; exact fun h => h rfl), if_neg (show ¬ ¬ nI (aAt q k) = nI z by rw [f2]; exact fun h => h rfl), if_pos (fun h => f3 ((nI_eq (by omega) (by omega)).mp h))]
    · rw [if_neg (fun h => f2 h.2)]
      refine ⟨num, den, fil, cnt, fun rec => ?_, hV⟩
      rw [head rec, if_neg (show ¬ ¬ nI (aFr q k) = nI b by rw [f1]; exact fun h => h rfl), if_pos (fun h => f2 ((nI_eq (by omega) (by omega)).mp h))]
  · rw [if_neg (fun h => f1 h.1)]
    refine ⟨num, den, fil, cnt, fun rec => ?_, hV⟩
    rw [head rec, if_pos (fun h => f1 ((nI_eq (by omega) (by omega)).mp h))]
theorem po_L {q : AC} {c : Ci} {s : Sw} (hQ : QOK q) (hC : CRep q c) {b z : Nat} (hb : b < 4) (hz : z ≤ 1) (e7 : s.2.2.2.2.2.2.1 = nI b) (e8 : s.2.2.2.2.2.2.2.1 = nI z) :
    ∀ (n m k : Nat) (v : AV) (num den : Al) (fil cnt : Ar), k + n = aL q → n < m → VRep v num den fil cnt → VB q v MN MD →
      ∃ (num2 den2 : Al) (fil2 cnt2 : Ar), f_X1_passOn_L2 s c m (nI k) num den fil cnt = some (num2, den2, fil2, cnt2) ∧ VRep (aLinks q b z n k v) num2 den2 fil2 cnt2 ∧ VB q (aLinks q b z n k v) MN MD := by
  have hL8 := hQ.2.1
  intro n
  induction n with
  | zero =>
    intro m k v num den fil cnt hin hm hV hB
    obtain ⟨m, rfl⟩ : ∃ m', m = m' + 1 := ⟨m - 1, by omega⟩
    refine ⟨num, den, fil, cnt, ?_, hV, hB⟩
    show f_X1_passOn_B2 s c (f_X1_passOn_L2 s c m) _ _ _ _ _ = _
    unfold f_X1_passOn_B2
    rw [if_pos (by rw [hC.2.1]; exact nI_le (by omega) (by omega))]
  | succ n ih =>
    intro m k v num den fil cnt hin hm hV hB
    obtain ⟨m, rfl⟩ : ∃ m', m = m' + 1 := ⟨m - 1, by omega⟩
    have hk : k < aL q := by omega
    obtain ⟨num2, den2, fil2, cnt2, h1, h2⟩ := po_B hQ hC hV hB hb hz e7 e8 hk
    obtain ⟨num3, den3, fil3, cnt3, h3, h4, h5⟩ := ih m (k + 1) (aLink q b z k v) num2 den2 fil2 cnt2 (by omega) (by omega) h2 (aLink_b hQ hB hk)
    refine ⟨num3, den3, fil3, cnt3, ?_, h4, h5⟩
    show f_X1_passOn_B2 s c (f_X1_passOn_L2 s c m) _ _ _ _ _ = _
    rw [h1, h3]
end LINKS
