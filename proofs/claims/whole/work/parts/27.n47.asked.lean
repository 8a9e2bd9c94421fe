section ASKED
theorem RR.put {K : Nat} {gx : Xo} {gc : Ci} {gn gt : Sw} {m0 m1 m2 m3 : Ar} {m4 : Int32} {m5 : Ar} {m6 : Int32} {m7 : Al} {m10 m11 : Ar} {m12 m13 : Al} {m14 m16 : Int32} {m17 : Al} {m18 : Ar} {m19 : Int32} {m20 m21 : Al} {m22 : Int32}
    (h : RR K gx gc gn gt m0 m1 m2 m3 m4 m5 m6 m7 m10 m11 m12 m13 m14 m16 m17 m18 m19 m20 m21 m22) {r : Al} {ht : Sw} (hr : ∀ j, j < 31 → r j = m7 j) (hT : TOK ht) : RR (K + 1) gx gc gn ht m0 m1 m2 m3 m4 m5 m6 r m10 m11 m12 m13 m14 m16 m17 m18 m19 m20 m21 m22 := by
  obtain ⟨q, a, H, S, N, h1, h2, h3, h4, h5, h6, h7⟩ := h
  exact ⟨q, a, H, S, N, h1, h2, h3, h4.keep hr, by omega, hT, h7⟩
theorem R_counted {K : Nat} {gx : Xo} {gc : Ci} {gn gt : Sw} {m0 m1 m2 m3 : Ar} {m4 : Int32} {m5 : Ar} {m6 : Int32} {m7 : Al} {m10 m11 : Ar} {m12 m13 : Al} {m14 m16 : Int32} {m17 : Al} {m18 : Ar} {m19 : Int32} {m20 m21 : Al} {m22 : Int32}
    (h : RR K gx gc gn gt m0 m1 m2 m3 m4 m5 m6 m7 m10 m11 m12 m13 m14 m16 m17 m18 m19 m20 m21 m22) (p1 : Int32) : ∃ (v : Int32), f_X2_counted gc gn p1 = some v ∧ f_X3_counted m6 m7 p1 = some (v, 0) := by
  obtain ⟨q, a, H, S, N, hQ, hC, hM, hMM, hH, hT, h14, hG, hD, hE⟩ := id h
  obtain ⟨z, b1, rfl⟩ := ofI p1
  have hL8 := hQ.2.1
  have e1 : (iI z < 0) = (z < 0) := ltE (b := 0) b1 (by omega)
  have e2 : (gc.2.2.2.2.2.1 ≤ iI z) = ((aL q : Int) ≤ z) := by rw [hC.2.1, nI_iI]; exact leE (by omega) b1
  have e3 : f_X3_in (iI z) 0 (m6 - 1) = some (decide (0 ≤ z ∧ z ≤ (aL q : Int) - 1)) := by
    rw [hM.2.1, nI_iI, show (1 : Int32) = iI 1 from rfl, iI_sub]
    exact in_ok (lo := 0) b1 (by omega) (by omega)
  unfold f_X2_counted f_X3_counted
  simp only [e1, e2, e3, Option.bind_some, b2i_d]
  by_cases g0 : z < 0
  · rw [if_pos g0, if_pos (show ¬ (0 ≤ z ∧ z ≤ (aL q : Int) - 1) by omega)]
    exact ⟨_, rfl, rfl⟩
  · by_cases g1 : (aL q : Int) ≤ z
    · rw [if_neg g0, if_pos g1, if_pos (show ¬ (0 ≤ z ∧ z ≤ (aL q : Int) - 1) by omega)]
      exact ⟨_, rfl, rfl⟩
    · rw [if_neg g0, if_neg g1, if_neg (show ¬ ¬ (0 ≤ z ∧ z ≤ (aL q : Int) - 1) by omega)]
      obtain ⟨i, hi, rfl⟩ : ∃ i : Nat, i < aL q ∧ z = i := ⟨z.toNat, by omega, by omega⟩
      have h0 : 0 < aC q := by have := (hQ.2.2.2.2 i hi).1; omega
      rw [← nI_iI i, ix12, gd_t _ (ib_nI (show i < 8 by omega) (by omega)), gd_t _ (ib_nI (show 12 + i < 31 by omega) (by omega)), cl_nI (show i < 2147483648 by omega), cl_nI (show 12 + i < 2147483648 by omega), (hMM.2.1.rep h0).2.2.2 i (by omega), hMM.2.2.1.2.2.2 i (by omega), l2i_lI, nI_iI]
      exact ⟨_, rfl, rfl⟩
theorem R_event {K : Nat} {gx : Xo} {gc : Ci} {gn gt : Sw} {m0 m1 m2 m3 : Ar} {m4 : Int32} {m5 : Ar} {m6 : Int32} {m7 : Al} {m10 m11 : Ar} {m12 m13 : Al} {m14 m16 : Int32} {m17 : Al} {m18 : Ar} {m19 : Int32} {m20 m21 : Al} {m22 : Int32}
    (h : RR K gx gc gn gt m0 m1 m2 m3 m4 m5 m6 m7 m10 m11 m12 m13 m14 m16 m17 m18 m19 m20 m21 m22) (hK : K ≤ 1000) (p1 p2 : Int32) : ∃ (v : Int32), f_X2_event gx p1 p2 = some v ∧ f_X3_event m7 m10 m11 m12 m13 p1 p2 = some (v, 0) := by
  obtain ⟨q, a, H, S, N, hQ, hC, hM, hMM, hH, hT, h14, hG, hD, hE⟩ := id h
  obtain ⟨z, b1, rfl⟩ := ofI p1
  have e1 : (iI z < 0) = (z < 0) := ltE (b := 0) b1 (by omega)
  have e2 : (iI z < gx.1) = (z < (H : Int)) := by rw [hMM.2.2.2.1, nI_iI]; exact ltE b1 (by omega)
  have e3 : (iI z < 500) = (z < 500) := ltE (b := 500) b1 (by omega)
  have e5 : ((500 : Int32) ≤ iI z) = (500 ≤ z) := leE (a := 500) (by omega) b1
  have e4 : ((0 : Int32) ≤ lg_cmp (iI z).toInt64 (m7 30)) = ((H : Int) ≤ z) := by
    rw [hMM.2.2.2.2.1, i2l_iI b1]
    exact propext (by rw [lg_cmp_ge, lI_le (by omega) (by omega)])
  unfold f_X2_event f_X2_isKept f_X3_event
  simp only [e1, e2, e3, e5]
  by_cases g0 : z < 0
  · rw [if_pos g0, if_pos g0, Option.bind_some, if_pos (show b2i false = 0 by decide)]
    exact ⟨_, rfl, rfl⟩
  · rw [if_neg g0, if_neg g0, gd_t _ (show ib 30 31 = true by decide)]
    simp only [show (30 : Int32).toNatClampNeg = 30 from rfl, e4]
    by_cases g2 : z < 500
    · rw [if_neg (show ¬ (500 : Int) ≤ z by omega), Option.bind_some, if_neg (show ¬ b2i true = 0 by decide)]
      by_cases g1 : (H : Int) ≤ z
      · rw [if_neg (show ¬ z < (H : Int) by omega), if_pos g1]
        exact ⟨_, rfl, rfl⟩
      · rw [if_pos (show z < (H : Int) by omega), if_neg g1, if_pos g2]
        obtain ⟨i, hi, rfl⟩ : ∃ i : Nat, i < H ∧ z = i := ⟨z.toNat, by omega, by omega⟩
        have h5 : i < 500 := by omega
        obtain ⟨n, d, p, s, k1, k2, k3, k4, k5, k6, k7, k8, k9, k10⟩ := hMM.2.2.2.2.2.1 i hi h5
        have hib := ib_nI h5 (by omega)
        rw [← nI_iI i]
        simp only [gd_t _ hib, cl_nI (show i < 2147483648 by omega), k6, k7, k8, k9, k10]
        unfold f_X2_turnedIn f_X2_sideIn f_X2_timeNumIn f_X2_timeDenIn
        simp only [Option.bind_some, pk_turn k1 k2 k3 k4 k5, pk_side (n := n) (d := d) (p := p) k5, pk_num k1 k2 k3 k4 k5, pk_den k1 k2 k3 k4 k5]
        simp only [l2i_lI, nI_iI]
        split
        · exact ⟨_, rfl, rfl⟩
        · split
          · exact ⟨_, rfl, rfl⟩
          · split
            · exact ⟨_, rfl, rfl⟩
            · split
              · exact ⟨_, rfl, rfl⟩
              · exact ⟨_, rfl, rfl⟩
    · rw [if_pos (show (500 : Int) ≤ z by omega), Option.bind_some, if_pos (show b2i false = 0 by decide)]
      by_cases g1 : (H : Int) ≤ z
      · rw [if_pos g1]
        exact ⟨_, rfl, rfl⟩
      · rw [if_neg g1, if_neg g2]
        exact ⟨_, rfl, rfl⟩
theorem R_ringed {K : Nat} {gx : Xo} {gc : Ci} {gn gt : Sw} {m0 m1 m2 m3 : Ar} {m4 : Int32} {m5 : Ar} {m6 : Int32} {m7 : Al} {m10 m11 : Ar} {m12 m13 : Al} {m14 m16 : Int32} {m17 : Al} {m18 : Ar} {m19 : Int32} {m20 m21 : Al} {m22 : Int32}
    (h : RR K gx gc gn gt m0 m1 m2 m3 m4 m5 m6 m7 m10 m11 m12 m13 m14 m16 m17 m18 m19 m20 m21 m22) (p1 : Int32) : ∃ (v : Int64), f_X2_ringed gx p1 = some v ∧ f_X3_ringed m16 m17 p1 = some (v, 0) := by
  obtain ⟨q, a, H, S, N, hQ, hC, hM, hMM, hH, hT, h14, hG, hD, hE⟩ := id h
  obtain ⟨z, b1, rfl⟩ := ofI p1
  unfold f_X2_ringed f_X3_ringed
  rcases hG with ⟨g1, g2⟩ | ⟨g1, g2, g3⟩
  · rw [g1, g2, if_pos rfl, if_pos rfl]
    exact ⟨_, rfl, rfl⟩
  · rw [g1, g2, if_neg (show ¬ (1 : Int32) = 0 by decide), if_neg (show ¬ (1 : Int32) = 0 by decide)]
    have e1 : (iI z < 0) = (z < 0) := ltE (b := 0) b1 (by omega)
    have e2 : ((8 : Int32) ≤ iI z) = (8 ≤ z) := leE (a := 8) (by omega) b1
    have e3 : f_X3_in (iI z) 0 7 = some (decide (0 ≤ z ∧ z ≤ 7)) := in_ok (lo := 0) (hi := 7) b1 (by omega) (by omega)
    simp only [e1, e2, e3, Option.bind_some, b2i_d]
    by_cases k0 : z < 0
    · rw [if_pos k0, if_pos (show ¬ (0 ≤ z ∧ z ≤ 7) by omega)]
      exact ⟨_, rfl, rfl⟩
    · by_cases k1 : 8 ≤ z
      · rw [if_neg k0, if_pos k1, if_pos (show ¬ (0 ≤ z ∧ z ≤ 7) by omega)]
        exact ⟨_, rfl, rfl⟩
      · rw [if_neg k0, if_neg k1, if_neg (show ¬ ¬ (0 ≤ z ∧ z ≤ 7) by omega)]
        obtain ⟨i, hi, rfl⟩ : ∃ i : Nat, i < 8 ∧ z = i := ⟨z.toNat, by omega, by omega⟩
        rw [← nI_iI i, gd_t _ (ib_nI hi (by omega)), gd_t _ (ib_nI hi (by omega)), cl_nI (by omega), g3 i hi]
        exact ⟨_, rfl, rfl⟩
theorem R_forget {K : Nat} {gx : Xo} {gc : Ci} {gn gt : Sw} {m0 m1 m2 m3 : Ar} {m4 : Int32} {m5 : Ar} {m6 : Int32} {m7 : Al} {m10 m11 : Ar} {m12 m13 : Al} {m14 m16 : Int32} {m17 : Al} {m18 : Ar} {m19 : Int32} {m20 m21 : Al} {m22 : Int32}
    (h : RR K gx gc gn gt m0 m1 m2 m3 m4 m5 m6 m7 m10 m11 m12 m13 m14 m16 m17 m18 m19 m20 m21 m22) : ∃ o o', f_X2_forget gx = some o ∧ f_X3_forget m22 = some o' ∧ o.1 = o'.1 ∧
    RR (K + 1) (gx.1, gx.2.1, gx.2.2.1, gx.2.2.2.1, gx.2.2.2.2.1, gx.2.2.2.2.2.1, gx.2.2.2.2.2.2.1, gx.2.2.2.2.2.2.2.1, gx.2.2.2.2.2.2.2.2.1, gx.2.2.2.2.2.2.2.2.2.1, gx.2.2.2.2.2.2.2.2.2.2.1, o.2, gx.2.2.2.2.2.2.2.2.2.2.2.2) gc gn gt m0 m1 m2 m3 m4 m5 m6 m7 m10 m11 m12 m13 m14 m16 m17 m18 m19 m20 m21 o'.2.1 := by
  obtain ⟨q, a, H, S, N, hQ, hC, hM, hMM, hH, hT, h14, hG, hD, hE⟩ := id h
  exact ⟨_, _, rfl, rfl, hE.2.1.trans hE.2.2.1.symm, q, a, H, S, 0, hQ, hC, hM, hMM, by omega, hT, h14, hG, hD, by omega, rfl, rfl, fun i hi => absurd hi (Nat.not_lt_zero i)⟩
theorem dr_L {S : Nat} {gx : Xo} {m18 : Ar} {m19 : Int32} (hD : DRep S gx.2.2.2.2.2.2.2.1 gx.2.2.2.2.2.2.2.2.1 m18 m19) (p : Int32) : ∀ (n m k i : Nat), i + n = S → n < m → n < k →
    (f_X2_isStocked_L2 gx p m (nI i) = some true ∧ f_X3_drawer_L28 m18 m19 p k (nI i) = some ((-1), m18, m19, 0)) ∨ (f_X2_isStocked_L2 gx p m (nI i) = some false ∧ f_X3_drawer_L28 m18 m19 p k (nI i) = gd (ib m19 10) (some (m19 + 1, upd m18 m19.toNatClampNeg p, m19 + 1, 0))) := by
  obtain ⟨d1, d2, d3, d4⟩ := hD
  intro n
  induction n with
  | zero =>
    intro m k i hin hm hk
    obtain ⟨m, rfl⟩ : ∃ m', m = m' + 1 := ⟨m - 1, by omega⟩
    obtain ⟨k, rfl⟩ : ∃ k', k = k' + 1 := ⟨k - 1, by omega⟩
    obtain rfl : i = S := by omega
    right
    constructor
    · show f_X2_isStocked_B2 gx p (f_X2_isStocked_L2 gx p m) (nI i) = _
      unfold f_X2_isStocked_B2
      rw [d2, if_pos (nI_le (Nat.le_refl i) (by omega))]
    · show f_X3_drawer_B28 m18 m19 p (f_X3_drawer_L28 m18 m19 p k) (nI i) = _
      unfold f_X3_drawer_B28
      rw [if_pos (show m19 ≤ nI i by rw [d3]; exact nI_le (Nat.le_refl i) (by omega))]
      rfl
  | succ n ih =>
    intro m k i hin hm hk
    obtain ⟨m, rfl⟩ : ∃ m', m = m' + 1 := ⟨m - 1, by omega⟩
    obtain ⟨k, rfl⟩ : ∃ k', k = k' + 1 := ⟨k - 1, by omega⟩
    obtain ⟨v, v1, v2, v3, v4⟩ := d4 i (by omega)
    have eX : f_X2_isStocked_L2 gx p (m + 1) (nI i) = if ¬ nI v = p then f_X2_isStocked_L2 gx p m (nI (i + 1)) else some true := by
      show f_X2_isStocked_B2 gx p (f_X2_isStocked_L2 gx p m) (nI i) = _
      unfold f_X2_isStocked_B2
      rw [if_neg (show ¬ gx.2.2.2.2.2.2.2.2.1 ≤ nI i by rw [d2]; exact nI_ge (a := i) (b := S) (by omega) (by omega)), gd_t _ (ib_nI (show i < 10 by omega) (by omega)), cl_nI (by omega), v3, nI_1]
    have eM : f_X3_drawer_L28 m18 m19 p (k + 1) (nI i) = if ¬ nI v = p then f_X3_drawer_L28 m18 m19 p k (nI (i + 1)) else some ((-1), m18, m19, 0) := by
      show f_X3_drawer_B28 m18 m19 p (f_X3_drawer_L28 m18 m19 p k) (nI i) = _
      unfold f_X3_drawer_B28
      rw [if_neg (show ¬ m19 ≤ nI i by rw [d3]; exact nI_ge (a := i) (b := S) (by omega) (by omega)), gd_t _ (ib_nI (show i < 10 by omega) (by omega)), cl_nI (by omega), v4, nI_1]
    rw [eX, eM]
    by_cases e : nI v = p
    · rw [if_neg (fun hh => hh e), if_neg (fun hh => hh e)]
      exact Or.inl ⟨rfl, rfl⟩
    · rw [if_pos e, if_pos e]
      exact ih m k (i + 1) (by omega) (by omega) (by omega)
theorem R_drawer {K : Nat} {gx : Xo} {gc : Ci} {gn gt : Sw} {m0 m1 m2 m3 : Ar} {m4 : Int32} {m5 : Ar} {m6 : Int32} {m7 : Al} {m10 m11 : Ar} {m12 m13 : Al} {m14 m16 : Int32} {m17 : Al} {m18 : Ar} {m19 : Int32} {m20 m21 : Al} {m22 : Int32}
    (h : RR K gx gc gn gt m0 m1 m2 m3 m4 m5 m6 m7 m10 m11 m12 m13 m14 m16 m17 m18 m19 m20 m21 m22) (p1 : Int32) : ∃ o o', f_X2_drawer gx p1 = some o ∧ f_X3_drawer m18 m19 p1 = some o' ∧ o.1 = o'.1 ∧
    RR (K + 1) (gx.1, gx.2.1, gx.2.2.1, gx.2.2.2.1, gx.2.2.2.2.1, gx.2.2.2.2.2.1, gx.2.2.2.2.2.2.1, o.2.1, o.2.2, gx.2.2.2.2.2.2.2.2.2) gc gn gt m0 m1 m2 m3 m4 m5 m6 m7 m10 m11 m12 m13 m14 m16 m17 o'.2.1 o'.2.2.1 m20 m21 m22 := by
  obtain ⟨q, a, H, S, N, hQ, hC, hM, hMM, hH, hT, h14, hG, hD, hE⟩ := id h
  obtain ⟨z, b1, rfl⟩ := ofI p1
  have hD0 := hD
  obtain ⟨d1, d2, d3, d4⟩ := hD
  have e1 := ra60 b1
  have e2 : f_X3_in (iI z) 1 60 = some (decide (1 ≤ z ∧ z ≤ 60)) := in_ok (lo := 1) (hi := 60) b1 (by omega) (by omega)
  have e3 : (gx.2.2.2.2.2.2.2.2.1 < 10) = (S < 10) := by rw [d2, nI_iI]; exact (ltE (b := 10) (by omega) (by omega)).trans (propext ⟨fun hh => by omega, fun hh => by omega⟩)
  have e4 : (m19 = 10) = (S = 10) := by rw [d3, nI_iI]; exact (eqE (b := 10) (by omega) (by omega)).trans (propext ⟨fun hh => by omega, fun hh => by omega⟩)
  unfold f_X2_drawer f_X3_drawer f_X2_isStocked
  simp only [e1, e2, e3, e4, Option.bind_some, b2i_d, bnd]
  by_cases g : 1 ≤ z ∧ z ≤ 60
  · rw [if_neg (show ¬ ¬ (1 ≤ z ∧ z ≤ 60) from fun hh => hh g), if_neg (show ¬ ¬ (1 ≤ z ∧ z ≤ 60) from fun hh => hh g)]
    rcases dr_L hD0 (iI z) S fuel fuel 0 (by omega) (by unfold fuel; omega) (by unfold fuel; omega) with ⟨k1, k2⟩ | ⟨k1, k2⟩
    · rw [show (nI 0 : Int32) = 0 from rfl] at k1 k2
      rw [k1, k2, Option.bind_some, if_pos (show ¬ b2i true = 0 by decide), ite_self]
      exact ⟨_, _, rfl, rfl, rfl, h.mono⟩
    · rw [show (nI 0 : Int32) = 0 from rfl] at k1 k2
      rw [k1, k2, Option.bind_some, if_neg (show ¬ ¬ b2i false = 0 by decide)]
      by_cases hS : S < 10
      · rw [if_pos hS, if_pos (show ¬ S = 10 by omega), d2, d3, gd_t _ (ib_nI hS (by omega)), gd_t _ (ib_nI hS (by omega)), cl_nI (by omega), nI_1]
        refine ⟨_, _, rfl, rfl, rfl, q, a, H, S + 1, N, hQ, hC, hM, hMM, by omega, hT, h14, hG, ⟨by omega, rfl, rfl, fun i hi => ?_⟩, hE⟩
        show ∃ v : Nat, 1 ≤ v ∧ v ≤ 60 ∧ upd gx.2.2.2.2.2.2.2.1 S (iI z) i = nI v ∧ upd m18 S (iI z) i = nI v
        by_cases e : i = S
        · subst e
          rw [uI_s, uI_s]
          exact ⟨z.toNat, by omega, by omega, by rw [nI_iI]; congr 1; omega, by rw [nI_iI]; congr 1; omega⟩
        · rw [uI_n e, uI_n e]
          exact d4 i (by omega)
      · rw [if_neg hS, if_neg (show ¬ ¬ S = 10 by omega)]
        exact ⟨_, _, rfl, rfl, rfl, h.mono⟩
  · rw [if_pos g, if_pos g]
    exact ⟨_, _, rfl, rfl, rfl, h.mono⟩
theorem R_measure {K : Nat} {gx : Xo} {gc : Ci} {gn gt : Sw} {m0 m1 m2 m3 : Ar} {m4 : Int32} {m5 : Ar} {m6 : Int32} {m7 : Al} {m10 m11 : Ar} {m12 m13 : Al} {m14 m16 : Int32} {m17 : Al} {m18 : Ar} {m19 : Int32} {m20 m21 : Al} {m22 : Int32}
    (h : RR K gx gc gn gt m0 m1 m2 m3 m4 m5 m6 m7 m10 m11 m12 m13 m14 m16 m17 m18 m19 m20 m21 m22) (m24 m25 : Int64) (p1 p2 : Int32) : ∃ o o', f_X2_measure gx p1 p2 = some o ∧ f_X3_measure m20 m21 m22 m24 m25 p1 p2 = some o' ∧ o.1 = o'.1 ∧
    RR (K + 1) (gx.1, gx.2.1, gx.2.2.1, gx.2.2.2.1, gx.2.2.2.2.1, gx.2.2.2.2.2.1, gx.2.2.2.2.2.2.1, gx.2.2.2.2.2.2.2.1, gx.2.2.2.2.2.2.2.2.1, o.2.1, o.2.2.1, o.2.2.2, gx.2.2.2.2.2.2.2.2.2.2.2.2) gc gn gt m0 m1 m2 m3 m4 m5 m6 m7 m10 m11 m12 m13 m14 m16 m17 m18 m19 o'.2.1 o'.2.2.1 o'.2.2.2.1 := by
  obtain ⟨q, a, H, S, N, hQ, hC, hM, hMM, hH, hT, h14, hG, hD, hE⟩ := id h
  obtain ⟨x, b1, rfl⟩ := ofI p1
  obtain ⟨y, b2, rfl⟩ := ofI p2
  obtain ⟨d1, d2, d3, d4⟩ := hE
  have e1 := tm_ok b1
  have e2 := tm_ok b2
  have e3 : f_X3_in (iI x) 1 1000000 = some (decide (1 ≤ x ∧ x ≤ 1000000)) := in_ok (lo := 1) (hi := 1000000) b1 (by omega) (by omega)
  have e4 : f_X3_in (iI y) 1 1000000 = some (decide (1 ≤ y ∧ y ≤ 1000000)) := in_ok (lo := 1) (hi := 1000000) b2 (by omega) (by omega)
  have e5 : (gx.2.2.2.2.2.2.2.2.2.2.2.1 < 8) = (N < 8) := by rw [d2, nI_iI]; exact (ltE (b := 8) (by omega) (by omega)).trans (propext ⟨fun hh => by omega, fun hh => by omega⟩)
  have e6 : (m22 = 8) = (N = 8) := by rw [d3, nI_iI]; exact (eqE (b := 8) (by omega) (by omega)).trans (propext ⟨fun hh => by omega, fun hh => by omega⟩)
  unfold f_X2_measure f_X3_measure f_X3_isFraction
  simp only [e1, e2, e3, e4, e5, e6, Option.bind_some, b2i_d, bnd]
  by_cases g1 : 1 ≤ x ∧ x ≤ 1000000
  · rw [if_neg (show ¬ ¬ (1 ≤ x ∧ x ≤ 1000000) from fun hh => hh g1), if_neg (show ¬ ¬ (1 ≤ x ∧ x ≤ 1000000) from fun hh => hh g1)]
    by_cases g2 : 1 ≤ y ∧ y ≤ 1000000
    · rw [if_neg (show ¬ ¬ (1 ≤ y ∧ y ≤ 1000000) from fun hh => hh g2), if_neg (show ¬ ¬ (1 ≤ y ∧ y ≤ 1000000) from fun hh => hh g2), Option.bind_some, if_neg (show ¬ b2i true = 0 by decide)]
      by_cases hN : N < 8
      · rw [if_pos hN, if_pos (show ¬ N = 8 by omega), i2l_iI b1, i2l_iI b2, mk_ok (by omega) (by omega) (by omega), Option.bind_some, d2, d3, gd_t _ (ib_nI hN (by omega)), gd_t _ (ib_nI hN (by omega)), cl_nI (by omega), nI_1]
        refine ⟨_, _, rfl, rfl, rfl, q, a, H, S, N + 1, hQ, hC, hM, hMM, by omega, hT, h14, hG, hD, ⟨by omega, rfl, rfl, fun i hi => ?_⟩⟩
        show ∃ n d : Nat, 1 ≤ n ∧ n ≤ 1000000 ∧ 1 ≤ d ∧ d ≤ 1000000 ∧ upd gx.2.2.2.2.2.2.2.2.2.1 N (iI x) i = nI n ∧ upd gx.2.2.2.2.2.2.2.2.2.2.1 N (iI y) i = nI d ∧ vp_updL m20 N (lI (rN x y)) i = lI (rN n d) ∧ vp_updL m21 N (lI (rD x y)) i = lI (rD n d)
        by_cases e : i = N
        · subst e
          obtain ⟨n, rfl⟩ : ∃ n : Nat, x = n := ⟨x.toNat, by omega⟩
          obtain ⟨d, rfl⟩ : ∃ d : Nat, y = d := ⟨y.toNat, by omega⟩
          rw [uI_s, uI_s, uL_s, uL_s]
          exact ⟨n, d, by omega, by omega, by omega, by omega, (nI_iI n).symm, (nI_iI d).symm, rfl, rfl⟩
        · rw [uI_n e, uI_n e, uL_n e, uL_n e]
          exact d4 i (by omega)
      · rw [if_neg hN, if_neg (show ¬ ¬ N = 8 by omega)]
        exact ⟨_, _, rfl, rfl, rfl, h.mono⟩
    · rw [if_pos g2, if_pos g2, Option.bind_some, if_pos (show b2i false = 0 by decide)]
      exact ⟨_, _, rfl, rfl, rfl, h.mono⟩
  · rw [if_pos g1, if_pos g1, Option.bind_some, if_pos (show b2i false = 0 by decide)]
    exact ⟨_, _, rfl, rfl, rfl, h.mono⟩
end ASKED
