section FAULTS2
theorem R_fits {K : Nat} {gx : Xo} {gc : Ci} {gn gt : Sw} {m0 m1 m2 m3 : Ar} {m4 : Int32} {m5 : Ar} {m6 : Int32} {m7 : Al} {m10 m11 : Ar} {m12 m13 : Al} {m14 m16 : Int32} {m17 : Al} {m18 : Ar} {m19 : Int32} {m20 m21 : Al} {m22 : Int32}
    (h : RR K gx gc gn gt m0 m1 m2 m3 m4 m5 m6 m7 m10 m11 m12 m13 m14 m16 m17 m18 m19 m20 m21 m22) (m8 m9 : Al) (m24 m25 : Int64) (m26 m27 : Int32) (p1 : Int32) :
    ∃ o o', f_X2_fits gx gc gt p1 = some o ∧ f_X3_fits m0 m1 m2 m3 m4 m5 m6 m7 m8 m9 m10 m11 m12 m13 m14 m20 m21 m22 m24 m25 m26 m27 p1 = some o' ∧ o.1 = o'.1 ∧ RR (K + 1) gx gc gn o.2 m0 m1 m2 m3 m4 m5 m6 o'.2.1 o'.2.2.2.2.1 o'.2.2.2.2.2.1 o'.2.2.2.2.2.2.1 o'.2.2.2.2.2.2.2.1 o'.2.2.2.2.2.2.2.2.1 m16 m17 m18 m19 m20 m21 m22 := by
  obtain ⟨q, a, H, S, N, hQ, hC, hM, hMM, hH, hT, h14, hG, hD, hE⟩ := id h
  obtain ⟨x, b1, rfl⟩ := ofI p1
  have hC4 := hQ.1
  have i1 := ic_ok hC4 hC.1 b1
  have i2 := im_ok hC4 hM.1 b1
  unfold f_X2_fits f_X3_fits
  rw [h14]
  simp only [i1, i2, Option.bind_some, b2i_d]
  by_cases g : 0 ≤ x ∧ x < (aC q : Int)
  · rw [if_pos (show ¬ ¬ (0 ≤ x ∧ x < (aC q : Int)) from fun hh => hh g), if_neg (show ¬ ¬ (0 ≤ x ∧ x < (aC q : Int)) from fun hh => hh g)]
    obtain ⟨c, hc, rfl⟩ : ∃ c : Nat, c < aC q ∧ x = c := ⟨x.toNat, by omega, by omega⟩
    obtain ⟨b, hh, k7, k8, k9, k24, k25, k26, k27, w1, w2, w3, w4⟩ := so_ok (gx := gx) (gt := gt) hQ hC hM hE hc hT m7 m8 m9 m10 m11 m12 m13 m24 m25 m26 m27
    rw [← nI_iI c, w1, w2, Option.bind_some, Option.bind_some]
    cases b with
    | true =>
      rw [if_neg (show ¬ b2i true = 0 by decide), if_neg (show ¬ b2i true = 0 by decide)]
      exact ⟨_, _, rfl, rfl, rfl, q, a, H, S, N, hQ, hC, hM, hMM.keep w3, by omega, w4, rfl, hG, hD, hE⟩
    | false =>
      rw [if_pos (show b2i false = 0 by decide), if_pos (show b2i false = 0 by decide)]
      exact ⟨_, _, rfl, rfl, rfl, q, a, H, S, N, hQ, hC, hM, hMM.keep w3, by omega, w4, rfl, hG, hD, hE⟩
  · rw [if_neg (show ¬ ¬ ¬ (0 ≤ x ∧ x < (aC q : Int)) from fun hh => hh g), if_pos (show ¬ (0 ≤ x ∧ x < (aC q : Int)) from g)]
    exact ⟨_, _, rfl, rfl, rfl, q, a, H, S, N, hQ, hC, hM, hMM, by omega, hT, rfl, hG, hD, hE⟩
/-- both searches, whole -/
theorem fa_ok {K : Nat} {gx : Xo} {gc : Ci} {gn gt : Sw} {m0 m1 m2 m3 : Ar} {m4 : Int32} {m5 : Ar} {m6 : Int32} {m7 : Al} {m10 m11 : Ar} {m12 m13 : Al} {m14 m16 : Int32} {m17 : Al} {m18 : Ar} {m19 : Int32} {m20 m21 : Al} {m22 : Int32}
    (h : RR K gx gc gn gt m0 m1 m2 m3 m4 m5 m6 m7 m10 m11 m12 m13 m14 m16 m17 m18 m19 m20 m21 m22) (m8 m9 : Al) (m24 m25 : Int64) (m26 m27 : Int32) {q : AC} {a : AM} {H S N c : Nat} (hQ : QOK q) (hC : CRep q gc) (hM : MRep q m0 m1 m2 m3 m4 m5 m6) (hT : TOK gt) (hD : DRep S gx.2.2.2.2.2.2.2.1 gx.2.2.2.2.2.2.2.2.1 m18 m19) (hE : ERep N gx.2.2.2.2.2.2.2.2.2.1 gx.2.2.2.2.2.2.2.2.2.2.1 gx.2.2.2.2.2.2.2.2.2.2.2.1 m20 m21 m22) (hc : c < aC q) {z : Int} (hz : B31 z) (hz1 : -1 ≤ z) :
    GF q z m7 gc m0 m1 m4 m5 m6 m10 m11 m12 m13 0 gx.2.2.2.2.2.2.2.2.2.2.2.2.2 (f_X2_findFaults gx gc gt (nI c)) (f_X3_explaining m0 m1 m2 m3 m4 m5 m6 m7 m8 m9 m10 m11 m12 m13 1 m18 m19 m20 m21 m22 m24 m25 m26 m27 (nI c) (iI z)) := by
  have hC4 := hQ.1
  have h1 := fa_all (z := z) (R := m7) (gc := gc) (m0 := m0) (m1 := m1) (m5 := m5) (m6 := m6) (m10 := m10) (m11 := m11) (m12 := m12) (m13 := m13) hQ hD hE hc hz hz1 hC.1 hM.1 (aC q) fuel fuel 0 (by omega) (by unfold fuel; omega) (by unfold fuel; omega) 0 gx.2.2.2.2.2.2.2.2.2.2.2.2.2 gc.2.2.2.1 gc.2.2.2.2.1 gt m2 m3 m7 m8 m9 m24 m25 m26 m27 (by omega) ⟨hC, hT, hM, fun _ _ => rfl⟩
  unfold f_X2_findFaults f_X3_explaining
  rw [n00]
  exact h1
theorem R_faults {K : Nat} {gx : Xo} {gc : Ci} {gn gt : Sw} {m0 m1 m2 m3 : Ar} {m4 : Int32} {m5 : Ar} {m6 : Int32} {m7 : Al} {m10 m11 : Ar} {m12 m13 : Al} {m14 m16 : Int32} {m17 : Al} {m18 : Ar} {m19 : Int32} {m20 m21 : Al} {m22 : Int32}
    (h : RR K gx gc gn gt m0 m1 m2 m3 m4 m5 m6 m7 m10 m11 m12 m13 m14 m16 m17 m18 m19 m20 m21 m22) (m8 m9 : Al) (m24 m25 : Int64) (m26 m27 : Int32) (p1 : Int32) :
    ∃ o o', f_X2_faults gx gc gt p1 = some o ∧ f_X3_faults m0 m1 m2 m3 m4 m5 m6 m7 m8 m9 m10 m11 m12 m13 m14 m18 m19 m20 m21 m22 m24 m25 m26 m27 p1 = some o' ∧ o.1 = o'.1 ∧ RR (K + 1) (gx.1, gx.2.1, gx.2.2.1, gx.2.2.2.1, gx.2.2.2.2.1, gx.2.2.2.2.2.1, gx.2.2.2.2.2.2.1, gx.2.2.2.2.2.2.2.1, gx.2.2.2.2.2.2.2.2.1, gx.2.2.2.2.2.2.2.2.2.1, gx.2.2.2.2.2.2.2.2.2.2.1, gx.2.2.2.2.2.2.2.2.2.2.2.1, gx.2.2.2.2.2.2.2.2.2.2.2.2.1, o.2.1) (gc.1, gc.2.1, gc.2.2.1, o.2.2.1, o.2.2.2.1, gc.2.2.2.2.2) gn o.2.2.2.2 m0 m1 o'.2.1 o'.2.2.1 m4 m5 m6 o'.2.2.2.1 o'.2.2.2.2.2.2.1 o'.2.2.2.2.2.2.2.1 o'.2.2.2.2.2.2.2.2.1 o'.2.2.2.2.2.2.2.2.2.1 o'.2.2.2.2.2.2.2.2.2.2.1 m16 m17 m18 m19 m20 m21 m22 := by
  obtain ⟨q, a, H, S, N, hQ, hC, hM, hMM, hH, hT, h14, hG, hD, hE⟩ := id h
  obtain ⟨x, b1, rfl⟩ := ofI p1
  have hC4 := hQ.1
  have i1 := ic_ok hC4 hC.1 b1
  have i2 := im_ok hC4 hM.1 b1
  unfold f_X2_faults f_X3_faults
  rw [h14]
  simp only [i1, i2, Option.bind_some, b2i_d]
  by_cases g : 0 ≤ x ∧ x < (aC q : Int)
  · rw [if_neg (show ¬ ¬ (0 ≤ x ∧ x < (aC q : Int)) from fun hh => hh g), if_neg (show ¬ ¬ (0 ≤ x ∧ x < (aC q : Int)) from fun hh => hh g)]
    obtain ⟨c, hc, rfl⟩ : ∃ c : Nat, c < aC q ∧ x = c := ⟨x.toNat, by omega, by omega⟩
    obtain ⟨T, fin, c3, c4, ht, g1, g2, g3, g4, g5, g6, g7⟩ := fa_ok h m8 m9 m24 m25 m26 m27 (a := a) (H := H) hQ hC hM hT hD hE hc (z := -1) (by omega) (by omega)
    obtain ⟨k2, k3, k7, k8, k9, k24, k25, k26, k27, g8, g9, g10⟩ := g7 (Or.inl (by decide))
    rw [if_pos (show (-1 : Int) < 0 by decide), ← mI1] at g8
    rw [← nI_iI c, g1, g8, Option.bind_some, Option.bind_some]
    exact ⟨_, _, rfl, rfl, rfl, q, a, H, S, N, hQ, g5, g9, hMM.keep g10, by omega, g6, rfl, hG, hD, hE⟩
  · rw [if_pos (show ¬ (0 ≤ x ∧ x < (aC q : Int)) from g), if_pos (show ¬ (0 ≤ x ∧ x < (aC q : Int)) from g)]
    exact ⟨_, _, rfl, rfl, rfl, q, a, H, S, N, hQ, hC, hM, hMM, by omega, hT, rfl, hG, hD, hE⟩
theorem R_fault {K : Nat} {gx : Xo} {gc : Ci} {gn gt : Sw} {m0 m1 m2 m3 : Ar} {m4 : Int32} {m5 : Ar} {m6 : Int32} {m7 : Al} {m10 m11 : Ar} {m12 m13 : Al} {m14 m16 : Int32} {m17 : Al} {m18 : Ar} {m19 : Int32} {m20 m21 : Al} {m22 : Int32}
    (h : RR K gx gc gn gt m0 m1 m2 m3 m4 m5 m6 m7 m10 m11 m12 m13 m14 m16 m17 m18 m19 m20 m21 m22) (m8 m9 : Al) (m24 m25 : Int64) (m26 m27 : Int32) (p1 p2 : Int32) :
    ∃ o o', f_X2_fault gx gc gt p1 p2 = some o ∧ f_X3_fault m0 m1 m2 m3 m4 m5 m6 m7 m8 m9 m10 m11 m12 m13 m14 m18 m19 m20 m21 m22 m24 m25 m26 m27 p1 p2 = some o' ∧ o.1 = o'.1 ∧ RR (K + 1) (gx.1, gx.2.1, gx.2.2.1, gx.2.2.2.1, gx.2.2.2.2.1, gx.2.2.2.2.2.1, gx.2.2.2.2.2.2.1, gx.2.2.2.2.2.2.2.1, gx.2.2.2.2.2.2.2.2.1, gx.2.2.2.2.2.2.2.2.2.1, gx.2.2.2.2.2.2.2.2.2.2.1, gx.2.2.2.2.2.2.2.2.2.2.2.1, gx.2.2.2.2.2.2.2.2.2.2.2.2.1, o.2.1) (gc.1, gc.2.1, gc.2.2.1, o.2.2.1, o.2.2.2.1, gc.2.2.2.2.2) gn o.2.2.2.2 m0 m1 o'.2.1 o'.2.2.1 m4 m5 m6 o'.2.2.2.1 o'.2.2.2.2.2.2.1 o'.2.2.2.2.2.2.2.1 o'.2.2.2.2.2.2.2.2.1 o'.2.2.2.2.2.2.2.2.2.1 o'.2.2.2.2.2.2.2.2.2.2.1 m16 m17 m18 m19 m20 m21 m22 := by
  obtain ⟨q, a, H, S, N, hQ, hC, hM, hMM, hH, hT, h14, hG, hD, hE⟩ := id h
  obtain ⟨x, b1, rfl⟩ := ofI p1
  obtain ⟨y, b2, rfl⟩ := ofI p2
  have hC4 := hQ.1
  have i1 := ic_ok hC4 hC.1 b1
  have i2 := im_ok hC4 hM.1 b1
  have e0 : (iI y < 0) = (y < 0) := ltE (b := 0) b2 (by omega)
  have e1 : ((0 : Int32) ≤ iI y) = (0 ≤ y) := leE (a := 0) (by omega) b2
  unfold f_X2_fault f_X3_fault f_X2_fault_J17
  rw [h14]
  simp only [i1, i2, Option.bind_some, b2i_d, e0, e1]
  by_cases g : 0 ≤ x ∧ x < (aC q : Int)
  · rw [if_neg (show ¬ ¬ (0 ≤ x ∧ x < (aC q : Int)) from fun hh => hh g), if_neg (show ¬ ¬ (0 ≤ x ∧ x < (aC q : Int)) from fun hh => hh g)]
    obtain ⟨c, hc, rfl⟩ : ∃ c : Nat, c < aC q ∧ x = c := ⟨x.toNat, by omega, by omega⟩
    by_cases k : y < 0
    · obtain ⟨T, fin, c3, c4, ht, g1, g2, g3, g4, g5, g6, g7⟩ := fa_ok h m8 m9 m24 m25 m26 m27 (a := a) (H := H) hQ hC hM hT hD hE hc (z := -1) (by omega) (by omega)
      rw [← nI_iI c, g1, Option.bind_some, if_pos k, if_pos k]
      exact ⟨_, _, rfl, rfl, rfl, q, a, H, S, N, hQ, g5, hM, hMM, by omega, g6, rfl, hG, hD, hE⟩
    · obtain ⟨T, fin, c3, c4, ht, g1, g2, g3, g4, g5, g6, g7⟩ := fa_ok h m8 m9 m24 m25 m26 m27 (a := a) (H := H) hQ hC hM hT hD hE hc (z := y) b2 (by omega)
      obtain ⟨k2, k3, k7, k8, k9, k24, k25, k26, k27, g8, g9, g10⟩ := g7 (Or.inr (by omega))
      rw [if_neg k] at g8
      have h3 : (nI T ≤ iI y) = ((T : Int) ≤ y) := by rw [nI_iI]; exact leE (by omega) b2
      rw [← nI_iI c, g1, g8, Option.bind_some, Option.bind_some, if_neg k, if_neg k]
      simp only [h3]
      by_cases k2' : y < (T : Int)
      · rw [if_neg (show ¬ (T : Int) ≤ y by omega), if_pos k2']
        obtain ⟨l, hl, rfl⟩ : ∃ l : Nat, l < 80 ∧ y = l := ⟨y.toNat, by omega, by omega⟩
        rw [← nI_iI l, gd_t _ (ib_nI hl (by omega)), cl_nI (by omega)]
        exact ⟨_, _, rfl, rfl, rfl, q, a, H, S, N, hQ, g5, g9, hMM.keep g10, by omega, g6, rfl, hG, hD, hE⟩
      · rw [if_pos (show (T : Int) ≤ y by omega), if_neg k2']
        exact ⟨_, _, rfl, rfl, rfl, q, a, H, S, N, hQ, g5, g9, hMM.keep g10, by omega, g6, rfl, hG, hD, hE⟩
  · rw [if_pos (show ¬ (0 ≤ x ∧ x < (aC q : Int)) from g), if_pos (show ¬ (0 ≤ x ∧ x < (aC q : Int)) from g)]
    by_cases k : y < 0
    · rw [if_pos k]
      exact ⟨_, _, rfl, rfl, rfl, q, a, H, S, N, hQ, hC, hM, hMM, by omega, hT, rfl, hG, hD, hE⟩
    · rw [if_neg k, if_pos (show 0 ≤ y by omega)]
      exact ⟨_, _, rfl, rfl, rfl, q, a, H, S, N, hQ, hC, hM, hMM, by omega, hT, rfl, hG, hD, hE⟩
end FAULTS2
