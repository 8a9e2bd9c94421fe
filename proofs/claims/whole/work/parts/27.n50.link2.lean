section LINK2
theorem qLink_M {q : AC} {m0 m1 m2 m3 m5 g2 : Ar} {m4 m6 : Int32} (hM : MRep q m0 m1 m2 m3 m4 m5 m6) {fr at' nt to ac : Nat} {b : Int} (h1 : ∀ j, j < 6 → g2 (6 * aL q + j) = ar6 (nI fr) (nI at') (nI nt) (nI to) (nI ac) (iI b) j) (h2 : ∀ j, j < 6 * aL q → g2 j = m5 j) : MRep (qLink q fr at' nt to ac b) m0 m1 m2 m3 m4 g2 (nI (aL q + 1)) := by
  obtain ⟨c1, c2, c3, c4⟩ := hM
  refine ⟨c1, rfl, c3, fun k hk => ?_⟩
  replace hk : k < aL q + 1 := hk
  show g2 (6 * k) = nI (up (aFr q) (aL q) fr k) ∧ g2 (6 * k + 1) = nI (up (aAt q) (aL q) at' k) ∧ g2 (6 * k + 2) = nI (up (aNt q) (aL q) nt k) ∧ g2 (6 * k + 3) = nI (up (aTo q) (aL q) to k) ∧ g2 (6 * k + 4) = nI (up (aAc q) (aL q) ac k) ∧ g2 (6 * k + 5) = iI (up (aBy q) (aL q) b k)
  by_cases e : k = aL q
  · subst e
    rw [up_s, up_s, up_s, up_s, up_s, up_s]
    exact ⟨h1 0 (by omega), h1 1 (by omega), h1 2 (by omega), h1 3 (by omega), h1 4 (by omega), h1 5 (by omega)⟩
  · rw [up_n e, up_n e, up_n e, up_n e, up_n e, up_n e, h2 _ (by omega), h2 _ (by omega), h2 _ (by omega), h2 _ (by omega), h2 _ (by omega), h2 _ (by omega)]
    exact c4 k (by omega)
theorem R_link {K : Nat} {gx : Xo} {gc : Ci} {gn gt : Sw} {m0 m1 m2 m3 : Ar} {m4 : Int32} {m5 : Ar} {m6 : Int32} {m7 : Al} {m10 m11 : Ar} {m12 m13 : Al} {m14 m16 : Int32} {m17 : Al} {m18 : Ar} {m19 : Int32} {m20 m21 : Al} {m22 : Int32}
    (h : RR K gx gc gn gt m0 m1 m2 m3 m4 m5 m6 m7 m10 m11 m12 m13 m14 m16 m17 m18 m19 m20 m21 m22) (p1 p2 p3 p4 p5 p6 : Int32) :
    ∃ o o', f_X2_link gx gc gn p1 p2 p3 p4 p5 p6 = some o ∧ f_X3_link m0 m4 m5 m6 m7 p1 p2 p3 p4 p5 p6 = some o' ∧ o.1 = o'.1 ∧
      RR (K + 1) (o.2.1, o.2.2.1, o.2.2.2.1, gx.2.2.2) (gc.1, gc.2.1, gc.2.2.1, gc.2.2.2.1, gc.2.2.2.2.1, o.2.2.2.2.1, o.2.2.2.2.2.1, o.2.2.2.2.2.2.1, o.2.2.2.2.2.2.2.1, o.2.2.2.2.2.2.2.2.1, o.2.2.2.2.2.2.2.2.2.1, o.2.2.2.2.2.2.2.2.2.2.1) (o.2.2.2.2.2.2.2.2.2.2.2.1, o.2.2.2.2.2.2.2.2.2.2.2.2.1, o.2.2.2.2.2.2.2.2.2.2.2.2.2.1, o.2.2.2.2.2.2.2.2.2.2.2.2.2.2.1, o.2.2.2.2.2.2.2.2.2.2.2.2.2.2.2.1, o.2.2.2.2.2.2.2.2.2.2.2.2.2.2.2.2, gn.2.2.2.2.2.2) gt
        m0 m1 m2 m3 m4 o'.2.1 o'.2.2.1 o'.2.2.2.1 m10 m11 m12 m13 m14 m16 m17 m18 m19 m20 m21 m22 := by
  obtain ⟨q, a, H, S, N, hQ, hC, hM, hMM, hH, hT, h14, hG, hD, hE⟩ := id h
  obtain ⟨z1, b1, rfl⟩ := ofI p1
  obtain ⟨z2, b2, rfl⟩ := ofI p2
  obtain ⟨z3, b3, rfl⟩ := ofI p3
  obtain ⟨z4, b4, rfl⟩ := ofI p4
  obtain ⟨z5, b5, rfl⟩ := ofI p5
  obtain ⟨z6, b6, rfl⟩ := ofI p6
  have hC4 := hQ.1
  have hL8 := hQ.2.1
  have eX : f_X2_link gx gc gn (iI z1) (iI z2) (iI z3) (iI z4) (iI z5) (iI z6) = if (0 ≤ z1 ∧ z1 < (aC q : Int)) ∧ (0 ≤ z4 ∧ z4 < (aC q : Int)) ∧ (z2 = 0 ∨ z2 = 1) ∧ (1 ≤ z3 ∧ z3 ≤ 9) ∧ ((z5 = 0 ∧ -20 ≤ z6 ∧ z6 ≤ 20) ∨ z5 = 1 ∨ (z5 = 2 ∧ (z6 = 0 ∨ z6 = 1))) ∧ aL q < 8 then
      (f_X2_startAgain gx (gc.1, gc.2.1, gc.2.2.1, gc.2.2.2.1, gc.2.2.2.2.1, nI (aL q + 1), upd gc.2.2.2.2.2.2.1 (aL q) (iI z1), upd gc.2.2.2.2.2.2.2.1 (aL q) (iI z2), upd gc.2.2.2.2.2.2.2.2.1 (aL q) (iI z3), upd gc.2.2.2.2.2.2.2.2.2.1 (aL q) (iI z4), upd gc.2.2.2.2.2.2.2.2.2.2.1 (aL q) (iI z5), upd gc.2.2.2.2.2.2.2.2.2.2.2 (aL q) (iI z6)) gn).bind (fun r12 => some (nI (aL q), r12.1, r12.2.1, r12.2.2.1, nI (aL q + 1), upd gc.2.2.2.2.2.2.1 (aL q) (iI z1), upd gc.2.2.2.2.2.2.2.1 (aL q) (iI z2), upd gc.2.2.2.2.2.2.2.2.1 (aL q) (iI z3), upd gc.2.2.2.2.2.2.2.2.2.1 (aL q) (iI z4), upd gc.2.2.2.2.2.2.2.2.2.2.1 (aL q) (iI z5), upd gc.2.2.2.2.2.2.2.2.2.2.2 (aL q) (iI z6), r12.2.2.2.1, r12.2.2.2.2.1, r12.2.2.2.2.2.1, r12.2.2.2.2.2.2.1, r12.2.2.2.2.2.2.2.1, r12.2.2.2.2.2.2.2.2))
      else some ((-1), gx.1, gx.2.1, gx.2.2.1, nI (aL q), gc.2.2.2.2.2.2.1, gc.2.2.2.2.2.2.2.1, gc.2.2.2.2.2.2.2.2.1, gc.2.2.2.2.2.2.2.2.2.1, gc.2.2.2.2.2.2.2.2.2.2.1, gc.2.2.2.2.2.2.2.2.2.2.2, gn.1, gn.2.1, gn.2.2.1, gn.2.2.2.1, gn.2.2.2.2.1, gn.2.2.2.2.2.1) := by
    have i1 := ic_ok hC4 hC.1 b1
    have i4 := ic_ok hC4 hC.1 b4
    have i5 := act_c b5 b6
    have e0 : (iI z2 = 0) = (z2 = 0) := eqE (b := 0) b2 (by omega)
    have e1 : (iI z2 = 1) = (z2 = 1) := eqE (b := 1) b2 (by omega)
    have e2 : (iI z3 < 1) = (z3 < 1) := ltE (b := 1) b3 (by omega)
    have e3 : (iI z3 ≤ 9) = (z3 ≤ 9) := leE (b := 9) b3 (by omega)
    have e4 : (nI (aL q) < 8) = (aL q < 8) := by rw [nI_iI]; exact (ltE (b := 8) (by omega) (by omega)).trans (propext ⟨fun hh => by omega, fun hh => by omega⟩)
    unfold f_X2_link f_X2_link_J26
    rw [hC.2.1]
    simp only [i1, i4, i5, Option.bind_some, b2i_d, bnd, e0, e1, e2, e3, e4, nI_1]
    rw [cl_nI (show aL q < 2147483648 by omega)]
    by_cases hg : (0 ≤ z1 ∧ z1 < (aC q : Int)) ∧ (0 ≤ z4 ∧ z4 < (aC q : Int)) ∧ (z2 = 0 ∨ z2 = 1) ∧ (1 ≤ z3 ∧ z3 ≤ 9) ∧ ((z5 = 0 ∧ -20 ≤ z6 ∧ z6 ≤ 20) ∨ z5 = 1 ∨ (z5 = 2 ∧ (z6 = 0 ∨ z6 = 1))) ∧ aL q < 8
    · rw [if_pos hg, if_neg (show ¬ ¬ (0 ≤ z1 ∧ z1 < (aC q : Int)) from fun hh => hh hg.1), if_neg (show ¬ ¬ (0 ≤ z4 ∧ z4 < (aC q : Int)) from fun hh => hh hg.2.1), if_neg (show ¬ z3 < 1 by omega), if_pos (show z3 ≤ 9 by omega), if_neg (fun hh => hh hg.2.2.2.2.1), if_pos hg.2.2.2.2.2, gd_t _ (ib_nI hg.2.2.2.2.2 (by omega))]
      by_cases k0 : z2 = 0
      · rw [if_pos k0]
      · rw [if_neg k0, if_neg (show ¬ ¬ z2 = 1 by omega)]
    · rw [if_neg hg]
      split
      · rfl
      · split
        · rfl
        · split
          · split
            · rfl
            · split
              · split
                · rfl
                · split
                  · exact absurd (by omega) hg
                  · rfl
              · rfl
          · split
            · rfl
            · split
              · rfl
              · split
                · split
                  · rfl
                  · split
                    · exact absurd (by omega) hg
                    · rfl
                · rfl
  have eM : f_X3_link m0 m4 m5 m6 m7 (iI z1) (iI z2) (iI z3) (iI z4) (iI z5) (iI z6) = if (0 ≤ z1 ∧ z1 < (aC q : Int)) ∧ (0 ≤ z4 ∧ z4 < (aC q : Int)) ∧ (z2 = 0 ∨ z2 = 1) ∧ (1 ≤ z3 ∧ z3 ≤ 9) ∧ ((z5 = 0 ∧ -20 ≤ z6 ∧ z6 ≤ 20) ∨ z5 = 1 ∨ (z5 = 2 ∧ (z6 = 0 ∨ z6 = 1))) ∧ aL q < 8 then f_X3_link_J97 m0 m5 m6 m7 (iI z1) (iI z2) (iI z3) (iI z4) (iI z5) (iI z6) else some ((-1), m5, m6, m7, 0) := by
    have i1 := im_ok hC4 hM.1 b1
    have i4 := im_ok hC4 hM.1 b4
    have i2 : f_X3_in (iI z2) 0 1 = some (decide (0 ≤ z2 ∧ z2 ≤ 1)) := in_ok (lo := 0) (hi := 1) b2 (by omega) (by omega)
    have i3 : f_X3_in (iI z3) 1 9 = some (decide (1 ≤ z3 ∧ z3 ≤ 9)) := in_ok (lo := 1) (hi := 9) b3 (by omega) (by omega)
    have i5 : f_X3_in (iI z5) 0 2 = some (decide (0 ≤ z5 ∧ z5 ≤ 2)) := in_ok (lo := 0) (hi := 2) b5 (by omega) (by omega)
    have i6 : f_X3_in (iI z6) 0 1 = some (decide (0 ≤ z6 ∧ z6 ≤ 1)) := in_ok (lo := 0) (hi := 1) b6 (by omega) (by omega)
    have i7 : f_X3_in (iI z6) (-20) 20 = some (decide (-20 ≤ z6 ∧ z6 ≤ 20)) := by rw [m20]; exact in_ok (lo := -20) (hi := 20) b6 (by omega) (by omega)
    have e0 : (iI z5 = 0) = (z5 = 0) := eqE (b := 0) b5 (by omega)
    have e2 : (iI z5 = 2) = (z5 = 2) := eqE (b := 2) b5 (by omega)
    have e4 : (m6 = 8) = (aL q = 8) := by rw [hM.2.1, nI_iI]; exact (eqE (b := 8) (by omega) (by omega)).trans (propext ⟨fun hh => by omega, fun hh => by omega⟩)
    unfold f_X3_link f_X3_link_J79
    simp only [i1, i2, i3, i4, i5, i6, i7, Option.bind_some, b2i_d, e0, e2, e4]
    by_cases hg : (0 ≤ z1 ∧ z1 < (aC q : Int)) ∧ (0 ≤ z4 ∧ z4 < (aC q : Int)) ∧ (z2 = 0 ∨ z2 = 1) ∧ (1 ≤ z3 ∧ z3 ≤ 9) ∧ ((z5 = 0 ∧ -20 ≤ z6 ∧ z6 ≤ 20) ∨ z5 = 1 ∨ (z5 = 2 ∧ (z6 = 0 ∨ z6 = 1))) ∧ aL q < 8
    · rw [if_pos hg]
      repeat' split
      all_goals first | rfl | (exfalso; omega)
    · rw [if_neg hg]
      repeat' split
      all_goals first | rfl | (exfalso; omega)
  rw [eX, eM]
  by_cases hg : (0 ≤ z1 ∧ z1 < (aC q : Int)) ∧ (0 ≤ z4 ∧ z4 < (aC q : Int)) ∧ (z2 = 0 ∨ z2 = 1) ∧ (1 ≤ z3 ∧ z3 ≤ 9) ∧ ((z5 = 0 ∧ -20 ≤ z6 ∧ z6 ≤ 20) ∨ z5 = 1 ∨ (z5 = 2 ∧ (z6 = 0 ∨ z6 = 1))) ∧ aL q < 8
  · rw [if_pos hg, if_pos hg]
    obtain ⟨g1, g4, g2, g3, g5, g8⟩ := hg
    obtain ⟨x1, y1, rfl⟩ : ∃ x : Nat, x < aC q ∧ z1 = x := ⟨z1.toNat, by omega, by omega⟩
    obtain ⟨x2, y2, rfl⟩ : ∃ x : Nat, x ≤ 1 ∧ z2 = x := ⟨z2.toNat, by omega, by omega⟩
    obtain ⟨x3, y3, rfl⟩ : ∃ x : Nat, (1 ≤ x ∧ x ≤ 9) ∧ z3 = x := ⟨z3.toNat, by omega, by omega⟩
    obtain ⟨x4, y4, rfl⟩ : ∃ x : Nat, x < aC q ∧ z4 = x := ⟨z4.toNat, by omega, by omega⟩
    obtain ⟨x5, y5, rfl⟩ : ∃ x : Nat, x ≤ 2 ∧ z5 = x := ⟨z5.toNat, by omega, by omega⟩
    have hQ2 := qLink_ok hQ g8 y1 y2 y3 y4 (ac := x5) (b := z6) g5 b6
    rw [← nI_iI x1, ← nI_iI x2, ← nI_iI x3, ← nI_iI x4, ← nI_iI x5]
    obtain ⟨n5, w1, w2, w3⟩ := lk_L m0 m5 m6 m7 (nI x1) (nI x2) (nI x3) (nI x4) (nI x5) (iI z6) g8 hM.2.1 6 fuel 0 m5 (by omega) (by unfold fuel; omega) (fun j hj => by omega) (fun j hj => rfl)
    have hM2 := qLink_M (g2 := n5) hM w2 w3
    obtain ⟨f2, g2', a2, b2', u2, k2, r2, s1, s2, s3⟩ := st_MM hQ2 (qLink_C hC) (fun i hi => (hM2.2.2.1 i hi).1) gx hMM.2.2.2.2.2.2.2 m7 gx.2.2.2.1 m10 m11 m12 m13
    have w4 : f_X3_link_J97 m0 m5 m6 m7 (nI x1) (nI x2) (nI x3) (nI x4) (nI x5) (iI z6) = some (nI (aL q), n5, nI (aL q + 1), r2, 0) := by
      unfold f_X3_link_J97
      rw [gd_t _ (by decide), gd_t _ (by decide), gd_t _ (by decide), gd_t _ (by decide), gd_t _ (by decide), gd_t _ (by decide)]
      rw [show (nI 0 : Int32) = 0 from rfl] at w1
      rw [w1, s2, Option.bind_some]
    rw [s1, w4]
    exact ⟨_, _, rfl, rfl, rfl, _, _, 0, S, N, hQ2, qLink_C hC, hM2, s3, Nat.zero_le _, hT, h14, hG, hD, hE⟩
  · rw [if_neg hg, if_neg hg, ← hC.2.1]
    exact ⟨_, _, rfl, rfl, rfl, h.mono⟩
end LINK2
