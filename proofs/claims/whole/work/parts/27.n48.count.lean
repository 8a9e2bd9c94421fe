section COUNT
theorem nx_ok {K : Nat} {gx : Xo} {gc : Ci} {gn gt : Sw} {m0 m1 m2 m3 : Ar} {m4 : Int32} {m5 : Ar} {m6 : Int32} {m7 : Al} {m10 m11 : Ar} {m12 m13 : Al} {m14 m16 : Int32} {m17 : Al} {m18 : Ar} {m19 : Int32} {m20 m21 : Al} {m22 : Int32}
    (h : RR K gx gc gn gt m0 m1 m2 m3 m4 m5 m6 m7 m10 m11 m12 m13 m14 m16 m17 m18 m19 m20 m21 m22) (m8 m9 : Al) (m24 m25 : Int64) (m26 m27 : Int32) :
    ∃ (b : Bool) (ht : Sw) (r7 r8 r9 : Al) (k24 k25 : Int64) (k26 k27 : Int32), f_X2_isNextSpent gc gn gt = some (b, ht) ∧
      f_X3_wouldBeSpent m0 m1 m2 m3 m4 m5 m6 m7 m8 m9 m10 m11 m12 m13 m14 m24 m25 m26 m27 = some (b, r7, r8, r9, m10, m11, m12, m13, 1, k24, k25, k26, k27) ∧ (∀ j, j < 31 → r7 j = m7 j) ∧ TOK ht := by
  obtain ⟨q, a, H, S, N, hQ, hC, hM, hMM, hH, hT, h14, hG, hD, hE⟩ := id h
  have hC4 := hQ.1
  by_cases h0 : 0 < aC q
  · obtain ⟨a2, b2, f2, k2, s2, t1, t2, t3, t4, t5⟩ := tr_ok (gt := gt) hQ hC (hMM.2.1.rep h0) (hMM.1 h0) h0
    have hTs : TOK s2 := ⟨aPick q a.2.2, aSide a.2.2 (aPick q a.2.2), by have := aPick_lt (v := a.2.2) h0; omega, side_le _ _, t4, t5⟩
    obtain ⟨r9, c1, c2⟩ := cp_ok m7 m9
    obtain ⟨r2, r3, x3, y3, d1, d2, d3, d4, d5, d6⟩ := mev_ok hQ hM hMM.2.2.1 (hMM.1 h0) h0 m8 m10 m11 m12 m13 0 m24 m25 m26 m27
    have n4 : ¬ m4 = 0 := by rw [hM.1]; exact fun hh => by have := (nI_eq0 (by omega)).mp hh; omega
    have n1 : ¬ gc.1 = 0 := by rw [hC.1]; exact fun hh => by have := (nI_eq0 (by omega)).mp hh; omega
    unfold f_X2_isNextSpent f_X3_wouldBeSpent f_X3_wouldBeSpent_J37
    rw [if_pos n1, if_pos n4, t1, c1, Option.bind_some, Option.bind_some]
    cases hs : aSpent q (aEv q a) with
    | true =>
      rw [hs] at t2
      obtain ⟨r4, g1, g2⟩ := d6 hs
      obtain ⟨r5, g3, g4⟩ := cp_ok r9 r4
      refine ⟨true, s2, r5, r2, r9, x3, y3, nI (aPick q a.2.2), nI (aSide a.2.2 (aPick q a.2.2)), ?_, ?_, fun j hj => (g4 j hj).trans (c2 j hj), hTs⟩
      · show (f_X1_advance (lI a.1, lI a.2.1, a2, b2, f2, k2, gt.2.2.2.2.2.2) gc).bind _ = _
        rw [t2, Option.bind_some]
        rfl
      · rw [g2, Option.bind_some, if_neg (show ¬ ¬ b2i false = 0 by decide), g3, Option.bind_some]
    | false =>
      rw [hs] at t2
      have g2 := d5 hs
      unfold logd at g2
      rw [if_pos rfl] at g2
      obtain ⟨r5, g3, g4⟩ := cp_ok r9 r3
      refine ⟨false, s2, r5, r2, r9, x3, y3, nI (aPick q a.2.2), nI (aSide a.2.2 (aPick q a.2.2)), ?_, ?_, fun j hj => (g4 j hj).trans (c2 j hj), hTs⟩
      · show (f_X1_advance (lI a.1, lI a.2.1, a2, b2, f2, k2, gt.2.2.2.2.2.2) gc).bind _ = _
        rw [t2, Option.bind_some]
        rfl
      · rw [g2, Option.bind_some, if_pos (show ¬ b2i true = 0 by decide), g3, Option.bind_some]
  · have e0 : aC q = 0 := by omega
    unfold f_X2_isNextSpent f_X3_wouldBeSpent
    rw [if_neg (show ¬ ¬ gc.1 = 0 by rw [hC.1, e0]; decide), if_neg (show ¬ ¬ m4 = 0 by rw [hM.1, e0]; decide), h14]
    exact ⟨false, gt, m7, m8, m9, m24, m25, m26, m27, rfl, rfl, fun _ _ => rfl, hT⟩
theorem R_count {K : Nat} {gx : Xo} {gc : Ci} {gn gt : Sw} {m0 m1 m2 m3 : Ar} {m4 : Int32} {m5 : Ar} {m6 : Int32} {m7 : Al} {m10 m11 : Ar} {m12 m13 : Al} {m14 m16 : Int32} {m17 : Al} {m18 : Ar} {m19 : Int32} {m20 m21 : Al} {m22 : Int32}
    (h : RR K gx gc gn gt m0 m1 m2 m3 m4 m5 m6 m7 m10 m11 m12 m13 m14 m16 m17 m18 m19 m20 m21 m22) (m8 m9 : Al) (m24 m25 : Int64) (m26 m27 : Int32) (p1 : Int32) :
    ∃ o o', f_X2_count gx gc gn gt p1 = some o ∧ f_X3_count m0 m1 m2 m3 m4 m5 m6 m7 m8 m9 m10 m11 m12 m13 m14 m19 m22 m24 m25 m26 m27 p1 = some o' ∧ o.1 = o'.1 ∧
      RR (K + 1) gx gc gn o.2 m0 m1 m2 m3 m4 m5 m6 o'.2.1 o'.2.2.2.2.1 o'.2.2.2.2.2.1 o'.2.2.2.2.2.2.1 o'.2.2.2.2.2.2.2.1 o'.2.2.2.2.2.2.2.2.1 m16 m17 m18 m19 m20 m21 m22 := by
  obtain ⟨q, a, H, S, N, hQ, hC, hM, hMM, hH, hT, h14, hG, hD, hE⟩ := id h
  obtain ⟨b, ht, r7, r8, r9, k24, k25, k26, k27, n1, n2, n3, n4⟩ := nx_ok h m8 m9 m24 m25 m26 m27
  obtain rfl : m14 = 1 := h14
  have v2 : gx.1 = (m7 30).toInt32 := by rw [hMM.2.2.2.1, hMM.2.2.2.2.1, l2i_lI, nI_iI]
  have v3 : gn.1.toInt32 = (m7 20).toInt32 := by rw [hMM.2.1.t1, hMM.2.2.1.1]
  have v4 : gn.2.1.toInt32 = (m7 21).toInt32 := by rw [hMM.2.1.t2, hMM.2.2.1.2.1]
  unfold f_X2_count f_X3_count
  rw [gd_t _ (show ib 30 31 = true by decide), gd_t _ (show ib 20 31 = true by decide), gd_t _ (show ib 21 31 = true by decide)]
  by_cases h0 : p1 = 0
  · rw [if_pos h0, if_pos h0]
    exact ⟨_, _, rfl, rfl, hC.1.trans hM.1.symm, h.mono⟩
  · rw [if_neg h0, if_neg h0]
    by_cases h1 : p1 = 1
    · rw [if_pos h1, if_pos h1]
      exact ⟨_, _, rfl, rfl, hC.2.1.trans hM.2.1.symm, h.mono⟩
    · rw [if_neg h1, if_neg h1]
      by_cases h2 : p1 = 2
      · rw [if_pos h2, if_pos h2]
        exact ⟨_, _, rfl, rfl, v2, h.mono⟩
      · rw [if_neg h2, if_neg h2]
        by_cases h3 : p1 = 3
        · rw [if_pos h3, if_pos h3]
          exact ⟨_, _, rfl, rfl, v3, h.mono⟩
        · rw [if_neg h3, if_neg h3]
          by_cases h4 : p1 = 4
          · rw [if_pos h4, if_pos h4]
            exact ⟨_, _, rfl, rfl, v4, h.mono⟩
          · rw [if_neg h4, if_neg h4]
            by_cases h5 : p1 = 5
            · rw [if_pos h5, if_pos h5, n1, n2, Option.bind_some, Option.bind_some]
              cases b with
              | true =>
                rw [if_neg (show ¬ b2i true = 0 by decide), if_neg (show ¬ b2i true = 0 by decide)]
                exact ⟨_, _, rfl, rfl, rfl, h.put n3 n4⟩
              | false =>
                rw [if_pos (show b2i false = 0 by decide), if_pos (show b2i false = 0 by decide)]
                exact ⟨_, _, rfl, rfl, rfl, h.put n3 n4⟩
            · rw [if_neg h5, if_neg h5]
              by_cases h6 : p1 = 6
              · rw [if_pos h6, if_pos h6]
                exact ⟨_, _, rfl, rfl, hD.2.1.trans hD.2.2.1.symm, h.mono⟩
              · rw [if_neg h6, if_neg h6]
                by_cases h7 : p1 = 7
                · rw [if_pos h7, if_pos h7]
                  exact ⟨_, _, rfl, rfl, hE.2.1.trans hE.2.2.1.symm, h.mono⟩
                · rw [if_neg h7, if_neg h7]
                  exact ⟨_, _, rfl, rfl, rfl, h.mono⟩
end COUNT
