section TOLD
theorem m50 : (-50 : Int32) = iI (-50) := by decide
theorem m20 : (-20 : Int32) = iI (-20) := by decide
/-- a cell more -/
def qCell (q : AC) (l h r f : Int) : AC := (aC q + 1, aL q, up (aLo q) (aC q) l, up (aHi q) (aC q) h, up (aRi q) (aC q) r, up (aFa q) (aC q) f, q.2.2.2.2.2.2)
theorem up_I {α : Type} {f : Nat → α} {k j : Nat} {x : α} : up f k x j = if j = k then x else f j := rfl
theorem qCell_ok {q : AC} (hQ : QOK q) (hC : aC q < 4) {l h r f : Int} (h1 : -50 ≤ l ∧ l < h ∧ h ≤ 50) (h2 : 1 ≤ r ∧ r ≤ 60) (h3 : 1 ≤ f ∧ f ≤ 60) : QOK (qCell q l h r f) := by
  obtain ⟨a1, a2, a3, a4, a5⟩ := hQ
  refine ⟨show aC q + 1 ≤ 4 by omega, a2, fun i hi => ?_, fun i hi => ?_, fun k hk => ?_⟩
  · show (up (aLo q) (aC q) l i).natAbs ≤ 50 ∧ (up (aHi q) (aC q) h i).natAbs ≤ 50 ∧ (up (aRi q) (aC q) r i).natAbs ≤ 60 ∧ (up (aFa q) (aC q) f i).natAbs ≤ 60
    rw [up_I, up_I, up_I, up_I]
    split
    · omega
    · exact a3 i hi
  · replace hi : i < aC q + 1 := hi
    show 1 ≤ up (aRi q) (aC q) r i ∧ 1 ≤ up (aFa q) (aC q) f i
    rw [up_I, up_I]
    split
    · omega
    · exact a4 i (by omega)
  · obtain ⟨b1, b2, b3, b4, b5, b6⟩ := a5 k hk
    exact ⟨show aFr q k < aC q + 1 by omega, b2, b3, b4, show aTo q k < aC q + 1 by omega, b6⟩
theorem upd_I {f : Ar} {k j : Nat} {x : Int32} : upd f k x j = if j = k then x else f j := rfl
theorem qCell_C {q : AC} {gc : Ci} (hC : CRep q gc) {l h r f : Int} : CRep (qCell q l h r f) (nI (aC q + 1), upd gc.2.1 (aC q) (iI l), upd gc.2.2.1 (aC q) (iI h), upd gc.2.2.2.1 (aC q) (iI r), upd gc.2.2.2.2.1 (aC q) (iI f), gc.2.2.2.2.2) := by
  obtain ⟨c1, c2, c3, c4⟩ := hC
  refine ⟨rfl, c2, fun i hi => ?_, c4⟩
  show upd gc.2.1 (aC q) (iI l) i = iI (up (aLo q) (aC q) l i) ∧ upd gc.2.2.1 (aC q) (iI h) i = iI (up (aHi q) (aC q) h i) ∧ upd gc.2.2.2.1 (aC q) (iI r) i = iI (up (aRi q) (aC q) r i) ∧ upd gc.2.2.2.2.1 (aC q) (iI f) i = iI (up (aFa q) (aC q) f i)
  rw [up_I, up_I, up_I, up_I, upd_I, upd_I, upd_I, upd_I]
  split
  · exact ⟨rfl, rfl, rfl, rfl⟩
  · exact c3 i hi
theorem qCell_M {q : AC} {m0 m1 m2 m3 m5 : Ar} {m4 m6 : Int32} (hM : MRep q m0 m1 m2 m3 m4 m5 m6) {l h r f : Int} : MRep (qCell q l h r f) (upd m0 (aC q) (iI l)) (upd m1 (aC q) (iI h)) (upd m2 (aC q) (iI r)) (upd m3 (aC q) (iI f)) (nI (aC q + 1)) m5 m6 := by
  obtain ⟨c1, c2, c3, c4⟩ := hM
  refine ⟨rfl, c2, fun i hi => ?_, c4⟩
  show upd m0 (aC q) (iI l) i = iI (up (aLo q) (aC q) l i) ∧ upd m1 (aC q) (iI h) i = iI (up (aHi q) (aC q) h i) ∧ upd m2 (aC q) (iI r) i = iI (up (aRi q) (aC q) r i) ∧ upd m3 (aC q) (iI f) i = iI (up (aFa q) (aC q) f i)
  rw [up_I, up_I, up_I, up_I, upd_I, upd_I, upd_I, upd_I]
  split
  · exact ⟨rfl, rfl, rfl, rfl⟩
  · exact c3 i hi
theorem R_cell {K : Nat} {gx : Xo} {gc : Ci} {gn gt : Sw} {m0 m1 m2 m3 : Ar} {m4 : Int32} {m5 : Ar} {m6 : Int32} {m7 : Al} {m10 m11 : Ar} {m12 m13 : Al} {m14 m16 : Int32} {m17 : Al} {m18 : Ar} {m19 : Int32} {m20 m21 : Al} {m22 : Int32}
    (h : RR K gx gc gn gt m0 m1 m2 m3 m4 m5 m6 m7 m10 m11 m12 m13 m14 m16 m17 m18 m19 m20 m21 m22) (p1 p2 p3 p4 : Int32) :
    ∃ o o', f_X2_cell gx gc gn p1 p2 p3 p4 = some o ∧ f_X3_cell m0 m1 m2 m3 m4 m7 p1 p2 p3 p4 = some o' ∧ o.1 = o'.1 ∧ o'.2.2.2.2.2.2.2 = 0 ∧
      RR (K + 1) (o.2.1, o.2.2.1, o.2.2.2.1, gx.2.2.2) (o.2.2.2.2.1, o.2.2.2.2.2.1, o.2.2.2.2.2.2.1, o.2.2.2.2.2.2.2.1, o.2.2.2.2.2.2.2.2.1, gc.2.2.2.2.2) (o.2.2.2.2.2.2.2.2.2.1, o.2.2.2.2.2.2.2.2.2.2.1, o.2.2.2.2.2.2.2.2.2.2.2.1, o.2.2.2.2.2.2.2.2.2.2.2.2.1, o.2.2.2.2.2.2.2.2.2.2.2.2.2.1, o.2.2.2.2.2.2.2.2.2.2.2.2.2.2, gn.2.2.2.2.2.2) gt
        o'.2.1 o'.2.2.1 o'.2.2.2.1 o'.2.2.2.2.1 o'.2.2.2.2.2.1 m5 m6 o'.2.2.2.2.2.2.1 m10 m11 m12 m13 m14 m16 m17 m18 m19 m20 m21 m22 := by
  obtain ⟨q, a, H, S, N, hQ, hC, hM, hMM, hH, hT, h14, hG, hD, hE⟩ := id h
  obtain ⟨z1, b1, rfl⟩ := ofI p1
  obtain ⟨z2, b2, rfl⟩ := ofI p2
  obtain ⟨z3, b3, rfl⟩ := ofI p3
  obtain ⟨z4, b4, rfl⟩ := ofI p4
  have hC4 := hQ.1
  have eX : f_X2_cell gx gc gn (iI z1) (iI z2) (iI z3) (iI z4) = if (-50 ≤ z1 ∧ z1 < z2 ∧ z2 ≤ 50) ∧ (1 ≤ z3 ∧ z3 ≤ 60) ∧ (1 ≤ z4 ∧ z4 ≤ 60) ∧ aC q < 4 then
      (f_X2_startAgain gx (nI (aC q + 1), upd gc.2.1 (aC q) (iI z1), upd gc.2.2.1 (aC q) (iI z2), upd gc.2.2.2.1 (aC q) (iI z3), upd gc.2.2.2.2.1 (aC q) (iI z4), gc.2.2.2.2.2) gn).bind (fun r9 => some (nI (aC q), r9.1, r9.2.1, r9.2.2.1, nI (aC q + 1), upd gc.2.1 (aC q) (iI z1), upd gc.2.2.1 (aC q) (iI z2), upd gc.2.2.2.1 (aC q) (iI z3), upd gc.2.2.2.2.1 (aC q) (iI z4), r9.2.2.2.1, r9.2.2.2.2.1, r9.2.2.2.2.2.1, r9.2.2.2.2.2.2.1, r9.2.2.2.2.2.2.2.1, r9.2.2.2.2.2.2.2.2))
      else some ((-1), gx.1, gx.2.1, gx.2.2.1, gc.1, gc.2.1, gc.2.2.1, gc.2.2.2.1, gc.2.2.2.2.1, gn.1, gn.2.1, gn.2.2.1, gn.2.2.2.1, gn.2.2.2.2.1, gn.2.2.2.2.2.1) := by
    unfold f_X2_cell f_X2_cell_J21 f_X2_cell_J22
    simp only [ra60 b3, ra60 b4, Option.bind_some, bnd, b2i_d]
    have c4 : (nI (aC q) < 4) = (aC q < 4) := by rw [nI_iI, show (4 : Int32) = iI 4 from rfl, ltE (by omega) (by omega)]; exact propext ⟨fun h => by omega, fun h => by omega⟩
    have c1 : (iI z1 < -50) = (z1 < -50) := by rw [m50]; exact ltE b1 (by omega)
    have e10 : ((1 : Int32) = 0) = False := eq_false (by decide)
    have c2 : (iI z2 ≤ iI z1) = (z2 ≤ z1) := leE b2 b1
    have c3 : ((50 : Int32) < iI z2) = (50 < z2) := ltE (a := 50) (by omega) b2
    rw [hC.1]
    simp only [c1, c2, c3, c4, nI_1, e10, ↓reduceIte]
    rw [cl_nI (show aC q < 2147483648 by omega)]
    by_cases hg : (-50 ≤ z1 ∧ z1 < z2 ∧ z2 ≤ 50) ∧ (1 ≤ z3 ∧ z3 ≤ 60) ∧ (1 ≤ z4 ∧ z4 ≤ 60) ∧ aC q < 4
    · rw [if_pos hg, if_neg (show ¬ z1 < -50 by omega), if_neg (show ¬ z2 ≤ z1 by omega), if_neg (show ¬ 50 < z2 by omega), if_neg (show ¬ ¬ (1 ≤ z3 ∧ z3 ≤ 60) by omega), if_neg (show ¬ ¬ (1 ≤ z4 ∧ z4 ≤ 60) by omega), if_pos (show aC q < 4 by omega), gd_t _ (ib_nI (show aC q < 4 by omega) (by omega))]
    · rw [if_neg hg]
      split
      · rfl
      · split
        · rfl
        · split
          · rfl
          · split
            · rfl
            · split
              · rfl
              · split
                · exact absurd (show (-50 ≤ z1 ∧ z1 < z2 ∧ z2 ≤ 50) ∧ (1 ≤ z3 ∧ z3 ≤ 60) ∧ (1 ≤ z4 ∧ z4 ≤ 60) ∧ aC q < 4 by omega) hg
                · rfl
  have eM : f_X3_cell m0 m1 m2 m3 m4 m7 (iI z1) (iI z2) (iI z3) (iI z4) = if (-50 ≤ z1 ∧ z1 < z2 ∧ z2 ≤ 50) ∧ (1 ≤ z3 ∧ z3 ≤ 60) ∧ (1 ≤ z4 ∧ z4 ≤ 60) ∧ aC q < 4 then
      (f_X3_resetAll (upd m0 (aC q) (iI z1)) m7).bind (fun r13 => some (nI (aC q), upd m0 (aC q) (iI z1), upd m1 (aC q) (iI z2), upd m2 (aC q) (iI z3), upd m3 (aC q) (iI z4), nI (aC q + 1), r13, 0))
      else some ((-1), m0, m1, m2, m3, m4, m7, 0) := by
    unfold f_X3_cell
    have c1 : f_X3_in (iI z1) (-50) 50 = some (decide (-50 ≤ z1 ∧ z1 ≤ 50)) := by rw [m50]; exact in_ok (lo := -50) (hi := 50) b1 (by omega) (by omega)
    have c2 : f_X3_in (iI z2) (-50) 50 = some (decide (-50 ≤ z2 ∧ z2 ≤ 50)) := by rw [m50]; exact in_ok (lo := -50) (hi := 50) b2 (by omega) (by omega)
    have c3 : f_X3_in (iI z3) 1 60 = some (decide (1 ≤ z3 ∧ z3 ≤ 60)) := in_ok (lo := 1) (hi := 60) b3 (by omega) (by omega)
    have c4 : f_X3_in (iI z4) 1 60 = some (decide (1 ≤ z4 ∧ z4 ≤ 60)) := in_ok (lo := 1) (hi := 60) b4 (by omega) (by omega)
    simp only [c1, c2, c3, c4, Option.bind_some, bnd, b2i_d]
    have c5 : (iI z2 ≤ iI z1) = (z2 ≤ z1) := leE b2 b1
    have c6 : (m4 = 4) = (aC q = 4) := by rw [hM.1, nI_iI, show (4 : Int32) = iI 4 from rfl, eqE (by omega) (by omega)]; exact propext ⟨fun h => by omega, fun h => by omega⟩
    have c7 : nI (aC q) + 1 - 1 = nI (aC q) := by rw [nI_1, nI_iI, show (1 : Int32) = iI 1 from rfl, iI_sub, nI_iI]; congr 1; omega
    simp only [c5, c6]
    by_cases hg : (-50 ≤ z1 ∧ z1 < z2 ∧ z2 ≤ 50) ∧ (1 ≤ z3 ∧ z3 ≤ 60) ∧ (1 ≤ z4 ∧ z4 ≤ 60) ∧ aC q < 4
    · rw [if_pos hg, if_neg (show ¬ ¬ (-50 ≤ z1 ∧ z1 ≤ 50) by omega), if_neg (show ¬ ¬ (-50 ≤ z2 ∧ z2 ≤ 50) by omega), if_neg (show ¬ z2 ≤ z1 by omega), if_neg (show ¬ ¬ (1 ≤ z3 ∧ z3 ≤ 60) by omega), if_neg (show ¬ ¬ (1 ≤ z4 ∧ z4 ≤ 60) by omega), if_pos (show ¬ aC q = 4 by omega), hM.1, gd_t _ (ib_nI (show aC q < 4 by omega) (by omega)), cl_nI (by omega), c7, nI_1]
    · rw [if_neg hg]
      split
      · rfl
      · split
        · rfl
        · split
          · rfl
          · split
            · rfl
            · split
              · rfl
              · split
                · exact absurd (show (-50 ≤ z1 ∧ z1 < z2 ∧ z2 ≤ 50) ∧ (1 ≤ z3 ∧ z3 ≤ 60) ∧ (1 ≤ z4 ∧ z4 ≤ 60) ∧ aC q < 4 by omega) hg
                · rfl
  rw [eX, eM]
  by_cases hg : (-50 ≤ z1 ∧ z1 < z2 ∧ z2 ≤ 50) ∧ (1 ≤ z3 ∧ z3 ≤ 60) ∧ (1 ≤ z4 ∧ z4 ≤ 60) ∧ aC q < 4
  · rw [if_pos hg, if_pos hg]
    have hQ2 := qCell_ok hQ hg.2.2.2 hg.1 hg.2.1 hg.2.2.1
    have hM2 := qCell_M hM (l := z1) (h := z2) (r := z3) (f := z4)
    obtain ⟨f2, g2, a2, b2', u2, k2, r2, s1, s2, s3⟩ := st_MM hQ2 (qCell_C hC) (fun i hi => (hM2.2.2.1 i hi).1) gx hMM.2.2.2.2.2.2.2 m7 gx.2.2.2.1 m10 m11 m12 m13
    rw [s1, s2]
    exact ⟨_, _, rfl, rfl, rfl, rfl, _, _, 0, S, N, hQ2, qCell_C hC, hM2, s3, Nat.zero_le _, hT, h14, hG, hD, hE⟩
  · rw [if_neg hg, if_neg hg]
    exact ⟨_, _, rfl, rfl, rfl, rfl, h.mono⟩
end TOLD
