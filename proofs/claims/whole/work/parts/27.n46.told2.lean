section TOLD2
theorem qClear_ok {q : AC} (hQ : QOK q) : QOK (0, 0, q.2.2) := ⟨Nat.zero_le _, Nat.zero_le _, hQ.2.2.1, fun i hi => absurd hi (Nat.not_lt_zero i), fun k hk => absurd hk (Nat.not_lt_zero k)⟩
theorem R_clear {K : Nat} {gx : Xo} {gc : Ci} {gn gt : Sw} {m0 m1 m2 m3 : Ar} {m4 : Int32} {m5 : Ar} {m6 : Int32} {m7 : Al} {m10 m11 : Ar} {m12 m13 : Al} {m14 m16 : Int32} {m17 : Al} {m18 : Ar} {m19 : Int32} {m20 m21 : Al} {m22 : Int32}
    (h : RR K gx gc gn gt m0 m1 m2 m3 m4 m5 m6 m7 m10 m11 m12 m13 m14 m16 m17 m18 m19 m20 m21 m22) :
    ∃ o o', f_X2_clear gx gc gn = some o ∧ f_X3_clear m0 m4 m7 = some o' ∧ o.1 = o'.1 ∧
      RR (K + 1) (o.2.1, o.2.2.1, o.2.2.2.1, gx.2.2.2) (o.2.2.2.2.1, gc.2.1, gc.2.2.1, gc.2.2.2.1, gc.2.2.2.2.1, o.2.2.2.2.2.1, gc.2.2.2.2.2.2) (o.2.2.2.2.2.2.1, o.2.2.2.2.2.2.2.1, o.2.2.2.2.2.2.2.2.1, o.2.2.2.2.2.2.2.2.2.1, o.2.2.2.2.2.2.2.2.2.2.1, o.2.2.2.2.2.2.2.2.2.2.2, gn.2.2.2.2.2.2) gt
        m0 m1 m2 m3 o'.2.1 m5 o'.2.2.1 o'.2.2.2.1 m10 m11 m12 m13 m14 m16 m17 m18 m19 m20 m21 m22 := by
  obtain ⟨q, a, H, S, N, hQ, hC, hM, hMM, hH, hT, h14, hG, hD, hE⟩ := id h
  have hC2 : CRep (0, 0, q.2.2) (0, gc.2.1, gc.2.2.1, gc.2.2.2.1, gc.2.2.2.2.1, 0, gc.2.2.2.2.2.2) := ⟨rfl, rfl, hC.2.2.1, fun k hk => absurd hk (Nat.not_lt_zero k)⟩
  have hM2 : MRep (0, 0, q.2.2) m0 m1 m2 m3 0 m5 0 := ⟨rfl, rfl, hM.2.2.1, fun k hk => absurd hk (Nat.not_lt_zero k)⟩
  obtain ⟨f2, g2, a2, b2', u2, k2, r2, s1, s2, s3⟩ := st_MM (qClear_ok hQ) hC2 (fun i hi => (hM2.2.2.1 i hi).1) gx hMM.2.2.2.2.2.2.2 m7 gx.2.2.2.1 m10 m11 m12 m13
  unfold f_X2_clear f_X3_clear
  rw [s1, s2]
  exact ⟨_, _, rfl, rfl, hC.1.trans hM.1.symm, _, _, 0, S, N, qClear_ok hQ, hC2, hM2, s3, Nat.zero_le _, hT, h14, hG, hD, hE⟩
theorem R_reset {K : Nat} {gx : Xo} {gc : Ci} {gn gt : Sw} {m0 m1 m2 m3 : Ar} {m4 : Int32} {m5 : Ar} {m6 : Int32} {m7 : Al} {m10 m11 : Ar} {m12 m13 : Al} {m14 m16 : Int32} {m17 : Al} {m18 : Ar} {m19 : Int32} {m20 m21 : Al} {m22 : Int32}
    (h : RR K gx gc gn gt m0 m1 m2 m3 m4 m5 m6 m7 m10 m11 m12 m13 m14 m16 m17 m18 m19 m20 m21 m22) :
    ∃ o o', f_X2_reset gx gc gn = some o ∧ f_X3_reset m0 m7 = some o' ∧ o.1 = o'.1 ∧
      RR (K + 1) (o.2.1, o.2.2.1, o.2.2.2.1, gx.2.2.2) gc (o.2.2.2.2.1, o.2.2.2.2.2.1, o.2.2.2.2.2.2.1, o.2.2.2.2.2.2.2.1, o.2.2.2.2.2.2.2.2.1, o.2.2.2.2.2.2.2.2.2, gn.2.2.2.2.2.2) gt
        m0 m1 m2 m3 m4 m5 m6 o'.2.1 m10 m11 m12 m13 m14 m16 m17 m18 m19 m20 m21 m22 := by
  obtain ⟨q, a, H, S, N, hQ, hC, hM, hMM, hH, hT, h14, hG, hD, hE⟩ := id h
  obtain ⟨f2, g2, a2, b2', u2, k2, r2, s1, s2, s3⟩ := st_MM hQ hC (fun i hi => (hM.2.2.1 i hi).1) gx hMM.2.2.2.2.2.2.2 m7 gx.2.2.2.1 m10 m11 m12 m13
  have e1 : gx.1 = (m7 30).toInt32 := by rw [hMM.2.2.2.1, hMM.2.2.2.2.1, l2i_lI, nI_iI]
  unfold f_X2_reset f_X3_reset
  rw [s1, s2, gd_t _ (by decide)]
  exact ⟨_, _, rfl, rfl, e1, _, _, 0, S, N, hQ, hC, hM, s3, Nat.zero_le _, hT, h14, hG, hD, hE⟩
/-- another rate -/
def qRise (q : AC) (i : Nat) (v : Int) : AC := (aC q, aL q, aLo q, aHi q, up (aRi q) i v, aFa q, q.2.2.2.2.2.2)
def qFall (q : AC) (i : Nat) (v : Int) : AC := (aC q, aL q, aLo q, aHi q, aRi q, up (aFa q) i v, q.2.2.2.2.2.2)
theorem qRise_ok {q : AC} (hQ : QOK q) {i : Nat} {v : Int} (hv : 1 ≤ v ∧ v ≤ 60) : QOK (qRise q i v) := by
  obtain ⟨a1, a2, a3, a4, a5⟩ := hQ
  refine ⟨a1, a2, fun j hj => ?_, fun j hj => ?_, a5⟩
  · show (aLo q j).natAbs ≤ 50 ∧ (aHi q j).natAbs ≤ 50 ∧ (up (aRi q) i v j).natAbs ≤ 60 ∧ (aFa q j).natAbs ≤ 60
    have := a3 j hj
    rw [up_I]
    split <;> omega
  · show 1 ≤ up (aRi q) i v j ∧ 1 ≤ aFa q j
    have := a4 j hj
    rw [up_I]
    split <;> omega
theorem qFall_ok {q : AC} (hQ : QOK q) {i : Nat} {v : Int} (hv : 1 ≤ v ∧ v ≤ 60) : QOK (qFall q i v) := by
  obtain ⟨a1, a2, a3, a4, a5⟩ := hQ
  refine ⟨a1, a2, fun j hj => ?_, fun j hj => ?_, a5⟩
  · show (aLo q j).natAbs ≤ 50 ∧ (aHi q j).natAbs ≤ 50 ∧ (aRi q j).natAbs ≤ 60 ∧ (up (aFa q) i v j).natAbs ≤ 60
    have := a3 j hj
    rw [up_I]
    split <;> omega
  · show 1 ≤ aRi q j ∧ 1 ≤ up (aFa q) i v j
    have := a4 j hj
    rw [up_I]
    split <;> omega
theorem qRise_C {q : AC} {gc : Ci} (hC : CRep q gc) {i : Nat} {v : Int} : CRep (qRise q i v) (gc.1, gc.2.1, gc.2.2.1, upd gc.2.2.2.1 i (iI v), gc.2.2.2.2) := by
  refine ⟨hC.1, hC.2.1, fun j hj => ?_, hC.2.2.2⟩
  show gc.2.1 j = iI (aLo q j) ∧ gc.2.2.1 j = iI (aHi q j) ∧ upd gc.2.2.2.1 i (iI v) j = iI (up (aRi q) i v j) ∧ gc.2.2.2.2.1 j = iI (aFa q j)
  obtain ⟨c1, c2, c3, c4⟩ := hC.2.2.1 j hj
  refine ⟨c1, c2, ?_, c4⟩
  rw [up_I, upd_I]
  split
  · rfl
  · exact c3
theorem qFall_C {q : AC} {gc : Ci} (hC : CRep q gc) {i : Nat} {v : Int} : CRep (qFall q i v) (gc.1, gc.2.1, gc.2.2.1, gc.2.2.2.1, upd gc.2.2.2.2.1 i (iI v), gc.2.2.2.2.2) := by
  refine ⟨hC.1, hC.2.1, fun j hj => ?_, hC.2.2.2⟩
  show gc.2.1 j = iI (aLo q j) ∧ gc.2.2.1 j = iI (aHi q j) ∧ gc.2.2.2.1 j = iI (aRi q j) ∧ upd gc.2.2.2.2.1 i (iI v) j = iI (up (aFa q) i v j)
  obtain ⟨c1, c2, c3, c4⟩ := hC.2.2.1 j hj
  refine ⟨c1, c2, c3, ?_⟩
  rw [up_I, upd_I]
  split
  · rfl
  · exact c4
theorem qRise_M {q : AC} {m0 m1 m2 m3 m5 : Ar} {m4 m6 : Int32} (hM : MRep q m0 m1 m2 m3 m4 m5 m6) {i : Nat} {v : Int} : MRep (qRise q i v) m0 m1 (upd m2 i (iI v)) m3 m4 m5 m6 := by
  refine ⟨hM.1, hM.2.1, fun j hj => ?_, hM.2.2.2⟩
  show m0 j = iI (aLo q j) ∧ m1 j = iI (aHi q j) ∧ upd m2 i (iI v) j = iI (up (aRi q) i v j) ∧ m3 j = iI (aFa q j)
  obtain ⟨c1, c2, c3, c4⟩ := hM.2.2.1 j hj
  refine ⟨c1, c2, ?_, c4⟩
  rw [up_I, upd_I]
  split
  · rfl
  · exact c3
theorem qFall_M {q : AC} {m0 m1 m2 m3 m5 : Ar} {m4 m6 : Int32} (hM : MRep q m0 m1 m2 m3 m4 m5 m6) {i : Nat} {v : Int} : MRep (qFall q i v) m0 m1 m2 (upd m3 i (iI v)) m4 m5 m6 := by
  refine ⟨hM.1, hM.2.1, fun j hj => ?_, hM.2.2.2⟩
  show m0 j = iI (aLo q j) ∧ m1 j = iI (aHi q j) ∧ m2 j = iI (aRi q j) ∧ upd m3 i (iI v) j = iI (up (aFa q) i v j)
  obtain ⟨c1, c2, c3, c4⟩ := hM.2.2.1 j hj
  refine ⟨c1, c2, c3, ?_⟩
  rw [up_I, upd_I]
  split
  · rfl
  · exact c4
theorem R_set {K : Nat} {gx : Xo} {gc : Ci} {gn gt : Sw} {m0 m1 m2 m3 : Ar} {m4 : Int32} {m5 : Ar} {m6 : Int32} {m7 : Al} {m10 m11 : Ar} {m12 m13 : Al} {m14 m16 : Int32} {m17 : Al} {m18 : Ar} {m19 : Int32} {m20 m21 : Al} {m22 : Int32}
    (h : RR K gx gc gn gt m0 m1 m2 m3 m4 m5 m6 m7 m10 m11 m12 m13 m14 m16 m17 m18 m19 m20 m21 m22) (p1 p2 p3 : Int32) :
    ∃ o o', f_X2_set gx gc gn p1 p2 p3 = some o ∧ f_X3_set m0 m2 m3 m4 m7 p1 p2 p3 = some o' ∧ o.1 = o'.1 ∧
      RR (K + 1) (o.2.1, o.2.2.1, o.2.2.2.1, gx.2.2.2) (gc.1, gc.2.1, gc.2.2.1, o.2.2.2.2.1, o.2.2.2.2.2.1, gc.2.2.2.2.2) (o.2.2.2.2.2.2.1, o.2.2.2.2.2.2.2.1, o.2.2.2.2.2.2.2.2.1, o.2.2.2.2.2.2.2.2.2.1, o.2.2.2.2.2.2.2.2.2.2.1, o.2.2.2.2.2.2.2.2.2.2.2, gn.2.2.2.2.2.2) gt
        m0 m1 o'.2.1 o'.2.2.1 m4 m5 m6 o'.2.2.2.1 m10 m11 m12 m13 m14 m16 m17 m18 m19 m20 m21 m22 := by
  obtain ⟨q, a, H, S, N, hQ, hC, hM, hMM, hH, hT, h14, hG, hD, hE⟩ := id h
  obtain ⟨z1, b1, rfl⟩ := ofI p1
  obtain ⟨z2, b2, rfl⟩ := ofI p2
  obtain ⟨z3, b3, rfl⟩ := ofI p3
  have hC4 := hQ.1
  have i1 := ic_ok hC4 hC.1 b1
  have i2 := im_ok hC4 hM.1 b1
  have i3 := ra60 b3
  have i4 : f_X3_in (iI z3) 1 60 = some (decide (1 ≤ z3 ∧ z3 ≤ 60)) := in_ok (lo := 1) (hi := 60) b3 (by omega) (by omega)
  have i5 : f_X3_in (iI z2) 0 1 = some (decide (0 ≤ z2 ∧ z2 ≤ 1)) := in_ok (lo := 0) (hi := 1) b2 (by omega) (by omega)
  have e0 : (iI z2 = 0) = (z2 = 0) := eqE (b := 0) b2 (by omega)
  have e1 : (iI z2 = 1) = (z2 = 1) := eqE (b := 1) b2 (by omega)
  unfold f_X2_set f_X2_set_J17 f_X3_set f_X3_set_J53 f_X3_set_J76
  simp only [i1, i2, i3, i4, i5, Option.bind_some, b2i_d, bnd, e0, e1]
  by_cases g1 : 0 ≤ z1 ∧ z1 < (aC q : Int)
  · rw [if_neg (show ¬ ¬ (0 ≤ z1 ∧ z1 < (aC q : Int)) from fun hh => hh g1), if_neg (show ¬ ¬ (0 ≤ z1 ∧ z1 < (aC q : Int)) from fun hh => hh g1)]
    obtain ⟨i, hi, rfl⟩ : ∃ i : Nat, i < aC q ∧ z1 = i := ⟨z1.toNat, by omega, by omega⟩
    rw [← nI_iI i, gd_t _ (ib_nI (show i < 4 by omega) (by omega)), gd_t _ (ib_nI (show i < 4 by omega) (by omega)), gd_t _ (ib_nI (show i < 4 by omega) (by omega)), gd_t _ (ib_nI (show i < 4 by omega) (by omega)), cl_nI (show i < 2147483648 by omega)]
    by_cases g3 : 1 ≤ z3 ∧ z3 ≤ 60
    · rw [if_pos (show ¬ ¬ (1 ≤ z3 ∧ z3 ≤ 60) from fun hh => hh g3)]
      by_cases k0 : z2 = 0
      · rw [if_pos k0, if_neg (show ¬ ¬ (0 ≤ z2 ∧ z2 ≤ 1) by omega), if_pos (show ¬ ¬ (1 ≤ z3 ∧ z3 ≤ 60) from fun hh => hh g3), if_neg (show ¬ ¬ z2 = 0 from fun hh => hh k0), if_neg (show ¬ ¬ z2 = 0 from fun hh => hh k0)]
        have hQ2 := qRise_ok hQ (i := i) g3
        have hM2 := qRise_M hM (i := i) (v := z3)
        obtain ⟨f2, g2, a2, b2', u2, k2, r2, s1, s2, s3⟩ := st_MM hQ2 (qRise_C hC) (fun i hi => (hM2.2.2.1 i hi).1) gx hMM.2.2.2.2.2.2.2 m7 gx.2.2.2.1 m10 m11 m12 m13
        rw [if_pos k0, s1, s2, gd_t _ (ib_nI (show i < 4 by omega) (by omega)), gd_t _ (ib_nI (show i < 4 by omega) (by omega))]
        refine ⟨_, _, rfl, rfl, ?_, ?_⟩
        · exact (hC.2.2.1 i (by omega)).2.2.1.trans (hM.2.2.1 i (by omega)).2.2.1.symm
        exact ⟨_, _, 0, S, N, hQ2, qRise_C hC, hM2, s3, Nat.zero_le _, hT, h14, hG, hD, hE⟩
      · by_cases k1 : z2 = 1
        · rw [if_neg k0, if_neg (show ¬ ¬ z2 = 1 from fun hh => hh k1), if_neg (show ¬ ¬ (0 ≤ z2 ∧ z2 ≤ 1) by omega), if_pos (show ¬ ¬ (1 ≤ z3 ∧ z3 ≤ 60) from fun hh => hh g3), if_pos (show ¬ z2 = 0 from k0), if_pos (show ¬ z2 = 0 from k0)]
          have hQ2 := qFall_ok hQ (i := i) g3
          have hM2 := qFall_M hM (i := i) (v := z3)
          obtain ⟨f2, g2, a2, b2', u2, k2, r2, s1, s2, s3⟩ := st_MM hQ2 (qFall_C hC) (fun i hi => (hM2.2.2.1 i hi).1) gx hMM.2.2.2.2.2.2.2 m7 gx.2.2.2.1 m10 m11 m12 m13
          rw [if_neg k0, s1, s2]
          exact ⟨_, _, rfl, rfl, (hC.2.2.1 i (by omega)).2.2.2.trans (hM.2.2.1 i (by omega)).2.2.2.symm, _, _, 0, S, N, hQ2, qFall_C hC, hM2, s3, Nat.zero_le _, hT, h14, hG, hD, hE⟩
        · rw [if_neg k0, if_pos (show ¬ z2 = 1 from k1), if_pos (show ¬ (0 ≤ z2 ∧ z2 ≤ 1) by omega)]
          exact ⟨_, _, rfl, rfl, rfl, h.mono⟩
    · have hX : ∀ {β : Type} (x y : β), (if ¬ ¬ (1 ≤ z3 ∧ z3 ≤ 60) then x else y) = y := fun x y => if_neg (fun hh => hh g3)
      simp only [hX, ite_self]
      exact ⟨_, _, rfl, rfl, rfl, h.mono⟩
  · rw [if_pos g1, if_pos g1]
    exact ⟨_, _, rfl, rfl, rfl, h.mono⟩
theorem R_run {K : Nat} {gx : Xo} {gc : Ci} {gn gt : Sw} {m0 m1 m2 m3 : Ar} {m4 : Int32} {m5 : Ar} {m6 : Int32} {m7 : Al} {m10 m11 : Ar} {m12 m13 : Al} {m14 m16 : Int32} {m17 : Al} {m18 : Ar} {m19 : Int32} {m20 m21 : Al} {m22 : Int32}
    (h : RR K gx gc gn gt m0 m1 m2 m3 m4 m5 m6 m7 m10 m11 m12 m13 m14 m16 m17 m18 m19 m20 m21 m22) (hK : K ≤ 1000) (h8 : True) (m8 : Al) (adn adt : Nat → Nat) (m24 m25 : Int64) (m26 m27 : Int32) (p1 : Int32) :
    ∃ o o', f_X2_run adn adt gx gc gn gt p1 = some o ∧ f_X3_run m0 m1 m2 m3 m4 m5 m6 m7 m8 m10 m11 m12 m13 m14 m24 m25 m26 m27 p1 = some o' ∧ o.1 = o'.1 ∧
      ((o.2.2.2.2.2.1 = adn ∧ o.2.2.2.2.2.2.2.2.2.2.2.2.2.2.2.2.1 = adt) ∨ (o.2.2.2.2.2.1 = adt ∧ o.2.2.2.2.2.2.2.2.2.2.2.2.2.2.2.2.1 = adn)) ∧
      RR (K + 1) (o.2.1, o.2.2.1, o.2.2.2.1, o.2.2.2.2.1, gx.2.2.2.2) gc (o.2.2.2.2.2.2.1, o.2.2.2.2.2.2.2.1, o.2.2.2.2.2.2.2.2.1, o.2.2.2.2.2.2.2.2.2.1, o.2.2.2.2.2.2.2.2.2.2.1, o.2.2.2.2.2.2.2.2.2.2.2.1, o.2.2.2.2.2.2.2.2.2.2.2.2.1, o.2.2.2.2.2.2.2.2.2.2.2.2.2.1, o.2.2.2.2.2.2.2.2.2.2.2.2.2.2.1, o.2.2.2.2.2.2.2.2.2.2.2.2.2.2.2.1) o.2.2.2.2.2.2.2.2.2.2.2.2.2.2.2.2.2
        m0 m1 m2 m3 m4 m5 m6 o'.2.1 o'.2.2.2.1 o'.2.2.2.2.1 o'.2.2.2.2.2.1 o'.2.2.2.2.2.2.1 m14 m16 m17 m18 m19 m20 m21 m22 := by
  obtain ⟨q, a, H, S, N, hQ, hC, hM, hMM, hH, hT, h14, hG, hD, hE⟩ := id h
  obtain ⟨z, b1, rfl⟩ := ofI p1
  have i1 : f_X3_in (iI z) 0 500 = some (decide (0 ≤ z ∧ z ≤ 500)) := in_ok (lo := 0) (hi := 500) b1 (by omega) (by omega)
  have e0 : (iI z < 0) = (z < 0) := ltE (b := 0) b1 (by omega)
  have e1 : (iI z ≤ 500) = (z ≤ 500) := leE (b := 500) b1 (by omega)
  unfold f_X2_run f_X3_run
  simp only [i1, Option.bind_some, b2i_d, e0, e1]
  by_cases g : 0 ≤ z ∧ z ≤ 500
  · rw [if_neg (show ¬ z < 0 by omega), if_pos g.2, if_pos (show ¬ ¬ (0 ≤ z ∧ z ≤ 500) from fun hh => hh g), h14]
    obtain ⟨P, hP, rfl⟩ : ∃ P : Nat, P ≤ 500 ∧ z = P := ⟨z.toNat, by omega, by omega⟩
    obtain ⟨j, G, b, y0, y1, y2, y3, ben, bet, hn, ht, k7, k8, k10, k11, k12, k13, k24, k25, k26, k27, r1, r2, r3, r4, r5, r6⟩ := run_L (gx := gx) hQ hC hM P hP P fuel fuel 0 H a gx.1 gx.2.1 gx.2.2.1 gx.2.2.2.1 adn adt gn gt m7 m8 m10 m11 m12 m13 m24 m25 m26 m27 (by omega) (by unfold fuel; omega) (by unfold fuel; omega) (by omega) hT hMM
    rw [nI_iI P] at r1 r2
    refine ⟨_, _, r1, r2, rfl, r6, ?_⟩
    exact ⟨q, b, G, S, N, hQ, hC, hM, r5, by omega, r4, rfl, hG, hD, hE⟩
  · rw [if_neg (show ¬ ¬ ¬ (0 ≤ z ∧ z ≤ 500) from fun hh => hh g)]
    by_cases g0 : z < 0
    · rw [if_pos g0]
      exact ⟨_, _, rfl, rfl, rfl, Or.inl ⟨rfl, rfl⟩, h.mono⟩
    · rw [if_neg g0, if_neg (show ¬ z ≤ 500 by omega)]
      exact ⟨_, _, rfl, rfl, rfl, Or.inl ⟨rfl, rfl⟩, h.mono⟩
end TOLD2
