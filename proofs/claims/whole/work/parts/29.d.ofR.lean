section OF
theorem iI_div {a b : Int} (ha : B31 a) (hb : B31 b) : iI a / iI b = iI (a.tdiv b) := by
  have h1 : Int32.minValue.toInt = -2147483648 := by decide
  have h2 : Int32.maxValue.toInt = 2147483647 := by decide
  exact (Int32.ofInt_tdiv (by omega) (by omega) (by omega) (by omega)).symm
/-- a CELL's beat: the class's two terms -/
theorem be_ok {q : AC} {gc : Ci} {c v w : Nat} (hQ : QOK q) (hC : CRep q gc) (hc : c < aC q) (hv : aRi q c = v) (hw : aFa q c = w) (v1 : 1 ≤ v) (v2 : v ≤ 60) (w1 : 1 ≤ w) (w2 : w ≤ 60) :
    f_X2_beatTerm gc (nI c) 1 = some (iI (rN ((aHi q c - aLo q c) * ((v : Int) + (w : Int))) ((v : Int) * (w : Int)))) ∧ f_X2_beatTerm gc (nI c) 0 = some (iI (rD ((aHi q c - aLo q c) * ((v : Int) + (w : Int))) ((v : Int) * (w : Int)))) := by
  have hC4 := hQ.1
  obtain ⟨b1, b2, -, -⟩ := hQ.2.2.1 c (by omega)
  obtain ⟨e1, e2, e3, e4⟩ := hC.2.2.1 c (by omega)
  have hY := vw_b v1 v2 w1 w2
  have hX := sp_b hQ hc v2 w2
  have hg := gcd_pos (a := ((aHi q c - aLo q c) * ((v : Int) + (w : Int)))) (show 0 < ((v : Int) * (w : Int)) by omega)
  have hgl := gcd_le (a := ((aHi q c - aLo q c) * ((v : Int) + (w : Int)))) (show 0 < ((v : Int) * (w : Int)) by omega)
  have hco := co_ok (a := ((aHi q c - aLo q c) * ((v : Int) + (w : Int)))) (b := ((v : Int) * (w : Int))) (by omega) (by omega) (by omega)
  have hnz : nzI (iI (Int.gcd ((aHi q c - aLo q c) * ((v : Int) + (w : Int))) ((v : Int) * (w : Int)) : Int)) = true := nzI_t (by omega) (by omega)
  have d1 : iI ((aHi q c - aLo q c) * ((v : Int) + (w : Int))) / iI (Int.gcd ((aHi q c - aLo q c) * ((v : Int) + (w : Int))) ((v : Int) * (w : Int)) : Int) = iI (rN ((aHi q c - aLo q c) * ((v : Int) + (w : Int))) ((v : Int) * (w : Int))) := by
    rw [iI_div (by omega) (by omega), tdiv_ex (Int.gcd_dvd_left _ _)]
    rfl
  have d2 : iI ((v : Int) * (w : Int)) / iI (Int.gcd ((aHi q c - aLo q c) * ((v : Int) + (w : Int))) ((v : Int) * (w : Int)) : Int) = iI (rD ((aHi q c - aLo q c) * ((v : Int) + (w : Int))) ((v : Int) * (w : Int))) := by
    rw [iI_div (by omega) (by omega), tdiv_ex (Int.gcd_dvd_right _ _)]
    rfl
  rw [hv] at e3
  rw [hw] at e4
  have hJ : ∀ k : Int32, f_X2_beatTerm_J53 (iI ((aHi q c - aLo q c) * ((v : Int) + (w : Int)))) (iI ((v : Int) * (w : Int))) k = some (k / iI (Int.gcd ((aHi q c - aLo q c) * ((v : Int) + (w : Int))) ((v : Int) * (w : Int)) : Int)) := by
    intro k
    unfold f_X2_beatTerm_J53
    rw [i2l_iI (show B31 ((aHi q c - aLo q c) * ((v : Int) + (w : Int))) by omega), i2l_iI (show B31 ((v : Int) * (w : Int)) by omega), hco, Option.bind_some, l2i_lI, gd_t _ hnz]
  constructor
  · unfold f_X2_beatTerm f_X0_span
    rw [gd_t _ (ib_nI (show c < 4 by omega) (by omega)), bnd_e, bnd_e, gd_t _ (ib_nI (show c < 4 by omega) (by omega)), Option.bind_some, bnd_e, bnd_e, cl_nI (show c < 2147483648 by omega), e1, e2, e3, e4, iI_sub, iI_add, iI_mul, iI_mul, hJ, hJ, d1, d2]
    rfl
  · unfold f_X2_beatTerm f_X0_span
    rw [gd_t _ (ib_nI (show c < 4 by omega) (by omega)), bnd_e, bnd_e, gd_t _ (ib_nI (show c < 4 by omega) (by omega)), Option.bind_some, bnd_e, bnd_e, cl_nI (show c < 2147483648 by omega), e1, e2, e3, e4, iI_sub, iI_add, iI_mul, iI_mul, hJ, hJ, d1, d2]
    rfl
theorem R_of {K : Nat} {gx : Xo} {gc : Ci} {gn gt : Sw} {m0 m1 m2 m3 : Ar} {m4 : Int32} {m5 : Ar} {m6 : Int32} {m7 : Al} {m10 m11 : Ar} {m12 m13 : Al} {m14 m16 : Int32} {m17 : Al} {m18 : Ar} {m19 : Int32} {m20 m21 : Al} {m22 : Int32}
    (h : RR K gx gc gn gt m0 m1 m2 m3 m4 m5 m6 m7 m10 m11 m12 m13 m14 m16 m17 m18 m19 m20 m21 m22) (m24 m25 : Int64) (p1 p2 : Int32) : ∃ (o : Option Int32) (v w : Int32) (x y : Int64), f_X2_of gx gc gn p1 p2 = some o ∧ f_X3_of m0 m1 m2 m3 m4 m7 m24 m25 p1 p2 = some (v, w, x, y) ∧ ((o = none ∧ w = 1) ∨ (o = some v ∧ w = 0)) := by
  obtain ⟨q, a, H, S, N, hQ, hC, hM, hMM, hH, hT, h14, hG, hD, hE⟩ := id h
  obtain ⟨z, b1, rfl⟩ := ofI p1
  obtain ⟨y, b2, rfl⟩ := ofI p2
  have hC4 := hQ.1
  have i1 := ic_ok hC4 hC.1 b1
  have i2 := im_ok hC4 hM.1 b1
  have i3 : f_X3_in (iI y) 0 6 = some (decide (0 ≤ y ∧ y ≤ 6)) := in_ok (lo := 0) (hi := 6) b2 (by omega) (by omega)
  have e0 : (iI y = 0) = (y = 0) := eqE (b := 0) b2 (by omega)
  have e1 : (iI y = 1) = (y = 1) := eqE (b := 1) b2 (by omega)
  have e2 : (iI y = 2) = (y = 2) := eqE (b := 2) b2 (by omega)
  have e3 : (iI y = 3) = (y = 3) := eqE (b := 3) b2 (by omega)
  have e4 : (iI y = 4) = (y = 4) := eqE (b := 4) b2 (by omega)
  have e5 : (iI y = 5) = (y = 5) := eqE (b := 5) b2 (by omega)
  have e6 : (iI y = 6) = (y = 6) := eqE (b := 6) b2 (by omega)
  unfold f_X2_of f_X3_of
  simp only [i1, i2, i3, Option.bind_some, b2i_d, e0, e1, e2, e3, e4, e5, e6]
  by_cases g1 : 0 ≤ z ∧ z < (aC q : Int)
  · rw [if_pos (show ¬ ¬ (0 ≤ z ∧ z < (aC q : Int)) from fun hh => hh g1), if_neg (show ¬ ¬ (0 ≤ z ∧ z < (aC q : Int)) from fun hh => hh g1)]
    obtain ⟨c, hc, rfl⟩ : ∃ c : Nat, c < aC q ∧ z = c := ⟨z.toNat, by omega, by omega⟩
    obtain ⟨b3, b4, b5, b6⟩ := hQ.2.2.1 c (by omega)
    obtain ⟨b7, b8⟩ := hQ.2.2.2.1 c hc
    obtain ⟨v, hv⟩ : ∃ v : Nat, aRi q c = v := ⟨(aRi q c).toNat, by omega⟩
    obtain ⟨w, hw⟩ : ∃ w : Nat, aFa q c = w := ⟨(aFa q c).toNat, by omega⟩
    obtain ⟨-, -, f1, f2⟩ := hM.2.2.1 c (by omega)
    rw [hv, ← nI_iI] at f1
    rw [hw, ← nI_iI] at f2
    have hbt := bt_ok (v := v) (w := w) hQ hM hc (by omega) (by omega) (by omega) (by omega)
    obtain ⟨hb1, hb2⟩ := be_ok (v := v) (w := w) hQ hC hc hv hw (by omega) (by omega) (by omega) (by omega)
    obtain ⟨g2, g3, g4⟩ := (hMM.2.1.rep (show 0 < aC q by omega)).2.2.1 c (by omega)
    obtain ⟨k2, k3, k4⟩ := hMM.2.2.1.2.2.1 c (by omega)
    obtain ⟨tx, ty, -, -, t1, t2, t3, t4⟩ := hMM.2.2.2.2.2.2.1 c (by omega)
    have gib := ib_nI (show c < 4 by omega) (show 4 < 2147483648 by omega)
    have n22 : 22 + nI c = nI (22 + c) := nI_add 22 c
    have n26 : 26 + nI c = nI (26 + c) := nI_add 26 c
    have c0 : (nI c).toNatClampNeg = c := cl_nI (by omega)
    have c1 : (nI (2 * c)).toNatClampNeg = 2 * c := cl_nI (by omega)
    have c2 : (nI (2 * c + 1)).toNatClampNeg = 2 * c + 1 := cl_nI (by omega)
    have c8 : (nI (8 + c)).toNatClampNeg = 8 + c := cl_nI (by omega)
    have c22 : (nI (22 + c)).toNatClampNeg = 22 + c := cl_nI (by omega)
    have c26 : (nI (26 + c)).toNatClampNeg = 26 + c := cl_nI (by omega)
    rw [← nI_iI c]
    simp only [gd_t _ gib, ix0, ix1, ix8, n22, n26, c0, c1, c2, c8, c22, c26, g2, g3, g4, k2, k3, k4, t1, t2, t3, t4, f1, f2, hbt, hb1, hb2, Option.bind_some, gd_t _ (ib_nI (show 2 * c < 31 by omega) (show 31 < 2147483648 by omega)), gd_t _ (ib_nI (show 2 * c + 1 < 31 by omega) (show 31 < 2147483648 by omega)), gd_t _ (ib_nI (show 8 + c < 31 by omega) (show 31 < 2147483648 by omega)), gd_t _ (ib_nI (show 22 + c < 31 by omega) (show 31 < 2147483648 by omega)), gd_t _ (ib_nI (show 26 + c < 31 by omega) (show 31 < 2147483648 by omega)), l2i_lI]
    by_cases h0 : y = 0
    · rw [if_pos h0, if_pos h0, if_pos (show ¬ ¬ (0 ≤ y ∧ y ≤ 6) by omega)]
      exact ⟨_, _, _, _, _, rfl, rfl, Or.inr ⟨rfl, rfl⟩⟩
    · rw [if_neg h0, if_neg h0]
      by_cases h1 : y = 1
      · rw [if_pos h1, if_pos h1, if_pos (show ¬ ¬ (0 ≤ y ∧ y ≤ 6) by omega)]
        exact ⟨_, _, _, _, _, rfl, rfl, Or.inr ⟨rfl, rfl⟩⟩
      · rw [if_neg h1, if_neg h1]
        by_cases h2 : y = 2
        · rw [if_pos h2, if_pos h2, if_pos (show ¬ ¬ (0 ≤ y ∧ y ≤ 6) by omega)]
          cases vF a.2.2 c with
          | true => exact ⟨_, _, _, _, _, rfl, rfl, Or.inr ⟨rfl, rfl⟩⟩
          | false => exact ⟨_, _, _, _, _, rfl, rfl, Or.inr ⟨rfl, rfl⟩⟩
        · rw [if_neg h2, if_neg h2]
          by_cases h3 : y = 3
          · rw [if_pos h3, if_pos h3, if_pos (show ¬ ¬ (0 ≤ y ∧ y ≤ 6) by omega), nI_iI]
            exact ⟨_, _, _, _, _, rfl, rfl, Or.inr ⟨rfl, rfl⟩⟩
          · rw [if_neg h3, if_neg h3]
            by_cases h4 : y = 4
            · rw [if_pos h4, if_pos h4, if_pos (show ¬ ¬ (0 ≤ y ∧ y ≤ 6) by omega), nI_iI]
              exact ⟨_, _, _, _, _, rfl, rfl, Or.inr ⟨rfl, rfl⟩⟩
            · rw [if_neg h4, if_neg h4]
              by_cases h5 : y = 5
              · rw [if_pos h5, if_pos h5, if_pos (show ¬ ¬ (0 ≤ y ∧ y ≤ 6) by omega)]
                exact ⟨_, _, _, _, _, rfl, rfl, Or.inr ⟨rfl, rfl⟩⟩
              · rw [if_neg h5, if_neg h5]
                by_cases h6 : y = 6
                · rw [if_pos h6, if_pos (show ¬ ¬ (0 ≤ y ∧ y ≤ 6) by omega)]
                  exact ⟨_, _, _, _, _, rfl, rfl, Or.inr ⟨rfl, rfl⟩⟩
                · rw [if_neg h6, if_neg (show ¬ ¬ ¬ (0 ≤ y ∧ y ≤ 6) by omega)]
                  exact ⟨_, _, _, _, _, rfl, rfl, Or.inl ⟨rfl, rfl⟩⟩
  · rw [if_neg (show ¬ ¬ ¬ (0 ≤ z ∧ z < (aC q : Int)) from fun hh => hh g1), if_pos (show ¬ (0 ≤ z ∧ z < (aC q : Int)) from g1)]
    exact ⟨_, _, _, _, _, rfl, rfl, Or.inl ⟨rfl, rfl⟩⟩
end OF
