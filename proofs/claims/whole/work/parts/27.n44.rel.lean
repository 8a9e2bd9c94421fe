section REL
def GRep (x5 : Al) (x6 m16 : Int32) (m17 : Al) : Prop := (x6 = 0 ∧ m16 = 0) ∨ (x6 = 1 ∧ m16 = 1 ∧ ∀ i, i < 8 → x5 i = m17 i)
def DRep (S : Nat) (x7 : Ar) (x8 : Int32) (m18 : Ar) (m19 : Int32) : Prop := S ≤ 10 ∧ x8 = nI S ∧ m19 = nI S ∧ ∀ i, i < S → ∃ v : Nat, 1 ≤ v ∧ v ≤ 60 ∧ x7 i = nI v ∧ m18 i = nI v
def ERep (N : Nat) (x9 x10 : Ar) (x11 : Int32) (m20 m21 : Al) (m22 : Int32) : Prop := N ≤ 8 ∧ x11 = nI N ∧ m22 = nI N ∧ ∀ i, i < N → ∃ n d : Nat, 1 ≤ n ∧ n ≤ 1000000 ∧ 1 ≤ d ∧ d ≤ 1000000 ∧ x9 i = nI n ∧ x10 i = nI d ∧ m20 i = lI (rN n d) ∧ m21 i = lI (rD n d)
/-- class and reference, behind K calls -/
def RR (K : Nat) (gx : Xo) (gc : Ci) (gn gt : Sw) (m0 m1 m2 m3 : Ar) (m4 : Int32) (m5 : Ar) (m6 : Int32) (m7 : Al) (m10 m11 : Ar) (m12 m13 : Al) (m14 m16 : Int32) (m17 : Al) (m18 : Ar) (m19 : Int32) (m20 m21 : Al) (m22 : Int32) : Prop :=
  ∃ (q : AC) (a : AM) (H S N : Nat), QOK q ∧ CRep q gc ∧ MRep q m0 m1 m2 m3 m4 m5 m6 ∧ MM q a H gx.1 gx.2.1 gx.2.2.1 gx.2.2.2.1 gn m7 m10 m11 m12 m13 ∧ H ≤ 500 * K ∧ TOK gt ∧ m14 = 1 ∧
    GRep gx.2.2.2.2.2.1 gx.2.2.2.2.2.2.1 m16 m17 ∧ DRep S gx.2.2.2.2.2.2.2.1 gx.2.2.2.2.2.2.2.2.1 m18 m19 ∧ ERep N gx.2.2.2.2.2.2.2.2.2.1 gx.2.2.2.2.2.2.2.2.2.2.1 gx.2.2.2.2.2.2.2.2.2.2.2.1 m20 m21 m22
theorem RR.mono {K : Nat} {gx : Xo} {gc : Ci} {gn gt : Sw} {m0 m1 m2 m3 : Ar} {m4 : Int32} {m5 : Ar} {m6 : Int32} {m7 : Al} {m10 m11 : Ar} {m12 m13 : Al} {m14 m16 : Int32} {m17 : Al} {m18 : Ar} {m19 : Int32} {m20 m21 : Al} {m22 : Int32}
    (h : RR K gx gc gn gt m0 m1 m2 m3 m4 m5 m6 m7 m10 m11 m12 m13 m14 m16 m17 m18 m19 m20 m21 m22) : RR (K + 1) gx gc gn gt m0 m1 m2 m3 m4 m5 m6 m7 m10 m11 m12 m13 m14 m16 m17 m18 m19 m20 m21 m22 := by
  obtain ⟨q, a, H, S, N, h1, h2, h3, h4, h5, h6⟩ := h
  exact ⟨q, a, H, S, N, h1, h2, h3, h4, by omega, h6⟩
theorem ofI (p : Int32) : ∃ z : Int, B31 z ∧ p = iI z := ⟨p.toInt, B31_of p, (iI_of p).symm⟩
theorem b2i_d {P : Prop} [Decidable P] : (b2i (decide P) = 0) = ¬ P := by
  by_cases h : P
  · rw [decide_eq_true h]; exact propext ⟨fun h2 => absurd h2 (by decide), fun h2 => absurd h h2⟩
  · rw [decide_eq_false h]; exact propext ⟨fun _ => h, fun _ => rfl⟩
theorem ltE {a b : Int} (ha : B31 a) (hb : B31 b) : (iI a < iI b) = (a < b) := propext (iI_lt ha hb)
theorem leE {a b : Int} (ha : B31 a) (hb : B31 b) : (iI a ≤ iI b) = (a ≤ b) := propext (iI_le ha hb)
theorem eqE {a b : Int} (ha : B31 a) (hb : B31 b) : (iI a = iI b) = (a = b) := propext (iI_eq ha hb)
theorem in_ok {z lo hi : Int} (hz : B31 z) (hl : B31 lo) (hh : B31 hi) : f_X3_in (iI z) (iI lo) (iI hi) = some (decide (lo ≤ z ∧ z ≤ hi)) := by
  unfold f_X3_in
  simp only [ltE hz hl, ltE hh hz]
  by_cases h1 : z < lo
  · rw [if_pos h1, decide_eq_false (by omega)]
  · rw [if_neg h1]
    by_cases h2 : hi < z
    · rw [if_pos h2, decide_eq_false (by omega)]
    · rw [if_neg h2, decide_eq_true (by omega)]
theorem ra60 {z : Int} (hz : B31 z) : f_X2_isRate (iI z) = some (decide (1 ≤ z ∧ z ≤ 60)) := by
  unfold f_X2_isRate
  simp only [show (iI z < 1) = (z < 1) from ltE (b := 1) hz (by omega), show ((60 : Int32) < iI z) = (60 < z) from ltE (a := 60) (by omega) hz]
  by_cases h1 : z < 1
  · rw [if_pos h1, decide_eq_false (by omega)]
  · rw [if_neg h1]
    by_cases h2 : 60 < z
    · rw [if_pos h2, decide_eq_false (by omega)]
    · rw [if_neg h2, decide_eq_true (by omega)]
theorem tm_ok {z : Int} (hz : B31 z) : f_X2_isTerm (iI z) = some (decide (1 ≤ z ∧ z ≤ 1000000)) := by
  unfold f_X2_isTerm
  simp only [show (iI z < 1) = (z < 1) from ltE (b := 1) hz (by omega), show ((1000000 : Int32) < iI z) = (1000000 < z) from ltE (a := 1000000) (by omega) hz]
  by_cases h1 : z < 1
  · rw [if_pos h1, decide_eq_false (by omega)]
  · rw [if_neg h1]
    by_cases h2 : 1000000 < z
    · rw [if_pos h2, decide_eq_false (by omega)]
    · rw [if_neg h2, decide_eq_true (by omega)]
theorem ic_ok {C : Nat} (hC4 : C ≤ 4) {gc : Ci} (hC : gc.1 = nI C) {z : Int} (hz : B31 z) : f_X2_isCell gc (iI z) = some (decide (0 ≤ z ∧ z < C)) := by
  unfold f_X2_isCell
  rw [hC, nI_iI]
  simp only [show (iI z < 0) = (z < 0) from ltE (b := 0) hz (by omega), leE (a := C) (b := z) (by omega) hz]
  by_cases h1 : z < 0
  · rw [if_pos h1, decide_eq_false (by omega)]
  · rw [if_neg h1]
    by_cases h2 : (C : Int) ≤ z
    · rw [if_pos h2, decide_eq_false (by omega)]
    · rw [if_neg h2, decide_eq_true (by omega)]
theorem im_ok {C : Nat} (hC4 : C ≤ 4) {m4 : Int32} (hC : m4 = nI C) {z : Int} (hz : B31 z) : f_X3_isCell m4 (iI z) = some (decide (0 ≤ z ∧ z < C)) := by
  unfold f_X3_isCell
  rw [hC, nI_iI, show (1 : Int32) = iI 1 from rfl, iI_sub, show (0 : Int32) = iI 0 from rfl, in_ok hz (by omega) (by omega), Option.bind_some]
  congr 1
  exact decide_eq_decide.mpr ⟨fun h => by omega, fun h => by omega⟩
/-- what starts again -/
theorem st_MM {q : AC} (hQ : QOK q) {gc : Ci} (hC : CRep q gc) {m0 : Ar} (hm0 : ∀ i, i < 4 → m0 i = iI (aLo q i)) (gx : Xo) {gn : Sw} (hT : TOK gn) (m7 x3 : Al) (m10 m11 : Ar) (m12 m13 : Al) :
    ∃ (f2 g2 : Ar) (a2 b2 : Al) (u2 k2 : Ar) (r2 : Al), f_X2_startAgain gx gc gn = some (0, f2, g2, 0, 1, a2, b2, u2, k2) ∧ f_X3_resetAll m0 m7 = some r2 ∧ MM q (aR0 q) 0 0 f2 g2 x3 (0, 1, a2, b2, u2, k2, gn.2.2.2.2.2.2) r2 m10 m11 m12 m13 := by
  obtain ⟨f2, g2, a2, b2, u2, k2, h1, h2, h3⟩ := sa_ok hQ hC gx gn
  obtain ⟨r2, g1, g3, g4⟩ := ra_ok hQ hm0 m7
  refine ⟨f2, g2, a2, b2, u2, k2, r2, h1, g1, fun _ => r0_AB hQ, SX.of ⟨rfl, rfl, h2⟩, g3, rfl, g4 30 (by omega) (by omega), fun i hi => absurd hi (by omega), fun i hi => ⟨0, 0, by omega, by omega, (h3 i hi).1, (h3 i hi).2, g4 _ (by omega) (by omega), g4 _ (by omega) (by omega)⟩, hT⟩
end REL
