section LINK2
theorem if_lx {α : Type} {A B Z0 Z1 T1 T9 E F G : Prop} [Decidable A] [Decidable B] [Decidable Z0] [Decidable Z1] [Decidable T1] [Decidable T9] [Decidable E] [Decidable F] [Decidable G] (n r r2 : α) (hG : G ↔ A ∧ B ∧ (Z0 ∨ Z1) ∧ ¬ T1 ∧ T9 ∧ E ∧ F) (hr : G → r = r2) :
    (if ¬ A then n else if ¬ B then n else if Z0 then (if T1 then n else if T9 then (if ¬ E then n else if F then r else n) else n) else if ¬ Z1 then n else (if T1 then n else if T9 then (if ¬ E then n else if F then r else n) else n)) = if G then r2 else n := by
  by_cases hg : G
  · obtain ⟨hA, hB, hZ, hT1, hT9, hE, hF⟩ := hG.mp hg
    have hJ : (if T1 then n else if T9 then (if ¬ E then n else if F then r else n) else n) = r2 := by rw [if_neg hT1, if_pos hT9, if_neg (show ¬ ¬ E from fun k => k hE), if_pos hF, hr hg]
    rw [hJ, if_pos hg, if_neg (show ¬ ¬ A from fun k => k hA), if_neg (show ¬ ¬ B from fun k => k hB)]
    by_cases k0 : Z0
    · rw [if_pos k0]
    · rw [if_neg k0, if_neg (show ¬ ¬ Z1 from fun k => k (hZ.resolve_left k0))]
  · rw [if_neg hg]
    by_cases hA : A
    · by_cases hB : B
      · have hJ : (Z0 ∨ Z1) → (if T1 then n else if T9 then (if ¬ E then n else if F then r else n) else n) = n := fun hz => by
          by_cases h1 : T1
          · rw [if_pos h1]
          · rw [if_neg h1]
            by_cases h9 : T9
            · rw [if_pos h9]
              by_cases hE : E
              · rw [if_neg (show ¬ ¬ E from fun k => k hE)]
                by_cases hF : F
                · exact absurd (hG.mpr ⟨hA, hB, hz, h1, h9, hE, hF⟩) hg
                · rw [if_neg hF]
              · rw [if_pos hE]
            · rw [if_neg h9]
        rw [if_neg (show ¬ ¬ A from fun k => k hA), if_neg (show ¬ ¬ B from fun k => k hB)]
        by_cases k0 : Z0
        · rw [if_pos k0, hJ (Or.inl k0)]
        · rw [if_neg k0]
          by_cases k1 : Z1
          · rw [if_neg (show ¬ ¬ Z1 from fun k => k k1), hJ (Or.inr k1)]
          · rw [if_pos k1]
      · rw [if_neg (show ¬ ¬ A from fun k => k hA), if_pos hB]
    · rw [if_pos hA]
theorem if_lm {α : Type} {A Z T B V F8 K0 U K2 W G : Prop} [Decidable A] [Decidable Z] [Decidable T] [Decidable B] [Decidable V] [Decidable F8] [Decidable K0] [Decidable U] [Decidable K2] [Decidable W] [Decidable G] (n r : α) (hG : G ↔ A ∧ Z ∧ T ∧ B ∧ V ∧ ¬ F8 ∧ (K0 → U) ∧ (K2 → W)) :
    (if ¬ A then n else if ¬ Z then n else if ¬ T then n else if ¬ B then n else if ¬ V then n else if ¬ F8 then (if ¬ K0 then (if ¬ K2 then r else if ¬ ¬ W then r else n) else if ¬ U then n else (if ¬ K2 then r else if ¬ ¬ W then r else n)) else n) = if G then r else n := by
  by_cases hA : A
  · rw [if_neg (show ¬ ¬ A from fun k => k hA)]
    by_cases hZ : Z
    · rw [if_neg (show ¬ ¬ Z from fun k => k hZ)]
      by_cases hT : T
      · rw [if_neg (show ¬ ¬ T from fun k => k hT)]
        by_cases hB : B
        · rw [if_neg (show ¬ ¬ B from fun k => k hB)]
          by_cases hV : V
          · rw [if_neg (show ¬ ¬ V from fun k => k hV)]
            by_cases h8 : F8
            · rw [if_neg (show ¬ ¬ F8 from fun k => k h8), if_neg (fun hg => (hG.mp hg).2.2.2.2.2.1 h8)]
            · rw [if_pos h8]
              have hJ : (K0 → U) → (if ¬ K2 then r else if ¬ ¬ W then r else n) = if G then r else n := fun hu => by
                by_cases h2 : K2
                · rw [if_neg (show ¬ ¬ K2 from fun k => k h2)]
                  by_cases hW : W
                  · rw [if_pos (show ¬ ¬ W from fun k => k hW), if_pos (hG.mpr ⟨hA, hZ, hT, hB, hV, h8, hu, fun _ => hW⟩)]
                  · rw [if_neg (show ¬ ¬ ¬ W from fun k => k hW), if_neg (fun hg => hW ((hG.mp hg).2.2.2.2.2.2.2 h2))]
                · rw [if_pos h2, if_pos (hG.mpr ⟨hA, hZ, hT, hB, hV, h8, hu, fun k => absurd k h2⟩)]
              by_cases h0 : K0
              · rw [if_neg (show ¬ ¬ K0 from fun k => k h0)]
                by_cases hU : U
                · rw [if_neg (show ¬ ¬ U from fun k => k hU), hJ (fun _ => hU)]
                · rw [if_pos hU, if_neg (fun hg => hU ((hG.mp hg).2.2.2.2.2.2.1 h0))]
              · rw [if_pos h0, hJ (fun k => absurd k h0)]
          · rw [if_pos hV, if_neg (fun hg => hV (hG.mp hg).2.2.2.2.1)]
        · rw [if_pos hB, if_neg (fun hg => hB (hG.mp hg).2.2.2.1)]
      · rw [if_pos hT, if_neg (fun hg => hT (hG.mp hg).2.2.1)]
    · rw [if_pos hZ, if_neg (fun hg => hZ (hG.mp hg).2.1)]
  · rw [if_pos hA, if_neg (fun hg => hA (hG.mp hg).1)]
theorem qLink_M {q : AC} {m0 m1 m2 m3 m5 g2 : Ar} {m4 m6 : Int32} (hM : MRep q m0 m1 m2 m3 m4 m5 m6) {fr at' nt to ac : Nat} {b : Int} (h1 : ∀ j, j < 6 → g2 (6 * aL q + j) = ar6 (nI fr) (nI at') (nI nt) (nI to) (nI ac) (iI b) j) (h2 : ∀ j, j < 6 * aL q → g2 j = m5 j) : MRep (qLink q fr at' nt to ac b) m0 m1 m2 m3 m4 g2 (nI (aL q + 1)) := by
  obtain ⟨c1, c2, c3, c4⟩ := hM
  refine ⟨c1, rfl, c3, fun k hk => ?_⟩
  replace hk : k < aL q + 1 := hk
  show g2 (6 * k) = nI (up (aFr q) (aL q) fr k) ∧ g2 (6 * k + 1) = nI (up (aAt q) (aL q) at' k) ∧ g2 (6 * k + 2) = nI (up (aNt q) (aL q) nt k) ∧ g2 (6 * k + 3) = nI (up (aTo q) (aL q) to k) ∧ g2 (6 * k + 4) = nI (up (aAc q) (aL q) ac k) ∧ g2 (6 * k + 5) = iI (up (aBy q) (aL q) b k)
  by_cases e : k = aL q
  · subst e
    rw [up_s, up_s, up_s, up_s, up_s, up_s]
    exact ⟨h1 0 (by omega), h1 1 (by omega), h1 2 (by omega), h1 3 (by omega), h1 4 (by omega), h1 5 (by omega)⟩
  · rw [up_n e, up_n e, up_n e, up_n e, up_n e, up_n e, h2 _ (by omega), h2 _ (by omega), h2 _ (by omega), h2 _ (by omega), h2 _ (by omega), h2 _ (by omega)]
    exact c4 k (by omega)
theorem R_link {K : Nat} {gx : Xo} {gc : Ci} {gn gt : Sw} {m0 m1 m2 m3 : Ar} {m4 : Int32} {m5 : Ar} {m6 : Int32} {m7 : Al} {m10 m11 : Ar} {m12 m13 : Al} {m14 m16 : Int32} {m17 : Al} {m18 : Ar} {m19 : Int32} {m20 m21 : Al} {m22 : Int32}
    (h : RR K gx gc gn gt m0 m1 m2 m3 m4 m5 m6 m7 m10 m11 m12 m13 m14 m16 m17 m18 m19 m20 m21 m22) (p1 p2 p3 p4 p5 p6 : Int32) :
    ∃ o o', f_X2_link gx gc gn p1 p2 p3 p4 p5 p6 = some o ∧ f_X3_link m0 m4 m5 m6 m7 p1 p2 p3 p4 p5 p6 = some o' ∧ o.1 = o'.1 ∧
      RR (K + 1) (o.2.1, o.2.2.1, o.2.2.2.1, gx.2.2.2) (gc.1, gc.2.1, gc.2.2.1, gc.2.2.2.1, gc.2.2.2.2.1, o.2.2.2.2.1, o.2.2.2.2.2.1, o.2.2.2.2.2.2.1, o.2.2.2.2.2.2.2.1, o.2.2.2.2.2.2.2.2.1, o.2.2.2.2.2.2.2.2.2.1, o.2.2.2.2.2.2.2.2.2.2.1) (o.2.2.2.2.2.2.2.2.2.2.2.1, o.2.2.2.2.2.2.2.2.2.2.2.2.1, o.2.2.2.2.2.2.2.2.2.2.2.2.2.1, o.2.2.2.2.2.2.2.2.2.2.2.2.2.2.1, o.2.2.2.2.2.2.2.2.2.2.2.2.2.2.2.1, o.2.2.2.2.2.2.2.2.2.2.2.2.2.2.2.2, gn.2.2.2.2.2.2) gt
        m0 m1 m2 m3 m4 o'.2.1 o'.2.2.1 o'.2.2.2.1 m10 m11 m12 m13 m14 m16 m17 m18 m19 m20 m21 m22 := by
  obtain ⟨q, a, H, S, N, hQ, hC, hM, hMM, hH, hT, h14, hG, hD, hE⟩ := id h
  obtain ⟨z1, b1, rfl⟩ := ofI p1
  obtain ⟨z2, b2, rfl⟩ := ofI p2
  obtain ⟨z3, b3, rfl⟩ := ofI p3
  obtain ⟨z4, b4, rfl⟩ := ofI p4
  obtain ⟨z5, b5, rfl⟩ := ofI p5
  obtain ⟨z6, b6, rfl⟩ := ofI p6
  have hC4 := hQ.1
  have hL8 := hQ.2.1
  have eX : f_X2_link gx gc gn (iI z1) (iI z2) (iI z3) (iI z4) (iI z5) (iI z6) = if (0 ≤ z1 ∧ z1 < (aC q : Int)) ∧ (0 ≤ z4 ∧ z4 < (aC q : Int)) ∧ (z2 = 0 ∨ z2 = 1) ∧ (1 ≤ z3 ∧ z3 ≤ 9) ∧ ((z5 = 0 ∧ -20 ≤ z6 ∧ z6 ≤ 20) ∨ z5 = 1 ∨ (z5 = 2 ∧ (z6 = 0 ∨ z6 = 1))) ∧ aL q < 8 then
      (f_X2_startAgain gx (gc.1, gc.2.1, gc.2.2.1, gc.2.2.2.1, gc.2.2.2.2.1, nI (aL q + 1), upd gc.2.2.2.2.2.2.1 (aL q) (iI z1), upd gc.2.2.2.2.2.2.2.1 (aL q) (iI z2), upd gc.2.2.2.2.2.2.2.2.1 (aL q) (iI z3), upd gc.2.2.2.2.2.2.2.2.2.1 (aL q) (iI z4), upd gc.2.2.2.2.2.2.2.2.2.2.1 (aL q) (iI z5), upd gc.2.2.2.2.2.2.2.2.2.2.2 (aL q) (iI z6)) gn).bind (fun r12 => some (nI (aL q), r12.1, r12.2.1, r12.2.2.1, nI (aL q + 1), upd gc.2.2.2.2.2.2.1 (aL q) (iI z1), upd gc.2.2.2.2.2.2.2.1 (aL q) (iI z2), upd gc.2.2.2.2.2.2.2.2.1 (aL q) (iI z3), upd gc.2.2.2.2.2.2.2.2.2.1 (aL q) (iI z4), upd gc.2.2.2.2.2.2.2.2.2.2.1 (aL q) (iI z5), upd gc.2.2.2.2.2.2.2.2.2.2.2 (aL q) (iI z6), r12.2.2.2.1, r12.2.2.2.2.1, r12.2.2.2.2.2.1, r12.2.2.2.2.2.2.1, r12.2.2.2.2.2.2.2.1, r12.2.2.2.2.2.2.2.2))
      else some ((-1), gx.1, gx.2.1, gx.2.2.1, nI (aL q), gc.2.2.2.2.2.2.1, gc.2.2.2.2.2.2.2.1, gc.2.2.2.2.2.2.2.2.1, gc.2.2.2.2.2.2.2.2.2.1, gc.2.2.2.2.2.2.2.2.2.2.1, gc.2.2.2.2.2.2.2.2.2.2.2, gn.1, gn.2.1, gn.2.2.1, gn.2.2.2.1, gn.2.2.2.2.1, gn.2.2.2.2.2.1) := by
    have i1 := ic_ok hC4 hC.1 b1
    have i4 := ic_ok hC4 hC.1 b4
    have i5 := act_c b5 b6
    have e0 : (iI z2 = 0) = (z2 = 0) := eqE (b := 0) b2 (by omega)
    have e1 : (iI z2 = 1) = (z2 = 1) := eqE (b := 1) b2 (by omega)
    have e2 : (iI z3 < 1) = (z3 < 1) := ltE (b := 1) b3 (by omega)
    have e3 : (iI z3 ≤ 9) = (z3 ≤ 9) := leE (b := 9) b3 (by omega)
    have e4 : (nI (aL q) < 8) = (aL q < 8) := by rw [nI_iI]; exact (ltE (b := 8) (by omega) (by omega)).trans (propext ⟨fun hh => by omega, fun hh => by omega⟩)
    unfold f_X2_link f_X2_link_J26
    rw [hC.2.1]
    simp only [i1, i4, i5, Option.bind_some, b2i_d, bnd, e0, e1, e2, e3, e4, nI_1]
    rw [cl_nI (show aL q < 2147483648 by omega)]
    exact if_lx _ _ _ ⟨fun hh => by omega, fun hh => by omega⟩ (fun hg => by rw [gd_t _ (ib_nI hg.2.2.2.2.2 (by omega))])
  have eM : f_X3_link m0 m4 m5 m6 m7 (iI z1) (iI z2) (iI z3) (iI z4) (iI z5) (iI z6) = if (0 ≤ z1 ∧ z1 < (aC q : Int)) ∧ (0 ≤ z4 ∧ z4 < (aC q : Int)) ∧ (z2 = 0 ∨ z2 = 1) ∧ (1 ≤ z3 ∧ z3 ≤ 9) ∧ ((z5 = 0 ∧ -20 ≤ z6 ∧ z6 ≤ 20) ∨ z5 = 1 ∨ (z5 = 2 ∧ (z6 = 0 ∨ z6 = 1))) ∧ aL q < 8 then f_X3_link_J97 m0 m5 m6 m7 (iI z1) (iI z2) (iI z3) (iI z4) (iI z5) (iI z6) else some ((-1), m5, m6, m7, 0) := by
    have i1 := im_ok hC4 hM.1 b1
    have i4 := im_ok hC4 hM.1 b4
    have i2 : f_X3_in (iI z2) 0 1 = some (decide (0 ≤ z2 ∧ z2 ≤ 1)) := in_ok (lo := 0) (hi := 1) b2 (by omega) (by omega)
    have i3 : f_X3_in (iI z3) 1 9 = some (decide (1 ≤ z3 ∧ z3 ≤ 9)) := in_ok (lo := 1) (hi := 9) b3 (by omega) (by omega)
    have i5 : f_X3_in (iI z5) 0 2 = some (decide (0 ≤ z5 ∧ z5 ≤ 2)) := in_ok (lo := 0) (hi := 2) b5 (by omega) (by omega)
    have i6 : f_X3_in (iI z6) 0 1 = some (decide (0 ≤ z6 ∧ z6 ≤ 1)) := in_ok (lo := 0) (hi := 1) b6 (by omega) (by omega)
    have i7 : f_X3_in (iI z6) (-20) 20 = some (decide (-20 ≤ z6 ∧ z6 ≤ 20)) := by rw [show (-20 : Int32) = iI (-20) from by decide]; exact in_ok (lo := -20) (hi := 20) b6 (by omega) (by omega)
    have e0 : (iI z5 = 0) = (z5 = 0) := eqE (b := 0) b5 (by omega)
    have e2 : (iI z5 = 2) = (z5 = 2) := eqE (b := 2) b5 (by omega)
    have e4 : (m6 = 8) = (aL q = 8) := by rw [hM.2.1, nI_iI]; exact (eqE (b := 8) (by omega) (by omega)).trans (propext ⟨fun hh => by omega, fun hh => by omega⟩)
    unfold f_X3_link f_X3_link_J79
    simp only [i1, i2, i3, i4, i5, i6, i7, Option.bind_some, b2i_d, e0, e2, e4]
    exact if_lm _ _ ⟨fun hh => by omega, fun hh => by omega⟩
  rw [eX, eM]
  by_cases hg : (0 ≤ z1 ∧ z1 < (aC q : Int)) ∧ (0 ≤ z4 ∧ z4 < (aC q : Int)) ∧ (z2 = 0 ∨ z2 = 1) ∧ (1 ≤ z3 ∧ z3 ≤ 9) ∧ ((z5 = 0 ∧ -20 ≤ z6 ∧ z6 ≤ 20) ∨ z5 = 1 ∨ (z5 = 2 ∧ (z6 = 0 ∨ z6 = 1))) ∧ aL q < 8
  · rw [if_pos hg, if_pos hg]
    obtain ⟨g1, g4, g2, g3, g5, g8⟩ := hg
    obtain ⟨x1, y1, rfl⟩ : ∃ x : Nat, x < aC q ∧ z1 = x := ⟨z1.toNat, by omega, by omega⟩
    obtain ⟨x2, y2, rfl⟩ : ∃ x : Nat, x ≤ 1 ∧ z2 = x := ⟨z2.toNat, by omega, by omega⟩
    obtain ⟨x3, y3, rfl⟩ : ∃ x : Nat, (1 ≤ x ∧ x ≤ 9) ∧ z3 = x := ⟨z3.toNat, by omega, by omega⟩
    obtain ⟨x4, y4, rfl⟩ : ∃ x : Nat, x < aC q ∧ z4 = x := ⟨z4.toNat, by omega, by omega⟩
    obtain ⟨x5, y5, rfl⟩ : ∃ x : Nat, x ≤ 2 ∧ z5 = x := ⟨z5.toNat, by omega, by omega⟩
    have hQ2 := qLink_ok hQ g8 y1 y2 y3 y4 (ac := x5) (b := z6) g5 b6
    rw [← nI_iI x1, ← nI_iI x2, ← nI_iI x3, ← nI_iI x4, ← nI_iI x5]
    obtain ⟨n5, w1, w2, w3⟩ := lk_L m0 m5 m6 m7 (nI x1) (nI x2) (nI x3) (nI x4) (nI x5) (iI z6) g8 hM.2.1 6 fuel 0 m5 (by omega) (by unfold fuel; omega) (fun j hj => by omega) (fun j hj => rfl)
    have hM2 := qLink_M (g2 := n5) hM w2 w3
    obtain ⟨f2, g2', a2, b2', u2, k2, r2, s1, s2, s3⟩ := st_MM hQ2 (qLink_C hC) (fun i hi => (hM2.2.2.1 i hi).1) gx hMM.2.2.2.2.2.2.2 m7 gx.2.2.2.1 m10 m11 m12 m13
    have w4 : f_X3_link_J97 m0 m5 m6 m7 (nI x1) (nI x2) (nI x3) (nI x4) (nI x5) (iI z6) = some (nI (aL q), n5, nI (aL q + 1), r2, 0) := by
      unfold f_X3_link_J97
      rw [gd_t _ (by decide), gd_t _ (by decide), gd_t _ (by decide), gd_t _ (by decide), gd_t _ (by decide), gd_t _ (by decide)]
      rw [show (nI 0 : Int32) = 0 from rfl] at w1
      rw [w1, s2, Option.bind_some]
    rw [s1, w4]
    exact ⟨_, _, rfl, rfl, rfl, _, _, 0, S, N, hQ2, qLink_C hC, hM2, s3, Nat.zero_le _, hT, h14, hG, hD, hE⟩
  · rw [if_neg hg, if_neg hg, ← hC.2.1]
    exact ⟨_, _, rfl, rfl, rfl, h.mono⟩
end LINK2
