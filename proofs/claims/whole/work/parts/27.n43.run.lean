section RUN
/-- the class's moment: it is a where there is a CELL; before the first one only its TIME is told -/
def SX (q : AC) (a : AM) (gn : Sw) : Prop := ∃ a2 : AM, SRep a2 gn ∧ a2.1 = a.1 ∧ a2.2.1 = a.2.1 ∧ (0 < aC q → a2 = a)
theorem SX.rep {q : AC} {a : AM} {gn : Sw} (h : SX q a gn) (h0 : 0 < aC q) : SRep a gn := by
  obtain ⟨a2, h1, -, -, h4⟩ := h
  rw [← h4 h0]
  exact h1
theorem SX.t1 {q : AC} {a : AM} {gn : Sw} (h : SX q a gn) : gn.1 = lI a.1 := by
  obtain ⟨a2, h1, h2, -, -⟩ := h
  rw [← h2]
  exact h1.1
theorem SX.t2 {q : AC} {a : AM} {gn : Sw} (h : SX q a gn) : gn.2.1 = lI a.2.1 := by
  obtain ⟨a2, h1, -, h3, -⟩ := h
  rw [← h3]
  exact h1.2.1
theorem SX.of {q : AC} {a : AM} {gn : Sw} (h : SRep a gn) : SX q a gn := ⟨a, h, rfl, rfl, fun _ => rfl⟩
/-- the pair of moments: the class's, the reference's row -/
def MM (q : AC) (a : AM) (H : Nat) (x0 : Int32) (x1 x2 : Ar) (x3 : Al) (gn : Sw) (m7 : Al) (m10 m11 : Ar) (m12 m13 : Al) : Prop :=
  (0 < aC q → AB q a 1000000 1000000) ∧ SX q a gn ∧ RRep a m7 ∧ x0 = nI H ∧ m7 30 = lI H ∧ KRep H x3 m10 m11 m12 m13 ∧ TRep H x1 x2 m7 ∧ TOK gn
theorem RRep.keep {a : AM} {r r2 : Al} (h : RRep a r) (hr : ∀ j, j < 31 → r2 j = r j) : RRep a r2 := ⟨(hr 20 (by omega)).trans h.1, (hr 21 (by omega)).trans h.2.1, h.2.2.keep (fun j hj => hr j (by omega))⟩
theorem TRep.keep {H : Nat} {tp bt : Ar} {r r2 : Al} (h : TRep H tp bt r) (hr : ∀ j, j < 31 → r2 j = r j) : TRep H tp bt r2 := fun i hi => by
  rw [hr (22 + i) (by omega), hr (26 + i) (by omega)]
  exact h i hi
theorem MM.keep {q : AC} {a : AM} {H : Nat} {x0 : Int32} {x1 x2 : Ar} {x3 : Al} {gn : Sw} {m7 r : Al} {m10 m11 : Ar} {m12 m13 : Al} (h : MM q a H x0 x1 x2 x3 gn m7 m10 m11 m12 m13) (hr : ∀ j, j < 31 → r j = m7 j) : MM q a H x0 x1 x2 x3 gn r m10 m11 m12 m13 :=
  ⟨h.1, h.2.1, h.2.2.1.keep hr, h.2.2.2.1, (hr 30 (by omega)).trans h.2.2.2.2.1, h.2.2.2.2.2.1, h.2.2.2.2.2.2.1.keep hr, h.2.2.2.2.2.2.2⟩
/-- a trial: the moment copied, and one event on the copy -/
theorem tr_ok {q : AC} {a : AM} {c : Ci} {gn gt : Sw} (hQ : QOK q) (hC : CRep q c) (hS : SRep a gn) (hB : AB q a 1000000 1000000) (h0 : 0 < aC q) :
    ∃ (a2 b2 : Al) (f2 k2 : Ar) (s2 : Sw), f_X1_copyFrom gt gn = some (lI a.1, lI a.2.1, a2, b2, f2, k2) ∧ f_X1_advance (lI a.1, lI a.2.1, a2, b2, f2, k2, gt.2.2.2.2.2.2) c = some (!(aSpent q (aEv q a)), s2) ∧
      SRep (aEv q a) s2 ∧ s2.2.2.2.2.2.2.1 = nI (aPick q a.2.2) ∧ s2.2.2.2.2.2.2.2.1 = nI (aSide a.2.2 (aPick q a.2.2)) := by
  obtain ⟨a2, b2, f2, k2, h1, h2⟩ := cf_ok hS gt
  obtain ⟨s2, g1, g2, g3, g4⟩ := adv_ok (s := (lI a.1, lI a.2.1, a2, b2, f2, k2, gt.2.2.2.2.2.2)) hQ hC ⟨rfl, rfl, h2⟩ hB h0
  exact ⟨a2, b2, f2, k2, s2, h1, g1, g2, g3, g4⟩
/-- one event of both, kept -/
theorem ep_ok {q : AC} {a : AM} {c : Ci} {gx : Xo} {gn : Sw} {H : Nat} {x0 : Int32} {x1 x2 : Ar} {x3 : Al} {m0 m1 m2 m3 m5 : Ar} {m4 m6 : Int32} {m7 : Al} {m10 m11 : Ar} {m12 m13 : Al} (hQ : QOK q) (hC : CRep q c) (hM : MRep q m0 m1 m2 m3 m4 m5 m6) (h0 : 0 < aC q) (hH : H < 1000000000)
    (hR : MM q a H x0 x1 x2 x3 gn m7 m10 m11 m12 m13) (hs : aSpent q (aEv q a) = false) {s2 : Sw} (hS2 : SRep (aEv q a) s2) (e7 : s2.2.2.2.2.2.2.1 = nI (aPick q a.2.2)) (e8 : s2.2.2.2.2.2.2.2.1 = nI (aSide a.2.2 (aPick q a.2.2))) (m8 : Al) (m24 m25 : Int64) (m26 m27 : Int32) :
    ∃ (y1 y2 : Ar) (y3 r3 r2 : Al) (k10 k11 : Ar) (k12 k13 : Al) (k24 k25 : Int64) (k26 k27 : Int32), f_X2_noteEvent (x0, x1, x2, x3, gx.2.2.2.2) s2 = some (nI (H + 1), y1, y2, y3) ∧
      f_X3_step m0 m1 m2 m3 m4 m5 m6 m7 m8 m10 m11 m12 m13 1 m24 m25 m26 m27 = some (true, r3, r2, k10, k11, k12, k13, k24, k25, k26, k27) ∧ MM q (aEv q a) (H + 1) (nI (H + 1)) y1 y2 y3 s2 r3 k10 k11 k12 k13 := by
  obtain ⟨hB0, hS, hRR, ex, e30, hK, hT, hTO⟩ := hR
  have hB := hB0 h0
  have hp := aPick_lt (v := a.2.2) h0
  have hC4 := hQ.1
  have hp4 : aPick q a.2.2 < 4 := by omega
  have hz1 := side_le a.2.2 (aPick q a.2.2)
  have hB2 := ev_ok hQ hB h0 hs
  obtain ⟨r2, r3, x3', y3', c1, c2, c3, c4, c5, c6⟩ := mev_ok hQ hM hRR hB h0 m8 m10 m11 m12 m13 1 m24 m25 m26 m27
  have hn := ne_ok (x := (x0, x1, x2, x3, gx.2.2.2.2)) hH ex hS2 hp4 hz1 e7 e8
  have h30 : r3 30 = lI (H + 1) := by rw [c4, e30]; exact lI_add H 1
  have hl := lg_ok hH m10 m11 m12 m13 r2 r3 x3' y3' (nI (aPick q a.2.2)) (nI (aSide a.2.2 (aPick q a.2.2))) h30
  have hst := (c5 hs).trans hl
  have hT2 := hT.step hz1 hp4 c3
  have hTO2 : TOK s2 := ⟨_, _, hp4, hz1, e7, e8⟩
  by_cases h5 : H < 500
  · rw [if_pos h5] at hst hn
    refine ⟨_, _, _, r3, r2, _, _, _, _, _, _, _, _, hn, hst, fun _ => hB2, SX.of hS2, c2, rfl, h30, ?_, hT2, hTO2⟩
    rw [c2.1, c2.2.1]
    exact hK.step hB2.1 hB2.2.1 hB2.2.2.1 hp4 hz1
  · rw [if_neg h5] at hst hn
    exact ⟨_, _, _, r3, r2, _, _, _, _, _, _, _, _, hn, hst, fun _ => hB2, SX.of hS2, c2, rfl, h30, hK.more h5, hT2, hTO2⟩
/-- the class's loop of run and the reference's, side by side -/
theorem run_L {q : AC} {c : Ci} {gx : Xo} {m0 m1 m2 m3 m5 : Ar} {m4 m6 : Int32} (hQ : QOK q) (hC : CRep q c) (hM : MRep q m0 m1 m2 m3 m4 m5 m6) (P : Nat) (hP : P ≤ 500) :
    ∀ (n m k i H : Nat) (a : AM) (x0 : Int32) (x1 x2 : Ar) (x3 : Al) (adn adt : Nat → Nat) (gn gt : Sw) (m7 m8 : Al) (m10 m11 : Ar) (m12 m13 : Al) (m24 m25 : Int64) (m26 m27 : Int32), i + n = P → n < m → n < k → H + n < 1000000000 → TOK gt →
      MM q a H x0 x1 x2 x3 gn m7 m10 m11 m12 m13 →
      ∃ (j G : Nat) (b : AM) (y0 : Int32) (y1 y2 : Ar) (y3 : Al) (ben bet : Nat → Nat) (hn ht : Sw) (k7 k8 : Al) (k10 k11 : Ar) (k12 k13 : Al) (k24 k25 : Int64) (k26 k27 : Int32),
        f_X2_run_L15 gx c (nI P) m (nI i) x0 x1 x2 x3 adn gn.1 gn.2.1 gn.2.2.1 gn.2.2.2.1 gn.2.2.2.2.1 gn.2.2.2.2.2.1 gn.2.2.2.2.2.2.1 gn.2.2.2.2.2.2.2.1 gn.2.2.2.2.2.2.2.2.1 gn.2.2.2.2.2.2.2.2.2 adt gt.1 gt.2.1 gt.2.2.1 gt.2.2.2.1 gt.2.2.2.2.1 gt.2.2.2.2.2.1 gt.2.2.2.2.2.2.1 gt.2.2.2.2.2.2.2.1 gt.2.2.2.2.2.2.2.2.1 gt.2.2.2.2.2.2.2.2.2 =
          some (nI j, y0, y1, y2, y3, ben, hn.1, hn.2.1, hn.2.2.1, hn.2.2.2.1, hn.2.2.2.2.1, hn.2.2.2.2.2.1, hn.2.2.2.2.2.2.1, hn.2.2.2.2.2.2.2.1, hn.2.2.2.2.2.2.2.2.1, hn.2.2.2.2.2.2.2.2.2, bet, ht.1, ht.2.1, ht.2.2.1, ht.2.2.2.1, ht.2.2.2.2.1, ht.2.2.2.2.2.1, ht.2.2.2.2.2.2.1, ht.2.2.2.2.2.2.2.1, ht.2.2.2.2.2.2.2.2.1, ht.2.2.2.2.2.2.2.2.2) ∧
        f_X3_run_L20 m0 m1 m2 m3 m4 m5 m6 1 (nI P) k (nI i) m7 m8 m10 m11 m12 m13 m24 m25 m26 m27 = some (nI j, k7, k8, k10, k11, k12, k13, 0, k24, k25, k26, k27) ∧
        G ≤ H + n ∧ TOK ht ∧ MM q b G y0 y1 y2 y3 hn k7 k10 k11 k12 k13 ∧ ((ben = adn ∧ bet = adt) ∨ (ben = adt ∧ bet = adn)) := by
  intro n
  induction n with
  | zero =>
    intro m k i H a x0 x1 x2 x3 adn adt gn gt m7 m8 m10 m11 m12 m13 m24 m25 m26 m27 hin hm hk hH hTt hR
    obtain ⟨m, rfl⟩ : ∃ m', m = m' + 1 := ⟨m - 1, by omega⟩
    obtain ⟨k, rfl⟩ : ∃ k', k = k' + 1 := ⟨k - 1, by omega⟩
    obtain rfl : i = P := by omega
    refine ⟨i, H, a, x0, x1, x2, x3, adn, adt, gn, gt, m7, m8, m10, m11, m12, m13, m24, m25, m26, m27, ?_, ?_, by omega, hTt, hR, Or.inl ⟨rfl, rfl⟩⟩
    · show f_X2_run_B15 gx c (nI i) (f_X2_run_L15 gx c (nI i) m) _ _ _ _ _ _ _ _ _ _ _ _ _ _ _ _ _ _ _ _ _ _ _ _ _ _ _ = _
      unfold f_X2_run_B15
      rw [if_pos (show nI i ≤ nI i from nI_le (by omega) (by omega))]
    · show f_X3_run_B20 m0 m1 m2 m3 m4 m5 m6 1 (nI i) (f_X3_run_L20 m0 m1 m2 m3 m4 m5 m6 1 (nI i) k) _ _ _ _ _ _ _ _ _ _ _ = _
      unfold f_X3_run_B20
      rw [if_pos (show nI i ≤ nI i from nI_le (by omega) (by omega))]
  | succ n ih =>
    intro m k i H a x0 x1 x2 x3 adn adt gn gt m7 m8 m10 m11 m12 m13 m24 m25 m26 m27 hin hm hk hH hTt hR
    obtain ⟨m, rfl⟩ : ∃ m', m = m' + 1 := ⟨m - 1, by omega⟩
    obtain ⟨k, rfl⟩ : ∃ k', k = k' + 1 := ⟨k - 1, by omega⟩
    have hC4 := hQ.1
    have hge : ¬ nI P ≤ nI i := nI_ge (a := i) (b := P) (by omega) (by omega)
    by_cases h0 : 0 < aC q
    · obtain ⟨a2, b2, f2, k2, s2, t1, t2, t3, t4, t5⟩ := tr_ok (gt := gt) hQ hC (hR.2.1.rep h0) (hR.1 h0) h0
      have hTs : TOK s2 := ⟨aPick q a.2.2, aSide a.2.2 (aPick q a.2.2), by have := aPick_lt (v := a.2.2) h0; omega, side_le _ _, t4, t5⟩
      cases hs : aSpent q (aEv q a) with
      | true =>
        obtain ⟨r2, r3, x3', y3', c1, c2, c3, c4, c5, c6⟩ := mev_ok hQ hM hR.2.2.1 (hR.1 h0) h0 m8 m10 m11 m12 m13 1 m24 m25 m26 m27
        obtain ⟨r4, d1, d2⟩ := c6 hs
        rw [hs] at t2
        refine ⟨i, H, a, x0, x1, x2, x3, adn, adt, gn, s2, r4, r2, m10, m11, m12, m13, x3', y3', nI (aPick q a.2.2), nI (aSide a.2.2 (aPick q a.2.2)), ?_, ?_, by omega, hTs, hR.keep d1, Or.inl ⟨rfl, rfl⟩⟩
        · show f_X2_run_B15 gx c (nI P) (f_X2_run_L15 gx c (nI P) m) _ _ _ _ _ _ _ _ _ _ _ _ _ _ _ _ _ _ _ _ _ _ _ _ _ _ _ = _
          unfold f_X2_run_B15
          rw [if_neg hge]
          show (f_X1_copyFrom gt gn).bind _ = _
          rw [t1, Option.bind_some]
          show (f_X1_advance (lI a.1, lI a.2.1, a2, b2, f2, k2, gt.2.2.2.2.2.2) c).bind _ = _
          rw [t2, Option.bind_some]
          rfl
        · show f_X3_run_B20 m0 m1 m2 m3 m4 m5 m6 1 (nI P) (f_X3_run_L20 m0 m1 m2 m3 m4 m5 m6 1 (nI P) k) _ _ _ _ _ _ _ _ _ _ _ = _
          unfold f_X3_run_B20
          rw [if_neg hge, d2, Option.bind_some]
          rfl
      | false =>
        rw [hs] at t2
        obtain ⟨y1, y2, y3, r3, r2, k10, k11, k12, k13, k24, k25, k26, k27, u1, u2, u3⟩ := ep_ok (gx := gx) hQ hC hM h0 (by omega) hR hs t3 t4 t5 m8 m24 m25 m26 m27
        obtain ⟨j, G, b, w0, w1, w2, w3, ben, bet, hn, ht, k7, k8, l10, l11, l12, l13, l24, l25, l26, l27, v1, v2, v3, v4, v5, v6⟩ := ih m k (i + 1) (H + 1) (aEv q a) (nI (H + 1)) y1 y2 y3 adt adn s2 gn r3 r2 k10 k11 k12 k13 k24 k25 k26 k27 (by omega) (by omega) (by omega) (by omega) hR.2.2.2.2.2.2.2 u3
        refine ⟨j, G, b, w0, w1, w2, w3, ben, bet, hn, ht, k7, k8, l10, l11, l12, l13, l24, l25, l26, l27, ?_, ?_, by omega, v4, v5, v6.symm⟩
        · show f_X2_run_B15 gx c (nI P) (f_X2_run_L15 gx c (nI P) m) _ _ _ _ _ _ _ _ _ _ _ _ _ _ _ _ _ _ _ _ _ _ _ _ _ _ _ = _
          unfold f_X2_run_B15
          rw [if_neg hge]
          show (f_X1_copyFrom gt gn).bind _ = _
          rw [t1, Option.bind_some]
          show (f_X1_advance (lI a.1, lI a.2.1, a2, b2, f2, k2, gt.2.2.2.2.2.2) c).bind _ = _
          rw [t2, Option.bind_some, if_pos (show ¬ b2i (!false) = 0 by decide)]
          show (f_X2_noteEvent (x0, x1, x2, x3, gx.2.2.2.2) s2).bind _ = _
          rw [u1, Option.bind_some, nI_1]
          exact v1
        · show f_X3_run_B20 m0 m1 m2 m3 m4 m5 m6 1 (nI P) (f_X3_run_L20 m0 m1 m2 m3 m4 m5 m6 1 (nI P) k) _ _ _ _ _ _ _ _ _ _ _ = _
          unfold f_X3_run_B20
          rw [if_neg hge, u2, Option.bind_some, if_neg (show ¬ b2i true = 0 by decide), nI_1]
          exact v2
    · have e0 : aC q = 0 := by omega
      obtain ⟨aa, hS9, e91, e92, -⟩ := hR.2.1
      obtain ⟨a2, b2, f2, k2, t1, t2⟩ := cf_ok hS9 gt
      rw [e91, e92] at t1
      have t3 : f_X1_advance (lI a.1, lI a.2.1, a2, b2, f2, k2, gt.2.2.2.2.2.2) c = some (false, (lI a.1, lI a.2.1, a2, b2, f2, k2, gt.2.2.2.2.2.2)) := by
        unfold f_X1_advance
        rw [if_neg (show ¬ ¬ c.1 = 0 by rw [hC.1, e0]; decide)]
      have t4 : f_X3_step m0 m1 m2 m3 m4 m5 m6 m7 m8 m10 m11 m12 m13 1 m24 m25 m26 m27 = some (false, m7, m8, m10, m11, m12, m13, m24, m25, m26, m27) := by
        unfold f_X3_step
        rw [if_neg (show ¬ ¬ m4 = 0 by rw [hM.1, e0]; decide)]
      refine ⟨i, H, a, x0, x1, x2, x3, adn, adt, gn, (lI a.1, lI a.2.1, a2, b2, f2, k2, gt.2.2.2.2.2.2), m7, m8, m10, m11, m12, m13, m24, m25, m26, m27, ?_, ?_, by omega, hTt, hR, Or.inl ⟨rfl, rfl⟩⟩
      · show f_X2_run_B15 gx c (nI P) (f_X2_run_L15 gx c (nI P) m) _ _ _ _ _ _ _ _ _ _ _ _ _ _ _ _ _ _ _ _ _ _ _ _ _ _ _ = _
        unfold f_X2_run_B15
        rw [if_neg hge]
        show (f_X1_copyFrom gt gn).bind _ = _
        rw [t1, Option.bind_some]
        show (f_X1_advance (lI a.1, lI a.2.1, a2, b2, f2, k2, gt.2.2.2.2.2.2) c).bind _ = _
        rw [t3, Option.bind_some]
        rfl
      · show f_X3_run_B20 m0 m1 m2 m3 m4 m5 m6 1 (nI P) (f_X3_run_L20 m0 m1 m2 m3 m4 m5 m6 1 (nI P) k) _ _ _ _ _ _ _ _ _ _ _ = _
        unfold f_X3_run_B20
        rw [if_neg hge, t4, Option.bind_some]
        rfl
end RUN
