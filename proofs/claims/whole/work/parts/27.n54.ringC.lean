section RINGC
theorem nI_ne1 {l : Nat} (hl : l < 2147483648) : ¬ nI l = (-1) := by
  rw [nI_iI, mI1, iI_eq (by omega) (by omega)]
  omega
theorem sa2_L {q : AC} {a : AM} {p z j : Nat} {gx : Xo} {st : Al} (h : RI q a p z j gx.2.2.2.2.1 st) (hj : j ≤ 300) (m17 : Al) (rec7 : Int32 → Al → Al → Ar → Ar → Al → Al → Al → Int64 → Int64 → Int32 → Int32 → Option (Int32 × Al × Al × Ar × Ar × Al × Al × Al × Int32 × Al × Int64 × Int64 × Int32 × Int32)) (r3 : (Bool × Al × Al × Ar × Ar × Al × Al × Int64 × Int64 × Int32 × Int32)) : ∀ (n m k i : Nat), i + n = j → n < m → n < k →
    (f_X2_sameAhead_L2 gx (nI j) m (nI i) = some (-1) ∧ f_X3_seek_L29 m17 (nI j) rec7 r3 st k (nI i) = rec7 (nI (j + 1)) r3.2.1 r3.2.2.1 r3.2.2.2.1 r3.2.2.2.2.1 r3.2.2.2.2.2.1 r3.2.2.2.2.2.2.1 st r3.2.2.2.2.2.2.2.1 r3.2.2.2.2.2.2.2.2.1 r3.2.2.2.2.2.2.2.2.2.1 r3.2.2.2.2.2.2.2.2.2.2) ∨
    ∃ l, l < j ∧ f_X2_sameAhead_L2 gx (nI j) m (nI i) = some (nI l) ∧ f_X3_seek_L29 m17 (nI j) rec7 r3 st k (nI i) = (f_X3_tell st m17 (nI l) (nI j)).bind (fun r9 => some (nI j - nI l, r3.2.1, r3.2.2.1, r3.2.2.2.1, r3.2.2.2.2.1, r3.2.2.2.2.2.1, r3.2.2.2.2.2.2.1, st, r9.1, r9.2.1, r9.2.2.1, r9.2.2.2, r3.2.2.2.2.2.2.2.2.2.1, r3.2.2.2.2.2.2.2.2.2.2)) := by
  intro n
  induction n with
  | zero =>
    intro m k i hin hm hk
    obtain ⟨m, rfl⟩ : ∃ m', m = m' + 1 := ⟨m - 1, by omega⟩
    obtain ⟨k, rfl⟩ : ∃ k', k = k' + 1 := ⟨k - 1, by omega⟩
    obtain rfl : j = i := by omega
    left
    constructor
    · show f_X2_sameAhead_B2 gx (nI j) (f_X2_sameAhead_L2 gx (nI j) m) _ = _
      unfold f_X2_sameAhead_B2
      rw [if_pos (nI_le (Nat.le_refl j) (by omega))]
    · show f_X3_seek_B29 m17 (nI j) rec7 r3 st (f_X3_seek_L29 m17 (nI j) rec7 r3 st k) _ = _
      unfold f_X3_seek_B29
      rw [if_pos (nI_le (Nat.le_refl j) (by omega)), nI_1]
  | succ n ih =>
    intro m k i hin hm hk
    obtain ⟨m, rfl⟩ : ∃ m', m = m' + 1 := ⟨m - 1, by omega⟩
    obtain ⟨k, rfl⟩ : ∃ k', k = k' + 1 := ⟨k - 1, by omega⟩
    obtain ⟨b1, -, -, t1, r1⟩ := h.1 i (by omega)
    obtain ⟨b2, -, -, t2, r2⟩ := h.1 j (by omega)
    obtain ⟨x, x1, x2⟩ := ss_L gx (show i ≤ 300 by omega) hj 5 fuel 0 (by omega) (by unfold fuel; omega)
    obtain ⟨y, y1, y2⟩ := al_L st (show i ≤ 300 by omega) hj 20 fuel 0 (by omega) (by unfold fuel; omega)
    have hx : x = true ↔ sameV (aIt q a i).2.2 (aIt q a j).2.2 := Iff.trans x2 (cl_same b1 b2 t1 t2)
    have hy : y = true ↔ sameV (aIt q a i).2.2 (aIt q a j).2.2 := Iff.trans y2 (rf_same b1 b2 r1 r2)
    have hxy : x = y := by
      cases x <;> cases y
      · rfl
      · exact absurd (hx.mpr (hy.mp rfl)) (by decide)
      · exact absurd (hy.mpr (hx.mp rfl)) (by decide)
      · rfl
    subst hxy
    have x3 : f_X2_isSameState gx (nI (6 * i)) (nI (6 * j)) = some x := x1
    have y3 : f_X3_areAlike st (nI i) (nI j) = some x := y1
    have hge : ¬ nI j ≤ nI i := nI_ge (a := i) (b := j) (by omega) (by omega)
    have eX : f_X2_sameAhead_L2 gx (nI j) (m + 1) (nI i) = if b2i x = 0 then f_X2_sameAhead_L2 gx (nI j) m (nI (i + 1)) else some (nI i) := by
      show f_X2_sameAhead_B2 gx (nI j) (f_X2_sameAhead_L2 gx (nI j) m) _ = _
      unfold f_X2_sameAhead_B2
      rw [if_neg hge, ix6r, ix6r, x3, Option.bind_some, nI_1]
    have eM : f_X3_seek_L29 m17 (nI j) rec7 r3 st (k + 1) (nI i) = if ¬ b2i x = 0 then (f_X3_tell st m17 (nI i) (nI j)).bind (fun r9 => some (nI j - nI i, r3.2.1, r3.2.2.1, r3.2.2.2.1, r3.2.2.2.2.1, r3.2.2.2.2.2.1, r3.2.2.2.2.2.2.1, st, r9.1, r9.2.1, r9.2.2.1, r9.2.2.2, r3.2.2.2.2.2.2.2.2.2.1, r3.2.2.2.2.2.2.2.2.2.2)) else f_X3_seek_L29 m17 (nI j) rec7 r3 st k (nI (i + 1)) := by
      show f_X3_seek_B29 m17 (nI j) rec7 r3 st (f_X3_seek_L29 m17 (nI j) rec7 r3 st k) _ = _
      unfold f_X3_seek_B29
      rw [if_neg hge, y3, Option.bind_some, nI_1]
    rw [eX, eM]
    cases x with
    | true =>
      rw [if_neg (show ¬ b2i true = 0 by decide), if_pos (show ¬ b2i true = 0 by decide)]
      exact Or.inr ⟨i, by omega, rfl, rfl⟩
    | false =>
      rw [if_pos (show b2i false = 0 by decide), if_neg (show ¬ ¬ b2i false = 0 by decide)]
      exact ih m k (i + 1) (by omega) (by omega) (by omega)
theorem rg_L {q : AC} {c : Ci} {m0 m1 m2 m3 m5 : Ar} {m4 m6 : Int32} (hQ : QOK q) (hC : CRep q c) (hM : MRep q m0 m1 m2 m3 m4 m5 m6) (h0 : 0 < aC q) (gx : Xo) (a : AM) (p z : Nat) (m10 m11 : Ar) (m12 m13 : Al) (m16 : Int32) (m17 : Al) (hG : GRep gx.2.2.2.2.2.1 gx.2.2.2.2.2.2.1 m16 m17) (P : Nat) (hP : P ≤ 300) :
    ∀ (n m k j : Nat) (tr st : Al) (s : Sw) (r7 m8 : Al) (m24 m25 : Int64) (m26 m27 : Int32), j + n = P → n < m → n < k → RI q a p z j tr st → SRep (aIt q a j) s → s.2.2.2.2.2.2.1 = nI (pIt q a p j) → s.2.2.2.2.2.2.2.1 = nI (zIt q a z j) → (∀ d, d < 31 → r7 d = st (31 * j + d)) →
      ∃ (v : Int32) (tr2 y5 : Al) (y6 : Int32) (ht : Sw) (k7 k8 k15 : Al) (k16 : Int32) (k17 : Al) (k24 k25 : Int64) (k26 k27 : Int32),
        f_X2_ring_L42 gx c (nI P) m (nI (j + 1)) tr s.1 s.2.1 s.2.2.1 s.2.2.2.1 s.2.2.2.2.1 s.2.2.2.2.2.1 s.2.2.2.2.2.2.1 s.2.2.2.2.2.2.2.1 s.2.2.2.2.2.2.2.2.1 s.2.2.2.2.2.2.2.2.2 = some (v, tr2, y5, y6, ht.1, ht.2.1, ht.2.2.1, ht.2.2.2.1, ht.2.2.2.2.1, ht.2.2.2.2.2.1, ht.2.2.2.2.2.2.1, ht.2.2.2.2.2.2.2.1, ht.2.2.2.2.2.2.2.2.1, ht.2.2.2.2.2.2.2.2.2) ∧
        f_X3_seek_L7 m0 m1 m2 m3 m4 m5 m6 0 m16 m17 (nI P) k (nI (j + 1)) r7 m8 m10 m11 m12 m13 st m24 m25 m26 m27 = some (v, k7, k8, m10, m11, m12, m13, k15, k16, k17, k24, k25, k26, k27) ∧ GRep y5 y6 k16 k17 ∧ TOK ht := by
  intro n
  induction n with
  | zero =>
    intro m k j tr st s r7 m8 m24 m25 m26 m27 hin hm hk hI hS e7 e8 hr
    obtain ⟨m, rfl⟩ : ∃ m', m = m' + 1 := ⟨m - 1, by omega⟩
    obtain ⟨k, rfl⟩ : ∃ k', k = k' + 1 := ⟨k - 1, by omega⟩
    obtain rfl : j = P := by omega
    have hlt : nI j < nI (j + 1) := by rw [ltN (by omega) (by omega)]; omega
    obtain ⟨-, p1, z1, -, -⟩ := hI.1 j (by omega)
    refine ⟨(-2), tr, gx.2.2.2.2.2.1, gx.2.2.2.2.2.2.1, s, r7, m8, st, m16, m17, m24, m25, m26, m27, ?_, ?_, hG, ⟨_, _, p1, z1, e7, e8⟩⟩
    · show f_X2_ring_B42 gx c (nI j) (f_X2_ring_L42 gx c (nI j) m) _ _ _ _ _ _ _ _ _ _ _ _ = _
      unfold f_X2_ring_B42
      rw [if_pos hlt]
    · show f_X3_seek_B7 m0 m1 m2 m3 m4 m5 m6 0 m16 m17 (nI j) (f_X3_seek_L7 m0 m1 m2 m3 m4 m5 m6 0 m16 m17 (nI j) k) _ _ _ _ _ _ _ _ _ _ _ _ = _
      unfold f_X3_seek_B7
      rw [if_pos hlt]
  | succ n ih =>
    intro m k j tr st s r7 m8 m24 m25 m26 m27 hin hm hk hI hS e7 e8 hr
    obtain ⟨m, rfl⟩ : ∃ m', m = m' + 1 := ⟨m - 1, by omega⟩
    obtain ⟨k, rfl⟩ : ∃ k', k = k' + 1 := ⟨k - 1, by omega⟩
    have hC4 := hQ.1
    have hlt : ¬ nI P < nI (j + 1) := by rw [ltN (by omega) (by omega)]; omega
    obtain ⟨hB, p1, z1, t1, r1⟩ := hI.1 j (by omega)
    have hR : RRep (aIt q a j) r7 := r1.keep (fun d hd => hr d hd)
    obtain ⟨s2, g1, g2, g3, g4⟩ := adv_ok hQ hC hS hB h0
    obtain ⟨r2, r3, x3, y3, d1, d2, d3, d4, d5, d6⟩ := mev_ok hQ hM hR hB h0 m8 m10 m11 m12 m13 0 m24 m25 m26 m27
    have p4 : aPick q (aIt q a j).2.2 < 4 := by have := aPick_lt (v := (aIt q a j).2.2) h0; omega
    have z4 := side_le (aIt q a j).2.2 (aPick q (aIt q a j).2.2)
    have hTs : TOK s2 := ⟨_, _, p4, z4, g3, g4⟩
    cases hs : aSpent q (aEv q (aIt q a j)) with
    | true =>
      rw [hs] at g1
      obtain ⟨r4, d7, d8⟩ := d6 hs
      refine ⟨(-3), tr, gx.2.2.2.2.2.1, gx.2.2.2.2.2.2.1, s2, r4, r2, st, m16, m17, x3, y3, nI (aPick q (aIt q a j).2.2), nI (aSide (aIt q a j).2.2 (aPick q (aIt q a j).2.2)), ?_, ?_, hG, hTs⟩
      · show f_X2_ring_B42 gx c (nI P) (f_X2_ring_L42 gx c (nI P) m) _ _ _ _ _ _ _ _ _ _ _ _ = _
        unfold f_X2_ring_B42
        rw [if_neg hlt]
        show (f_X1_advance s c).bind _ = _
        rw [g1, Option.bind_some]
        rfl
      · show f_X3_seek_B7 m0 m1 m2 m3 m4 m5 m6 0 m16 m17 (nI P) (f_X3_seek_L7 m0 m1 m2 m3 m4 m5 m6 0 m16 m17 (nI P) k) _ _ _ _ _ _ _ _ _ _ _ _ = _
        unfold f_X3_seek_B7
        rw [if_neg hlt, d8, Option.bind_some]
        rfl
    | false =>
      rw [hs] at g1
      have d7 := d5 hs
      unfold logd at d7
      rw [if_pos rfl] at d7
      have hB2 : AB q (aIt q a (j + 1)) 1000000 1000000 := ev_ok hQ hB h0 hs
      obtain ⟨tr2, w1, w2, w3⟩ := wt_ok (i := j + 1) (gx.1, gx.2.1, gx.2.2.1, gx.2.2.2.1, tr, gx.2.2.2.2.2) (show SRep (aIt q a (j + 1)) s2 from g2) hB2.2.2.2.2.2 p4 z4 g3 g4 (by omega)
      obtain ⟨st2, k1, k2, k3⟩ := kp_ok r3 st (show j + 1 ≤ 300 by omega)
      have hI2 : RI q a p z (j + 1) tr2 st2 := hI.next w3 k3 hB2 p4 z4 w2 (RRep.keep (a := aIt q a (j + 1)) d2 (fun d hd => k2 d hd)) (fun l l1 l2 => by
        rw [k2 l (by omega), k3 (31 * j + l) (by omega), ← hr l (by omega)]
        exact d3 l l1 l2)
      have eX : ∀ (Y : _), (f_X2_sameAhead (gx.1, gx.2.1, gx.2.2.1, gx.2.2.2.1, tr2, gx.2.2.2.2.2) (nI (j + 1))).bind (fun r10 => if r10 = (-1) then f_X2_ring_L42 gx c (nI P) m (nI (j + 1) + 1) tr2 s2.1 s2.2.1 s2.2.2.1 s2.2.2.2.1 s2.2.2.2.2.1 s2.2.2.2.2.2.1 s2.2.2.2.2.2.2.1 s2.2.2.2.2.2.2.2.1 s2.2.2.2.2.2.2.2.2.1 s2.2.2.2.2.2.2.2.2.2 else (f_X2_keepRing (gx.1, gx.2.1, gx.2.2.1, gx.2.2.2.1, tr2, gx.2.2.2.2.2) r10 (nI (j + 1))).bind (fun r12 => some (nI (j + 1) - r10, tr2, r12.1, r12.2, s2.1, s2.2.1, s2.2.2.1, s2.2.2.2.1, s2.2.2.2.2.1, s2.2.2.2.2.2.1, s2.2.2.2.2.2.2.1, s2.2.2.2.2.2.2.2.1, s2.2.2.2.2.2.2.2.2.1, s2.2.2.2.2.2.2.2.2.2))) = Y → f_X2_ring_L42 gx c (nI P) (m + 1) (nI (j + 1)) tr s.1 s.2.1 s.2.2.1 s.2.2.2.1 s.2.2.2.2.1 s.2.2.2.2.2.1 s.2.2.2.2.2.2.1 s.2.2.2.2.2.2.2.1 s.2.2.2.2.2.2.2.2.1 s.2.2.2.2.2.2.2.2.2 = Y := by
        intro Y hY
        show f_X2_ring_B42 gx c (nI P) (f_X2_ring_L42 gx c (nI P) m) _ _ _ _ _ _ _ _ _ _ _ _ = _
        unfold f_X2_ring_B42
        rw [if_neg hlt]
        show (f_X1_advance s c).bind _ = _
        rw [g1, Option.bind_some, if_pos (show ¬ b2i (!false) = 0 by decide)]
        show (f_X2_writeTrail (gx.1, gx.2.1, gx.2.2.1, gx.2.2.2.1, tr, gx.2.2.2.2.2) s2 (nI (j + 1))).bind _ = _
        rw [w1, Option.bind_some]
        exact hY
      have eM : ∀ (Y : _), f_X3_seek_L29 m17 (nI (j + 1)) (f_X3_seek_L7 m0 m1 m2 m3 m4 m5 m6 0 m16 m17 (nI P) k) (true, r3, r2, m10, m11, m12, m13, x3, y3, nI (aPick q (aIt q a j).2.2), nI (aSide (aIt q a j).2.2 (aPick q (aIt q a j).2.2))) st2 fuel (nI 0) = Y → f_X3_seek_L7 m0 m1 m2 m3 m4 m5 m6 0 m16 m17 (nI P) (k + 1) (nI (j + 1)) r7 m8 m10 m11 m12 m13 st m24 m25 m26 m27 = Y := by
        intro Y hY
        show f_X3_seek_B7 m0 m1 m2 m3 m4 m5 m6 0 m16 m17 (nI P) (f_X3_seek_L7 m0 m1 m2 m3 m4 m5 m6 0 m16 m17 (nI P) k) _ _ _ _ _ _ _ _ _ _ _ _ = _
        unfold f_X3_seek_B7
        rw [if_neg hlt, d7, Option.bind_some, if_pos (show ¬ b2i true = 0 by decide)]
        show (f_X3_keep r3 st (nI (j + 1))).bind _ = _
        rw [k1, Option.bind_some]
        exact hY
      rcases sa2_L (gx := (gx.1, gx.2.1, gx.2.2.1, gx.2.2.2.1, tr2, gx.2.2.2.2.2)) hI2 (by omega) m17 (f_X3_seek_L7 m0 m1 m2 m3 m4 m5 m6 0 m16 m17 (nI P) k) (true, r3, r2, m10, m11, m12, m13, x3, y3, nI (aPick q (aIt q a j).2.2), nI (aSide (aIt q a j).2.2 (aPick q (aIt q a j).2.2))) (j + 1) fuel fuel 0 (by omega) (by unfold fuel; omega) (by unfold fuel; omega) with ⟨a1, a2⟩ | ⟨l, l1, a1, a2⟩
      · have a3 : f_X2_sameAhead (gx.1, gx.2.1, gx.2.2.1, gx.2.2.2.1, tr2, gx.2.2.2.2.2) (nI (j + 1)) = some (-1) := a1
        obtain ⟨v, tr3, y5, y6, ht, k7, k8, k15, k16, k17, k24, k25, k26, k27, v1, v2, v3, v4⟩ := ih m k (j + 1) tr2 st2 s2 r3 r2 x3 y3 (nI (aPick q (aIt q a j).2.2)) (nI (aSide (aIt q a j).2.2 (aPick q (aIt q a j).2.2))) (by omega) (by omega) (by omega) hI2 g2 g3 g4 (fun d hd => (k2 d hd).symm)
        refine ⟨v, tr3, y5, y6, ht, k7, k8, k15, k16, k17, k24, k25, k26, k27, eX _ ?_, eM _ (a2.trans v2), v3, v4⟩
        rw [a3, Option.bind_some, if_pos rfl, nI_1]
        exact v1
      · have a3 : f_X2_sameAhead (gx.1, gx.2.1, gx.2.2.1, gx.2.2.2.1, tr2, gx.2.2.2.2.2) (nI (j + 1)) = some (nI l) := a1
        obtain ⟨y5, y17, u1, u2, b1, b2, b3⟩ := kr_ok (gx := (gx.1, gx.2.1, gx.2.2.1, gx.2.2.2.1, tr2, gx.2.2.2.2.2)) hI2 (by omega) l1 m17
        refine ⟨nI (j + 1) - nI l, tr2, y5, 1, s2, r3, r2, st2, 1, y17, u1, u2, nI (aPick q (aIt q a j).2.2), nI (aSide (aIt q a j).2.2 (aPick q (aIt q a j).2.2)), eX _ ?_, eM _ ?_, Or.inr ⟨rfl, rfl, b3⟩, hTs⟩
        · rw [a3, Option.bind_some, if_neg (nI_ne1 (by omega)), b1, Option.bind_some]
        · rw [a2, b2, Option.bind_some]
theorem R_ring {K : Nat} {gx : Xo} {gc : Ci} {gn gt : Sw} {m0 m1 m2 m3 : Ar} {m4 : Int32} {m5 : Ar} {m6 : Int32} {m7 : Al} {m10 m11 : Ar} {m12 m13 : Al} {m14 m16 : Int32} {m17 : Al} {m18 : Ar} {m19 : Int32} {m20 m21 : Al} {m22 : Int32}
    (h : RR K gx gc gn gt m0 m1 m2 m3 m4 m5 m6 m7 m10 m11 m12 m13 m14 m16 m17 m18 m19 m20 m21 m22) (m8 m9 m15 : Al) (m24 m25 : Int64) (m26 m27 : Int32) (p1 : Int32) :
    ∃ o o', f_X2_ring gx gc gn gt p1 = some o ∧ f_X3_ring m0 m1 m2 m3 m4 m5 m6 m7 m8 m9 m10 m11 m12 m13 m14 m15 m16 m17 m24 m25 m26 m27 p1 = some o' ∧ o.1 = o'.1 ∧ RR (K + 1) (gx.1, gx.2.1, gx.2.2.1, gx.2.2.2.1, o.2.1, o.2.2.1, o.2.2.2.1, gx.2.2.2.2.2.2.2) gc gn o.2.2.2.2 m0 m1 m2 m3 m4 m5 m6 o'.2.1 o'.2.2.2.2.1 o'.2.2.2.2.2.1 o'.2.2.2.2.2.2.1 o'.2.2.2.2.2.2.2.1 o'.2.2.2.2.2.2.2.2.1 o'.2.2.2.2.2.2.2.2.2.2.1 o'.2.2.2.2.2.2.2.2.2.2.2.1 m18 m19 m20 m21 m22 := by
  obtain ⟨q, a, H, S, N, hQ, hC, hM, hMM, hH, hT, h14, hG, hD, hE⟩ := id h
  obtain ⟨x, b1, rfl⟩ := ofI p1
  have hC4 := hQ.1
  have i1 : f_X3_in (iI x) 1 300 = some (decide (1 ≤ x ∧ x ≤ 300)) := in_ok (lo := 1) (hi := 300) b1 (by omega) (by omega)
  have e0 : (iI x < 1) = (x < 1) := ltE (b := 1) b1 (by omega)
  have e1 : ((300 : Int32) < iI x) = (300 < x) := ltE (a := 300) (by omega) b1
  unfold f_X2_ring f_X3_ring
  simp only [i1, Option.bind_some, b2i_d, e0, e1]
  by_cases g : 1 ≤ x ∧ x ≤ 300
  · rw [if_neg (show ¬ x < 1 by omega), if_neg (show ¬ 300 < x by omega), if_neg (show ¬ ¬ (1 ≤ x ∧ x ≤ 300) from fun hh => hh g)]
    by_cases h0 : 0 < aC q
    · have n4 : ¬ m4 = 0 := by rw [hM.1]; exact fun hh => by have := (nI_eq0 (by omega)).mp hh; omega
      have n1 : ¬ gc.1 = 0 := by rw [hC.1]; exact fun hh => by have := (nI_eq0 (by omega)).mp hh; omega
      obtain ⟨P, hP, rfl⟩ : ∃ P : Nat, (1 ≤ P ∧ P ≤ 300) ∧ x = P := ⟨x.toNat, by omega, by omega⟩
      obtain ⟨a2, b2, f2, k2, c1, c2⟩ := cf_ok (hMM.2.1.rep h0) gt
      obtain ⟨p, z, hp, hz, t7, t8⟩ := id hT
      obtain ⟨r9, c3, c4⟩ := cp_ok m7 m9
      have hS : SRep a (lI a.1, lI a.2.1, a2, b2, f2, k2, gt.2.2.2.2.2.2) := ⟨rfl, rfl, c2⟩
      obtain ⟨tr, w1, w2, w3⟩ := wt_ok (i := 0) gx hS (hMM.1 h0).2.2.2.2.2 hp hz t7 t8 (by omega)
      obtain ⟨st, k1, k2', k3⟩ := kp_ok m7 m15 (show 0 ≤ 300 by omega)
      have hI : RI q a p z 0 tr st := ⟨fun i hi => by
        obtain rfl : i = 0 := by omega
        exact ⟨hMM.1 h0, hp, hz, w2, RRep.keep (a := a) hMM.2.2.1 (fun d hd => k2' d hd)⟩, fun i hi => absurd hi (Nat.not_lt_zero i)⟩
      obtain ⟨v, tr2, y5, y6, ht, k7, k8, k15, k16, k17, k24, k25, k26, k27, v1, v2, v3, v4⟩ := rg_L hQ hC hM h0 gx a p z m10 m11 m12 m13 m16 m17 hG P hP.2 P fuel fuel 0 tr st (lI a.1, lI a.2.1, a2, b2, f2, k2, gt.2.2.2.2.2.2) m7 m8 m24 m25 m26 m27 (by omega) (by unfold fuel; omega) (by unfold fuel; omega) hI hS t7 t8 (fun d hd => (k2' d hd).symm)
      obtain ⟨r6, c5, c6⟩ := cp_ok r9 k7
      rw [nI_iI P] at v1 v2
      have w4 : f_X2_writeTrail gx (lI a.1, lI a.2.1, a2, b2, f2, k2, gt.2.2.2.2.2.2) 0 = some tr := w1
      have k4 : f_X3_keep m7 m15 0 = some st := k1
      have eX : f_X2_ring_L42 gx gc (iI P) fuel 1 tr (lI a.1) (lI a.2.1) a2 b2 f2 k2 gt.2.2.2.2.2.2.1 gt.2.2.2.2.2.2.2.1 gt.2.2.2.2.2.2.2.2.1 gt.2.2.2.2.2.2.2.2.2 = some (v, tr2, y5, y6, ht.1, ht.2.1, ht.2.2.1, ht.2.2.2.1, ht.2.2.2.2.1, ht.2.2.2.2.2.1, ht.2.2.2.2.2.2.1, ht.2.2.2.2.2.2.2.1, ht.2.2.2.2.2.2.2.2.1, ht.2.2.2.2.2.2.2.2.2) := v1
      have eM : f_X3_seek m0 m1 m2 m3 m4 m5 m6 m7 m8 m10 m11 m12 m13 0 m15 m16 m17 m24 m25 m26 m27 (iI P) = some (v, k7, k8, m10, m11, m12, m13, k15, k16, k17, k24, k25, k26, k27) := by
        unfold f_X3_seek
        rw [k4, Option.bind_some]
        exact v2
      rw [if_pos n1, if_pos n4, c1, c3, Option.bind_some, Option.bind_some, eM, Option.bind_some]
      show ∃ o o', (f_X2_writeTrail gx (lI a.1, lI a.2.1, a2, b2, f2, k2, gt.2.2.2.2.2.2) 0).bind (fun r5 => f_X2_ring_L42 gx gc (iI P) fuel 1 r5 (lI a.1) (lI a.2.1) a2 b2 f2 k2 gt.2.2.2.2.2.2.1 gt.2.2.2.2.2.2.2.1 gt.2.2.2.2.2.2.2.2.1 gt.2.2.2.2.2.2.2.2.2) = some o ∧ (f_X3_copy r9 k7).bind (fun r6 => some (v, r6, k8, r9, m10, m11, m12, m13, 1, k15, k16, k17, 0, k24, k25, k26, k27)) = some o' ∧ o.1 = o'.1 ∧ RR (K + 1) (gx.1, gx.2.1, gx.2.2.1, gx.2.2.2.1, o.2.1, o.2.2.1, o.2.2.2.1, gx.2.2.2.2.2.2.2) gc gn o.2.2.2.2 m0 m1 m2 m3 m4 m5 m6 o'.2.1 o'.2.2.2.2.1 o'.2.2.2.2.2.1 o'.2.2.2.2.2.2.1 o'.2.2.2.2.2.2.2.1 o'.2.2.2.2.2.2.2.2.1 o'.2.2.2.2.2.2.2.2.2.2.1 o'.2.2.2.2.2.2.2.2.2.2.2.1 m18 m19 m20 m21 m22
      rw [w4, Option.bind_some, eX, c5, Option.bind_some]
      exact ⟨_, _, rfl, rfl, rfl, q, a, H, S, N, hQ, hC, hM, hMM.keep (fun d hd => (c6 d hd).trans (c4 d hd)), by omega, v4, rfl, v3, hD, hE⟩
    · have e0 : aC q = 0 := by omega
      rw [if_neg (show ¬ ¬ gc.1 = 0 by rw [hC.1, e0]; decide), if_neg (show ¬ ¬ m4 = 0 by rw [hM.1, e0]; decide)]
      exact ⟨_, _, rfl, rfl, rfl, h.mono⟩
  · rw [if_pos g]
    by_cases g0 : x < 1
    · rw [if_pos g0]
      exact ⟨_, _, rfl, rfl, rfl, h.mono⟩
    · rw [if_neg g0, if_pos (show 300 < x by omega)]
      exact ⟨_, _, rfl, rfl, rfl, h.mono⟩
end RINGC
