section SO
theorem red_eq {a b c d : Int} (hb : 0 < b) (hd : 0 < d) : (rN a b = rN c d ∧ rD a b = rD c d) ↔ a * d = c * b := by
  constructor
  · intro hh
    have h1 := rN_mul a b
    have h2 := rD_mul a b
    have h3 := rN_mul c d
    have h4 := rD_mul c d
    rw [hh.1] at h1
    rw [hh.2] at h2
    have key : ∀ u w g k : Int, u * g = a → w * g = b → u * k = c → w * k = d → a * d = c * b := by
      intro u w g k e1 e2 e3 e4
      subst e1
      subst e2
      subst e3
      subst e4
      ac_rfl
    exact key _ _ _ _ h1 h2 h3 h4
  · intro hh
    have h1 : rN (a * d) (b * d) = rN a b := rN_scale hd
    have h2 : rN (c * b) (d * b) = rN c d := rN_scale hb
    have h3 : rD (a * d) (b * d) = rD a b := rD_scale hd
    have h4 : rD (c * b) (d * b) = rD c d := rD_scale hb
    rw [hh, Int.mul_comm b d] at h1 h3
    exact ⟨h1.symm.trans h2, h3.symm.trans h4⟩
theorem ims_ok {gx : Xo} {u n d : Nat} {n1 d1 n2 d2 : Int} {p1 z1 p2 z2 : Nat} (hu : u < 8) (hn : n ≤ 1000000) (hd : d ≤ 1000000) (x9 : gx.2.2.2.2.2.2.2.2.2.1 u = nI n) (x10 : gx.2.2.2.2.2.2.2.2.2.2.1 u = nI d) (e1 : EB n1 d1 p1 z1) (e2 : EB n2 d2 p2 z2) :
    f_X2_isMeasure gx (nI u) (lI (pkE n1 d1 p1 z1)) (lI (pkE n2 d2 p2 z2)) = some (decide ((n2 * d1 - n1 * d2) * (d : Int) = (n : Int) * (d2 * d1))) := by
  have hb := btw_b e1 e2
  have b1 : B63 ((n2 * d1 - n1 * d2) * (d : Int)) := B63_nb (nb_mul (N := 1000000) hb.1 (by omega)) (by decide)
  have b2 : B63 ((n : Int) * (d2 * d1)) := B63_nb (nb_mul (M := 1000000) (by omega) hb.2.2) (by decide)
  have cc : (lg_cmp (lI ((n2 * d1 - n1 * d2) * (d : Int))) (lI ((n : Int) * (d2 * d1))) = 0) = ((n2 * d1 - n1 * d2) * (d : Int) = (n : Int) * (d2 * d1)) := propext (Iff.trans (lg_cmp_eq _ _) (lI_eq b1 b2))
  unfold f_X2_isMeasure
  rw [bn_ok e1 e2, Option.bind_some, gd_t _ (ib_nI hu (by omega)), bd_ok e1 e2, Option.bind_some, cl_nI (by omega), x9, x10, n2l (by omega), n2l (by omega), lI_mul, lI_mul]
  simp only [cc]
  by_cases hP : (n2 * d1 - n1 * d2) * (d : Int) = (n : Int) * (d2 * d1)
  · rw [if_neg (fun hh => hh hP), decide_eq_true hP]
  · rw [if_pos hP, decide_eq_false hP]
theorem so_f (m0 m1 m2 m3 : Ar) (m4 : Int32) (m5 : Ar) (m6 : Int32) (m20 m21 : Al) (m22 p1 : Int32) (r2 : Al) (k : Nat) (l2 l8 : Int32) (l3 l5 : Int64) (r7 m8 : Al) (m10 m11 : Ar) (m12 m13 : Al) (m24 m25 : Int64) (m26 m27 : Int32) :
    ∃ k7 : Al, f_X3_isSo_L42 m0 m1 m2 m3 m4 m5 m6 m20 m21 m22 p1 r2 (k + 1) l2 l3 l5 0 l8 r7 m8 m10 m11 m12 m13 m24 m25 m26 m27 = some (false, k7, m8, r2, m10, m11, m12, m13, 1, m24, m25, m26, m27) ∧ ∀ j, j < 31 → k7 j = r2 j := by
  obtain ⟨k7, c1, c2⟩ := cp_ok r2 r7
  refine ⟨k7, ?_, c2⟩
  show f_X3_isSo_B42 m0 m1 m2 m3 m4 m5 m6 m20 m21 m22 p1 r2 (f_X3_isSo_L42 m0 m1 m2 m3 m4 m5 m6 m20 m21 m22 p1 r2 k) l2 l3 l5 0 l8 r7 m8 m10 m11 m12 m13 m24 m25 m26 m27 = _
  unfold f_X3_isSo_B42 f_X3_isSo_J195
  rw [c1]
  by_cases g : (400 : Int32) ≤ l8
  · rw [if_pos g]
    rfl
  · rw [if_neg g]
    rfl
theorem so_t (m0 m1 m2 m3 : Ar) (m4 : Int32) (m5 : Ar) (m6 : Int32) (m20 m21 : Al) (p1 : Int32) (r2 : Al) {N : Nat} (hN : N ≤ 8) {m22 : Int32} (h22 : m22 = nI N) (k : Nat) (l8 : Int32) (l3 l5 : Int64) (r7 m8 : Al) (m10 m11 : Ar) (m12 m13 : Al) (m24 m25 : Int64) (m26 m27 : Int32) :
    ∃ k7 : Al, f_X3_isSo_L42 m0 m1 m2 m3 m4 m5 m6 m20 m21 m22 p1 r2 (k + 1) (nI (N + 1)) l3 l5 1 l8 r7 m8 m10 m11 m12 m13 m24 m25 m26 m27 = some (true, k7, m8, r2, m10, m11, m12, m13, 1, m24, m25, m26, m27) ∧ ∀ j, j < 31 → k7 j = r2 j := by
  obtain ⟨k7, c1, c2⟩ := cp_ok r2 r7
  refine ⟨k7, ?_, c2⟩
  have h1 : ¬ nI (N + 1) ≤ m22 := by rw [h22]; exact nI_ge (a := N) (b := N + 1) (by omega) (by omega)
  have h2 : m22 < nI (N + 1) := by rw [h22, ltN (by omega) (by omega)]; omega
  show f_X3_isSo_B42 m0 m1 m2 m3 m4 m5 m6 m20 m21 m22 p1 r2 (f_X3_isSo_L42 m0 m1 m2 m3 m4 m5 m6 m20 m21 m22 p1 r2 k) (nI (N + 1)) l3 l5 1 l8 r7 m8 m10 m11 m12 m13 m24 m25 m26 m27 = _
  unfold f_X3_isSo_B42 f_X3_isSo_J195
  rw [c1]
  by_cases g : (400 : Int32) ≤ l8
  · rw [if_pos g, Option.bind_some, if_neg (show ¬ (1 : Int32) = 0 by decide), if_neg h1]
  · rw [if_neg g, if_neg (show ¬ (1 : Int32) = 0 by decide), if_pos h2, Option.bind_some, if_neg (show ¬ (1 : Int32) = 0 by decide), if_neg h1]
theorem so_L {q : AC} {gx : Xo} {gc : Ci} {m0 m1 m2 m3 m5 : Ar} {m4 m6 : Int32} {m20 m21 : Al} {m22 : Int32} {N c : Nat} (hQ : QOK q) (hC : CRep q gc) (hM : MRep q m0 m1 m2 m3 m4 m5 m6) (hE : ERep N gx.2.2.2.2.2.2.2.2.2.1 gx.2.2.2.2.2.2.2.2.2.2.1 gx.2.2.2.2.2.2.2.2.2.2.2.1 m20 m21 m22) (hc : c < aC q) {p1 : Int32} (hp1 : p1 = nI c) (r2 : Al) (m10 m11 : Ar) (m12 m13 : Al) :
    ∀ (n m k i t : Nat) (a : AM) (s : Sw) (x y3 y5 : Int64) (r7 m8 : Al) (m24 m25 : Int64) (m26 m27 : Int32), i + n = 400 → n < m → n + 1 < k → t ≤ N → AB q a 1000000 1000000 → SRep a s → TOK s → RRep a r7 → (t = 0 ∨ ∃ (n1 d1 : Int) (p z : Nat), EB n1 d1 p z ∧ x = lI (pkE n1 d1 p z) ∧ y3 = lI n1 ∧ y5 = lI d1) →
      ∃ (b : Bool) (ht : Sw) (k7 k8 : Al) (k24 k25 : Int64) (k26 k27 : Int32), f_X2_isMeasuredSo_L27 gx gc (nI c) m (nI t) x (nI i) s.1 s.2.1 s.2.2.1 s.2.2.2.1 s.2.2.2.2.1 s.2.2.2.2.2.1 s.2.2.2.2.2.2.1 s.2.2.2.2.2.2.2.1 s.2.2.2.2.2.2.2.2.1 s.2.2.2.2.2.2.2.2.2 = some (b, ht.1, ht.2.1, ht.2.2.1, ht.2.2.2.1, ht.2.2.2.2.1, ht.2.2.2.2.2.1, ht.2.2.2.2.2.2.1, ht.2.2.2.2.2.2.2.1, ht.2.2.2.2.2.2.2.2.1, ht.2.2.2.2.2.2.2.2.2) ∧ f_X3_isSo_L42 m0 m1 m2 m3 m4 m5 m6 m20 m21 m22 p1 r2 k (nI t) y3 y5 1 (nI i) r7 m8 m10 m11 m12 m13 m24 m25 m26 m27 = some (b, k7, k8, r2, m10, m11, m12, m13, 1, k24, k25, k26, k27) ∧ (∀ j, j < 31 → k7 j = r2 j) ∧ TOK ht := by
  obtain ⟨E1, E2, E3, E4⟩ := hE
  have hC4 := hQ.1
  have h0 : 0 < aC q := by omega
  intro n
  induction n with
  | zero =>
    intro m k i t a s x y3 y5 r7 m8 m24 m25 m26 m27 hin hm hk ht hB hS hT hR hx
    obtain ⟨m, rfl⟩ : ∃ m', m = m' + 1 := ⟨m - 1, by omega⟩
    obtain ⟨k, rfl⟩ : ∃ k', k = k' + 1 := ⟨k - 1, by omega⟩
    obtain rfl : i = 400 := by omega
    obtain ⟨k7, c1, c2⟩ := cp_ok r2 r7
    refine ⟨false, s, k7, m8, m24, m25, m26, m27, ?_, ?_, c2, hT⟩
    · show f_X2_isMeasuredSo_B27 gx gc (nI c) (f_X2_isMeasuredSo_L27 gx gc (nI c) m) _ _ _ _ _ _ _ _ _ _ _ _ _ = _
      unfold f_X2_isMeasuredSo_B27
      rw [if_pos (show (400 : Int32) ≤ nI 400 by decide)]
    · show f_X3_isSo_B42 m0 m1 m2 m3 m4 m5 m6 m20 m21 m22 p1 r2 (f_X3_isSo_L42 m0 m1 m2 m3 m4 m5 m6 m20 m21 m22 p1 r2 k) _ _ _ _ _ _ _ _ _ _ _ _ _ _ _ = _
      unfold f_X3_isSo_B42 f_X3_isSo_J195
      rw [if_pos (show (400 : Int32) ≤ nI 400 by decide), c1, Option.bind_some, if_neg (show ¬ (1 : Int32) = 0 by decide), if_pos (show nI t ≤ m22 by rw [E3]; exact nI_le ht (by omega))]
  | succ n ih =>
    intro m k i t a s x y3 y5 r7 m8 m24 m25 m26 m27 hin hm hk ht hB hS hT hR hx
    obtain ⟨m, rfl⟩ : ∃ m', m = m' + 1 := ⟨m - 1, by omega⟩
    obtain ⟨k, rfl⟩ : ∃ k', k = k' + 1 + 1 := ⟨k - 2, by omega⟩
    obtain ⟨s2, g1, g2, g3, g4⟩ := adv_ok hQ hC hS hB h0
    obtain ⟨r8, r3, x3, z3, d1, d2, d3, d4, d5, d6⟩ := mev_ok hQ hM hR hB h0 m8 m10 m11 m12 m13 0 m24 m25 m26 m27
    have p4 : (aPick q a.2.2) < 4 := by have := aPick_lt (v := a.2.2) h0; omega
    have z4 := side_le a.2.2 (aPick q a.2.2)
    have hTs : TOK s2 := ⟨_, _, p4, z4, g3, g4⟩
    have n400 : ¬ (400 : Int32) ≤ nI i := nI_ge (a := i) (b := 400) (by omega) (by decide)
    have nlt : ¬ m22 < nI t := by rw [E3, ltN (by omega) (by omega)]; omega
    cases hs : aSpent q (aEv q a) with
    | true =>
      rw [hs] at g1
      obtain ⟨r4, d7, d8⟩ := d6 hs
      obtain ⟨k7, u1, u2⟩ := so_f m0 m1 m2 m3 m4 m5 m6 m20 m21 m22 p1 r2 k (nI t) (nI (i + 1)) y3 y5 r4 r8 m10 m11 m12 m13 x3 z3 (nI (aPick q a.2.2)) (nI (aSide a.2.2 (aPick q a.2.2)))
      refine ⟨false, s2, k7, r8, x3, z3, nI (aPick q a.2.2), nI (aSide a.2.2 (aPick q a.2.2)), ?_, ?_, u2, hTs⟩
      · show f_X2_isMeasuredSo_B27 gx gc (nI c) (f_X2_isMeasuredSo_L27 gx gc (nI c) m) _ _ _ _ _ _ _ _ _ _ _ _ _ = _
        unfold f_X2_isMeasuredSo_B27
        rw [if_neg n400]
        show (f_X1_advance s gc).bind _ = _
        rw [g1, Option.bind_some]
        rfl
      · show f_X3_isSo_B42 m0 m1 m2 m3 m4 m5 m6 m20 m21 m22 p1 r2 (f_X3_isSo_L42 m0 m1 m2 m3 m4 m5 m6 m20 m21 m22 p1 r2 (k + 1)) _ _ _ _ _ _ _ _ _ _ _ _ _ _ _ = _
        unfold f_X3_isSo_B42 f_X3_isSo_J189
        rw [if_neg n400, if_neg (show ¬ (1 : Int32) = 0 by decide), if_neg nlt, d8, Option.bind_some, if_pos (show b2i false = 0 by decide), nI_1]
        exact u1
    | false =>
      rw [hs] at g1
      have d7 := d5 hs
      unfold logd at d7
      rw [if_pos rfl] at d7
      have hB2 : AB q (aEv q a) 1000000 1000000 := ev_ok hQ hB h0 hs
      have eX : ∀ Y : _, (if ¬ s2.2.2.2.2.2.2.1 = nI c then f_X2_isMeasuredSo_J116 (nI i) (f_X2_isMeasuredSo_L27 gx gc (nI c) m) (true, s2) (nI t) x else if ¬ s2.2.2.2.2.2.2.2.1 = 0 then f_X2_isMeasuredSo_J116 (nI i) (f_X2_isMeasuredSo_L27 gx gc (nI c) m) (true, s2) (nI t) x else (f_X1_packedEvent s2).bind (fun e8 => if nI t ≤ 0 then f_X2_isMeasuredSo_J100 gx (nI t) (nI i) (f_X2_isMeasuredSo_L27 gx gc (nI c) m) (true, s2) e8 else (f_X2_isMeasure gx (nI t - 1) x e8).bind (fun r11 => if ¬ b2i r11 = 0 then f_X2_isMeasuredSo_J100 gx (nI t) (nI i) (f_X2_isMeasuredSo_L27 gx gc (nI c) m) (true, s2) e8 else some (false, s2.1, s2.2.1, s2.2.2.1, s2.2.2.2.1, s2.2.2.2.2.1, s2.2.2.2.2.2.1, s2.2.2.2.2.2.2.1, s2.2.2.2.2.2.2.2.1, s2.2.2.2.2.2.2.2.2.1, s2.2.2.2.2.2.2.2.2.2)))) = Y → f_X2_isMeasuredSo_L27 gx gc (nI c) (m + 1) (nI t) x (nI i) s.1 s.2.1 s.2.2.1 s.2.2.2.1 s.2.2.2.2.1 s.2.2.2.2.2.1 s.2.2.2.2.2.2.1 s.2.2.2.2.2.2.2.1 s.2.2.2.2.2.2.2.2.1 s.2.2.2.2.2.2.2.2.2 = Y := by
        intro Y hY
        show f_X2_isMeasuredSo_B27 gx gc (nI c) (f_X2_isMeasuredSo_L27 gx gc (nI c) m) _ _ _ _ _ _ _ _ _ _ _ _ _ = _
        unfold f_X2_isMeasuredSo_B27
        rw [if_neg n400]
        show (f_X1_advance s gc).bind _ = _
        rw [g1, Option.bind_some, if_pos (show ¬ b2i (!false) = 0 by decide)]
        exact hY
      have eM : ∀ Y : _, (if ¬ nI (aPick q a.2.2) = p1 then f_X3_isSo_J189 (nI i) (f_X3_isSo_L42 m0 m1 m2 m3 m4 m5 m6 m20 m21 m22 p1 r2 (k + 1)) ((true, r3, r8, m10, m11, m12, m13, x3, z3, nI (aPick q a.2.2), nI (aSide a.2.2 (aPick q a.2.2))) : Bool × Al × Al × Ar × Ar × Al × Al × Int64 × Int64 × Int32 × Int32) (nI t) y3 y5 1 x3 z3 else if nI (aSide a.2.2 (aPick q a.2.2)) = 0 then (if nI t ≤ 0 then f_X3_isSo_J169 (nI t) (nI i) (f_X3_isSo_L42 m0 m1 m2 m3 m4 m5 m6 m20 m21 m22 p1 r2 (k + 1)) ((true, r3, r8, m10, m11, m12, m13, x3, z3, nI (aPick q a.2.2), nI (aSide a.2.2 (aPick q a.2.2))) : Bool × Al × Al × Ar × Ar × Al × Al × Int64 × Int64 × Int32 × Int32) 1 x3 z3 else gd (ib 20 31) (gd (ib 21 31) ((f_X3_make ((r3 20 * y5) - (y3 * r3 21)) (r3 21 * y5)).bind (fun r21 => gd (ib (nI t - 1) 8) (if ¬ lg_cmp r21.1 (m20 (nI t - 1).toNatClampNeg) = 0 then f_X3_isSo_J166 (nI t) (nI i) (f_X3_isSo_L42 m0 m1 m2 m3 m4 m5 m6 m20 m21 m22 p1 r2 (k + 1)) ((true, r3, r8, m10, m11, m12, m13, x3, z3, nI (aPick q a.2.2), nI (aSide a.2.2 (aPick q a.2.2))) : Bool × Al × Al × Ar × Ar × Al × Al × Int64 × Int64 × Int32 × Int32) r21 else if ¬ lg_cmp r21.2 (m21 (nI t - 1).toNatClampNeg) = 0 then f_X3_isSo_J166 (nI t) (nI i) (f_X3_isSo_L42 m0 m1 m2 m3 m4 m5 m6 m20 m21 m22 p1 r2 (k + 1)) ((true, r3, r8, m10, m11, m12, m13, x3, z3, nI (aPick q a.2.2), nI (aSide a.2.2 (aPick q a.2.2))) : Bool × Al × Al × Ar × Ar × Al × Al × Int64 × Int64 × Int32 × Int32) r21 else f_X3_isSo_J167 (nI t) (nI i) (f_X3_isSo_L42 m0 m1 m2 m3 m4 m5 m6 m20 m21 m22 p1 r2 (k + 1)) ((true, r3, r8, m10, m11, m12, m13, x3, z3, nI (aPick q a.2.2), nI (aSide a.2.2 (aPick q a.2.2))) : Bool × Al × Al × Ar × Ar × Al × Al × Int64 × Int64 × Int32 × Int32) r21 1))))) else f_X3_isSo_J189 (nI i) (f_X3_isSo_L42 m0 m1 m2 m3 m4 m5 m6 m20 m21 m22 p1 r2 (k + 1)) ((true, r3, r8, m10, m11, m12, m13, x3, z3, nI (aPick q a.2.2), nI (aSide a.2.2 (aPick q a.2.2))) : Bool × Al × Al × Ar × Ar × Al × Al × Int64 × Int64 × Int32 × Int32) (nI t) y3 y5 1 x3 z3) = Y → f_X3_isSo_L42 m0 m1 m2 m3 m4 m5 m6 m20 m21 m22 p1 r2 (k + 1 + 1) (nI t) y3 y5 1 (nI i) r7 m8 m10 m11 m12 m13 m24 m25 m26 m27 = Y := by
        intro Y hY
        show f_X3_isSo_B42 m0 m1 m2 m3 m4 m5 m6 m20 m21 m22 p1 r2 (f_X3_isSo_L42 m0 m1 m2 m3 m4 m5 m6 m20 m21 m22 p1 r2 (k + 1)) _ _ _ _ _ _ _ _ _ _ _ _ _ _ _ = _
        unfold f_X3_isSo_B42
        rw [if_neg n400, if_neg (show ¬ (1 : Int32) = 0 by decide), if_neg nlt, d7, Option.bind_some, if_neg (show ¬ b2i true = 0 by decide)]
        exact hY
      have v20 : r3 20 = lI (aEv q a).1 := d2.1
      have v21 : r3 21 = lI (aEv q a).2.1 := d2.2.1
      have same : ∀ (hs1 : s2.2.2.2.2.2.2.1 = nI c → ¬ s2.2.2.2.2.2.2.2.1 = 0) (hm1 : nI (aPick q a.2.2) = p1 → ¬ nI (aSide a.2.2 (aPick q a.2.2)) = 0),
          ∃ (b : Bool) (ht : Sw) (k7 k8 : Al) (k24 k25 : Int64) (k26 k27 : Int32), f_X2_isMeasuredSo_L27 gx gc (nI c) (m + 1) (nI t) x (nI i) s.1 s.2.1 s.2.2.1 s.2.2.2.1 s.2.2.2.2.1 s.2.2.2.2.2.1 s.2.2.2.2.2.2.1 s.2.2.2.2.2.2.2.1 s.2.2.2.2.2.2.2.2.1 s.2.2.2.2.2.2.2.2.2 = some (b, ht.1, ht.2.1, ht.2.2.1, ht.2.2.2.1, ht.2.2.2.2.1, ht.2.2.2.2.2.1, ht.2.2.2.2.2.2.1, ht.2.2.2.2.2.2.2.1, ht.2.2.2.2.2.2.2.2.1, ht.2.2.2.2.2.2.2.2.2) ∧ f_X3_isSo_L42 m0 m1 m2 m3 m4 m5 m6 m20 m21 m22 p1 r2 (k + 1 + 1) (nI t) y3 y5 1 (nI i) r7 m8 m10 m11 m12 m13 m24 m25 m26 m27 = some (b, k7, k8, r2, m10, m11, m12, m13, 1, k24, k25, k26, k27) ∧ (∀ j, j < 31 → k7 j = r2 j) ∧ TOK ht := by
        intro hs1 hm1
        obtain ⟨b, hh, k7, k8, k24, k25, k26, k27, w1, w2, w3, w4⟩ := ih m (k + 1) (i + 1) t (aEv q a) s2 x y3 y5 r3 r8 x3 z3 (nI (aPick q a.2.2)) (nI (aSide a.2.2 (aPick q a.2.2))) (by omega) (by omega) (by omega) ht hB2 g2 hTs d2 hx
        refine ⟨b, hh, k7, k8, k24, k25, k26, k27, eX _ ?_, eM _ ?_, w3, w4⟩
        · have hJ : f_X2_isMeasuredSo_J116 (nI i) (f_X2_isMeasuredSo_L27 gx gc (nI c) m) (true, s2) (nI t) x = some (b, hh.1, hh.2.1, hh.2.2.1, hh.2.2.2.1, hh.2.2.2.2.1, hh.2.2.2.2.2.1, hh.2.2.2.2.2.2.1, hh.2.2.2.2.2.2.2.1, hh.2.2.2.2.2.2.2.2.1, hh.2.2.2.2.2.2.2.2.2) := by
            unfold f_X2_isMeasuredSo_J116
            rw [nI_1]
            exact w1
          by_cases k1 : s2.2.2.2.2.2.2.1 = nI c
          · rw [if_neg (fun h2 => h2 k1), if_pos (hs1 k1), hJ]
          · rw [if_pos k1, hJ]
        · have hJ : f_X3_isSo_J189 (nI i) (f_X3_isSo_L42 m0 m1 m2 m3 m4 m5 m6 m20 m21 m22 p1 r2 (k + 1)) ((true, r3, r8, m10, m11, m12, m13, x3, z3, nI (aPick q a.2.2), nI (aSide a.2.2 (aPick q a.2.2))) : Bool × Al × Al × Ar × Ar × Al × Al × Int64 × Int64 × Int32 × Int32) (nI t) y3 y5 1 x3 z3 = some (b, k7, k8, r2, m10, m11, m12, m13, 1, k24, k25, k26, k27) := by
            unfold f_X3_isSo_J189
            rw [nI_1]
            exact w2
          by_cases k1 : nI (aPick q a.2.2) = p1
          · rw [if_neg (fun h2 => h2 k1), if_neg (hm1 k1), hJ]
          · rw [if_pos k1, hJ]
      by_cases hpc : (aPick q a.2.2) = c
      · by_cases hz : (aSide a.2.2 (aPick q a.2.2)) = 0
        · have k1 : s2.2.2.2.2.2.2.1 = nI c := by rw [g3, hpc]
          have k2 : s2.2.2.2.2.2.2.2.1 = 0 := by rw [g4, hz]; rfl
          have k3 : nI (aPick q a.2.2) = p1 := by rw [hpc, hp1]
          have k4 : nI (aSide a.2.2 (aPick q a.2.2)) = 0 := by rw [hz]; rfl
          have hE2 : EB (aEv q a).1 (aEv q a).2.1 (aPick q a.2.2) (aSide a.2.2 (aPick q a.2.2)) := ⟨hB2.1, hB2.2.1, hB2.2.2.1, p4, z4⟩
          have hpe := pe_ok g2 p4 z4 g3 g4
          have go : ∀ (u1 u2 : Int64), (∃ (b : Bool) (ht : Sw) (k7 k8 : Al) (k24 k25 : Int64) (k26 k27 : Int32), f_X2_isMeasuredSo_J100 gx (nI t) (nI i) (f_X2_isMeasuredSo_L27 gx gc (nI c) m) (true, s2) (lI (pkE (aEv q a).1 (aEv q a).2.1 (aPick q a.2.2) (aSide a.2.2 (aPick q a.2.2)))) = some (b, ht.1, ht.2.1, ht.2.2.1, ht.2.2.2.1, ht.2.2.2.2.1, ht.2.2.2.2.2.1, ht.2.2.2.2.2.2.1, ht.2.2.2.2.2.2.2.1, ht.2.2.2.2.2.2.2.2.1, ht.2.2.2.2.2.2.2.2.2) ∧ f_X3_isSo_J169 (nI t) (nI i) (f_X3_isSo_L42 m0 m1 m2 m3 m4 m5 m6 m20 m21 m22 p1 r2 (k + 1)) ((true, r3, r8, m10, m11, m12, m13, x3, z3, nI (aPick q a.2.2), nI (aSide a.2.2 (aPick q a.2.2))) : Bool × Al × Al × Ar × Ar × Al × Al × Int64 × Int64 × Int32 × Int32) 1 u1 u2 = some (b, k7, k8, r2, m10, m11, m12, m13, 1, k24, k25, k26, k27) ∧ (∀ j, j < 31 → k7 j = r2 j) ∧ TOK ht) := by
            intro u1 u2
            have hJM : f_X3_isSo_J169 (nI t) (nI i) (f_X3_isSo_L42 m0 m1 m2 m3 m4 m5 m6 m20 m21 m22 p1 r2 (k + 1)) ((true, r3, r8, m10, m11, m12, m13, x3, z3, nI (aPick q a.2.2), nI (aSide a.2.2 (aPick q a.2.2))) : Bool × Al × Al × Ar × Ar × Al × Al × Int64 × Int64 × Int32 × Int32) 1 u1 u2 = f_X3_isSo_L42 m0 m1 m2 m3 m4 m5 m6 m20 m21 m22 p1 r2 (k + 1) (nI (t + 1)) (lI (aEv q a).1) (lI (aEv q a).2.1) 1 (nI (i + 1)) r3 r8 m10 m11 m12 m13 u1 u2 (nI (aPick q a.2.2)) (nI (aSide a.2.2 (aPick q a.2.2))) := by
              unfold f_X3_isSo_J169 f_X3_isSo_J189
              simp only [bnd]
              rw [gd_t _ (show ib 20 31 = true by decide), gd_t _ (show ib 21 31 = true by decide), nI_1, nI_1]
              show f_X3_isSo_L42 m0 m1 m2 m3 m4 m5 m6 m20 m21 m22 p1 r2 (k + 1) (nI (t + 1)) (r3 20) (r3 21) 1 (nI (i + 1)) r3 r8 m10 m11 m12 m13 u1 u2 (nI (aPick q a.2.2)) (nI (aSide a.2.2 (aPick q a.2.2))) = _
              rw [v20, v21]
            rw [hJM]
            by_cases htN : t = N
            · subst htN
              obtain ⟨k7, w1, w2⟩ := so_t m0 m1 m2 m3 m4 m5 m6 m20 m21 p1 r2 E1 E3 k (nI (i + 1)) (lI (aEv q a).1) (lI (aEv q a).2.1) r3 r8 m10 m11 m12 m13 u1 u2 (nI (aPick q a.2.2)) (nI (aSide a.2.2 (aPick q a.2.2)))
              refine ⟨true, s2, k7, r8, u1, u2, nI (aPick q a.2.2), nI (aSide a.2.2 (aPick q a.2.2)), ?_, w1, w2, hTs⟩
              unfold f_X2_isMeasuredSo_J100
              rw [if_neg (show ¬ ¬ nI t = gx.2.2.2.2.2.2.2.2.2.2.2.1 by rw [E2]; exact fun hh => hh rfl)]
            · obtain ⟨b, hh, k7, k8, k24, k25, k26, k27, w1, w2, w3, w4⟩ := ih m (k + 1) (i + 1) (t + 1) (aEv q a) s2 (lI (pkE (aEv q a).1 (aEv q a).2.1 (aPick q a.2.2) (aSide a.2.2 (aPick q a.2.2)))) (lI (aEv q a).1) (lI (aEv q a).2.1) r3 r8 u1 u2 (nI (aPick q a.2.2)) (nI (aSide a.2.2 (aPick q a.2.2))) (by omega) (by omega) (by omega) (by omega) hB2 g2 hTs d2 (Or.inr ⟨_, _, _, _, hE2, rfl, rfl, rfl⟩)
              refine ⟨b, hh, k7, k8, k24, k25, k26, k27, ?_, w2, w3, w4⟩
              unfold f_X2_isMeasuredSo_J100 f_X2_isMeasuredSo_J116
              rw [if_pos (show ¬ nI t = gx.2.2.2.2.2.2.2.2.2.2.2.1 by rw [E2]; exact fun hh => htN ((nI_eq (by omega) (by omega)).mp hh)), nI_1, nI_1]
              exact w1
          by_cases t0 : t = 0
          · have tle : nI t ≤ 0 := by rw [t0]; decide
            obtain ⟨b, hh, k7, k8, k24, k25, k26, k27, w1, w2, w3, w4⟩ := go x3 z3
            refine ⟨b, hh, k7, k8, k24, k25, k26, k27, eX _ ?_, eM _ ?_, w3, w4⟩
            · rw [if_neg (fun h2 => h2 k1), if_neg (fun h2 => h2 k2), hpe, Option.bind_some, if_pos tle]
              exact w1
            · rw [if_neg (fun h2 => h2 k3), if_pos k4, if_pos tle]
              exact w2
          · have tle : ¬ nI t ≤ 0 := nI_ge (a := 0) (b := t) (by omega) (by omega)
            obtain ⟨u, rfl⟩ : ∃ u, t = u + 1 := ⟨t - 1, by omega⟩
            have tm1 : nI (u + 1) - 1 = nI u := by
              rw [nI_iI, show (1 : Int32) = iI 1 from rfl, iI_sub, nI_iI]
              congr 1
              omega
            obtain ⟨n1, e1, p, z, hE1, hx1, hx2, hx3⟩ := hx.resolve_left (by omega)
            obtain ⟨nn, dd, f1, f2, f3, f4, f5, f6, f7, f8⟩ := E4 u (by omega)
            have hb := btw_b hE1 hE2
            have him := ims_ok (gx := gx) (show u < 8 by omega) f2 f4 f5 f6 hE1 hE2
            have hmk : f_X3_make ((r3 20 * y5) - (y3 * r3 21)) (r3 21 * y5) = some (lI (rN ((aEv q a).1 * e1 - n1 * (aEv q a).2.1) ((aEv q a).2.1 * e1)), lI (rD ((aEv q a).1 * e1 - n1 * (aEv q a).2.1) ((aEv q a).2.1 * e1))) := by
              rw [v20, v21, hx2, hx3, lI_mul, lI_mul, lI_mul, lI_sub, mk_ok (by omega) (by omega) (by omega)]
            generalize hX : (aEv q a).1 * e1 - n1 * (aEv q a).2.1 = X at hb him hmk
            generalize hY : (aEv q a).2.1 * e1 = Y at hb him hmk
            have rb1 := natAbs_rN X Y
            have rb2 := rD_le (a := X) (show 0 < Y by omega)
            have rb3 := rD_pos (a := X) (show 0 < Y by omega)
            have rb4 := natAbs_rN (nn : Int) (dd : Int)
            have rb5 := rD_le (a := (nn : Int)) (show 0 < (dd : Int) by omega)
            have rb6 := rD_pos (a := (nn : Int)) (show 0 < (dd : Int) by omega)
            have cN : (lg_cmp (lI (rN X Y)) (lI (rN (nn : Int) (dd : Int))) = 0) = (rN X Y = rN (nn : Int) (dd : Int)) := propext (Iff.trans (lg_cmp_eq _ _) (lI_eq (by omega) (by omega)))
            have cD : (lg_cmp (lI (rD X Y)) (lI (rD (nn : Int) (dd : Int))) = 0) = (rD X Y = rD (nn : Int) (dd : Int)) := propext (Iff.trans (lg_cmp_eq _ _) (lI_eq (by omega) (by omega)))
            have hre : (rN X Y = rN (nn : Int) (dd : Int) ∧ rD X Y = rD (nn : Int) (dd : Int)) ↔ X * (dd : Int) = (nn : Int) * Y := red_eq (by omega) (by omega)
            by_cases hP : X * (dd : Int) = (nn : Int) * Y
            · obtain ⟨b, hh, k7, k8, k24, k25, k26, k27, w1, w2, w3, w4⟩ := go (lI (rN X Y)) (lI (rD X Y))
              refine ⟨b, hh, k7, k8, k24, k25, k26, k27, eX _ ?_, eM _ ?_, w3, w4⟩
              · rw [if_neg (fun h2 => h2 k1), if_neg (fun h2 => h2 k2), hpe, Option.bind_some, if_neg tle, tm1, hx1, him, Option.bind_some, decide_eq_true hP, if_pos (show ¬ b2i true = 0 by decide)]
                exact w1
              · rw [if_neg (fun h2 => h2 k3), if_pos k4, if_neg tle, gd_t _ (show ib 20 31 = true by decide), gd_t _ (show ib 21 31 = true by decide), hmk, Option.bind_some, tm1, gd_t _ (ib_nI (show u < 8 by omega) (by omega)), cl_nI (by omega), f7, f8]
                simp only [cN, cD]
                rw [if_neg (fun h2 => h2 (hre.mpr hP).1), if_neg (fun h2 => h2 (hre.mpr hP).2)]
                exact w2
            · obtain ⟨k7, w1, w2⟩ := so_f m0 m1 m2 m3 m4 m5 m6 m20 m21 m22 p1 r2 k (nI (u + 1 + 1)) (nI (i + 1)) (lI (aEv q a).1) (lI (aEv q a).2.1) r3 r8 m10 m11 m12 m13 (lI (rN X Y)) (lI (rD X Y)) (nI (aPick q a.2.2)) (nI (aSide a.2.2 (aPick q a.2.2)))
              have hJ : f_X3_isSo_J166 (nI (u + 1)) (nI i) (f_X3_isSo_L42 m0 m1 m2 m3 m4 m5 m6 m20 m21 m22 p1 r2 (k + 1)) ((true, r3, r8, m10, m11, m12, m13, x3, z3, nI (aPick q a.2.2), nI (aSide a.2.2 (aPick q a.2.2))) : Bool × Al × Al × Ar × Ar × Al × Al × Int64 × Int64 × Int32 × Int32) (lI (rN X Y), lI (rD X Y)) = some (false, k7, r8, r2, m10, m11, m12, m13, 1, lI (rN X Y), lI (rD X Y), nI (aPick q a.2.2), nI (aSide a.2.2 (aPick q a.2.2))) := by
                unfold f_X3_isSo_J166 f_X3_isSo_J167 f_X3_isSo_J169 f_X3_isSo_J189
                simp only [bnd]
                rw [gd_t _ (show ib 20 31 = true by decide), gd_t _ (show ib 21 31 = true by decide), nI_1, nI_1]
                show f_X3_isSo_L42 m0 m1 m2 m3 m4 m5 m6 m20 m21 m22 p1 r2 (k + 1) (nI (u + 1 + 1)) (r3 20) (r3 21) 0 (nI (i + 1)) r3 r8 m10 m11 m12 m13 (lI (rN X Y)) (lI (rD X Y)) (nI (aPick q a.2.2)) (nI (aSide a.2.2 (aPick q a.2.2))) = _
                rw [v20, v21]
                exact w1
              refine ⟨false, s2, k7, r8, lI (rN X Y), lI (rD X Y), nI (aPick q a.2.2), nI (aSide a.2.2 (aPick q a.2.2)), eX _ ?_, eM _ ?_, w2, hTs⟩
              · rw [if_neg (fun h2 => h2 k1), if_neg (fun h2 => h2 k2), hpe, Option.bind_some, if_neg tle, tm1, hx1, him, Option.bind_some, decide_eq_false hP, if_neg (show ¬ ¬ b2i false = 0 by decide)]
              · rw [if_neg (fun h2 => h2 k3), if_pos k4, if_neg tle, gd_t _ (show ib 20 31 = true by decide), gd_t _ (show ib 21 31 = true by decide), hmk, Option.bind_some, tm1, gd_t _ (ib_nI (show u < 8 by omega) (by omega)), cl_nI (by omega), f7, f8]
                simp only [cN, cD, hJ]
                by_cases h1 : rN X Y = rN (nn : Int) (dd : Int)
                · rw [if_neg (fun h2 => h2 h1), if_pos (fun h2 => hP (hre.mp ⟨h1, h2⟩))]
                · rw [if_pos h1]
        · exact same (fun _ => by rw [g4]; exact fun h2 => hz ((nI_eq0 (by omega)).mp h2)) (fun _ h2 => hz ((nI_eq0 (by omega)).mp h2))
      · exact same (fun h1 => by rw [g3] at h1; exact absurd ((nI_eq (by omega) (by omega)).mp h1) hpc) (fun h1 => by rw [hp1] at h1; exact absurd ((nI_eq (by omega) (by omega)).mp h1) hpc)
/-- whether what was measured is so: both -/
theorem so_ok {q : AC} {gx : Xo} {gc : Ci} {gt : Sw} {m0 m1 m2 m3 m5 : Ar} {m4 m6 : Int32} {m20 m21 : Al} {m22 : Int32} {N c : Nat} (hQ : QOK q) (hC : CRep q gc) (hM : MRep q m0 m1 m2 m3 m4 m5 m6) (hE : ERep N gx.2.2.2.2.2.2.2.2.2.1 gx.2.2.2.2.2.2.2.2.2.2.1 gx.2.2.2.2.2.2.2.2.2.2.2.1 m20 m21 m22) (hc : c < aC q) (hT : TOK gt) (m7 m8 m9 : Al) (m10 m11 : Ar) (m12 m13 : Al) (m24 m25 : Int64) (m26 m27 : Int32) :
    ∃ (b : Bool) (ht : Sw) (k7 k8 k9 : Al) (k24 k25 : Int64) (k26 k27 : Int32), f_X2_isMeasuredSo gx gc gt (nI c) = some (b, ht.1, ht.2.1, ht.2.2.1, ht.2.2.2.1, ht.2.2.2.2.1, ht.2.2.2.2.2.1, ht.2.2.2.2.2.2.1, ht.2.2.2.2.2.2.2.1, ht.2.2.2.2.2.2.2.2.1, ht.2.2.2.2.2.2.2.2.2) ∧ f_X3_isSo m0 m1 m2 m3 m4 m5 m6 m7 m8 m9 m10 m11 m12 m13 1 m20 m21 m22 m24 m25 m26 m27 (nI c) = some (b, k7, k8, k9, m10, m11, m12, m13, 1, k24, k25, k26, k27) ∧ (∀ j, j < 31 → k7 j = m7 j) ∧ TOK ht := by
  have hE0 := hE
  obtain ⟨E1, E2, E3, E4⟩ := hE
  have e1 : (gx.2.2.2.2.2.2.2.2.2.2.2.1 = 0) = (N = 0) := by rw [E2]; exact propext (nI_eq0 (by omega))
  have e2 : (m22 = 0) = (N = 0) := by rw [E3]; exact propext (nI_eq0 (by omega))
  unfold f_X2_isMeasuredSo f_X3_isSo
  simp only [e1, e2]
  by_cases hN : N = 0
  · rw [if_neg (fun hh => hh hN), if_neg (fun hh => hh hN)]
    exact ⟨true, gt, m7, m8, m9, m24, m25, m26, m27, rfl, rfl, fun _ _ => rfl, hT⟩
  · rw [if_pos hN, if_pos hN]
    obtain ⟨a2, b2, f2, k2, c1, c2⟩ := rs_ok hQ hC gt
    obtain ⟨r9, c3, c4⟩ := cp_ok m7 m9
    obtain ⟨r3, c5, c6, c7⟩ := ra_ok hQ (fun i hi => (hM.2.2.1 i hi).1) m7
    obtain ⟨p, z, hp, hz, t7, t8⟩ := id hT
    have hS : SRep (aR0 q) (0, 1, a2, b2, f2, k2, gt.2.2.2.2.2.2) := ⟨rfl, rfl, c2⟩
    obtain ⟨b, hh, k7, k8, k24, k25, k26, k27, w1, w2, w3, w4⟩ := so_L (p1 := nI c) hQ hC hM hE0 hc rfl r9 m10 m11 m12 m13 400 fuel fuel 0 0 (aR0 q) (0, 1, a2, b2, f2, k2, gt.2.2.2.2.2.2) 0 0 1 r3 m8 m24 m25 m26 m27 (by omega) (by unfold fuel; omega) (by unfold fuel; omega) (by omega) (r0_AB hQ) hS ⟨p, z, hp, hz, t7, t8⟩ c6 (Or.inl rfl)
    refine ⟨b, hh, k7, k8, r9, k24, k25, k26, k27, ?_, ?_, fun j hj => (w3 j hj).trans (c4 j hj), w4⟩
    · rw [c1, Option.bind_some]
      exact w1
    · rw [c3, c5, Option.bind_some, Option.bind_some]
      exact w2
end SO
