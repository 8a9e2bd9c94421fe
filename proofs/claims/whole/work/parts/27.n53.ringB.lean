section RINGB
def EB (n d : Int) (p z : Nat) : Prop := n.natAbs ≤ 1000000 ∧ 1 ≤ d ∧ d.natAbs ≤ 1000000 ∧ p < 4 ∧ z ≤ 1
theorem bn_ok {n1 d1 n2 d2 : Int} {p1 z1 p2 z2 : Nat} (h1 : EB n1 d1 p1 z1) (h2 : EB n2 d2 p2 z2) : f_X2_betweenNum (lI (pkE n1 d1 p1 z1)) (lI (pkE n2 d2 p2 z2)) = some (lI (n2 * d1 - n1 * d2)) := by
  obtain ⟨a1, a2, a3, a4, a5⟩ := h1
  obtain ⟨b1, b2, b3, b4, b5⟩ := h2
  unfold f_X2_betweenNum f_X2_timeNumIn f_X2_timeDenIn
  simp only [Option.bind_some, pk_num a1 a2 a3 a4 a5, pk_num b1 b2 b3 b4 b5, pk_den a1 a2 a3 a4 a5, pk_den b1 b2 b3 b4 b5, lI_mul, lI_sub]
theorem bd_ok {n1 d1 n2 d2 : Int} {p1 z1 p2 z2 : Nat} (h1 : EB n1 d1 p1 z1) (h2 : EB n2 d2 p2 z2) : f_X2_betweenDen (lI (pkE n1 d1 p1 z1)) (lI (pkE n2 d2 p2 z2)) = some (lI (d2 * d1)) := by
  obtain ⟨a1, a2, a3, a4, a5⟩ := h1
  obtain ⟨b1, b2, b3, b4, b5⟩ := h2
  unfold f_X2_betweenDen f_X2_timeDenIn
  simp only [Option.bind_some, pk_den a1 a2 a3 a4 a5, pk_den b1 b2 b3 b4 b5, lI_mul]
theorem btw_b {n1 d1 n2 d2 : Int} {p1 z1 p2 z2 : Nat} (h1 : EB n1 d1 p1 z1) (h2 : EB n2 d2 p2 z2) : (n2 * d1 - n1 * d2).natAbs ≤ 2000000000000 ∧ 1 ≤ d2 * d1 ∧ (d2 * d1).natAbs ≤ 1000000000000 := by
  obtain ⟨a1, a2, a3, a4, a5⟩ := h1
  obtain ⟨b1, b2, b3, b4, b5⟩ := h2
  have c1 := nb_mul b1 a3
  have c2 := nb_mul a1 b3
  have c3 := nb_mul b3 a3
  have c4 := Int.mul_le_mul b2 a2 (by decide) (by omega)
  exact ⟨by omega, by omega, by omega⟩
def aIt (q : AC) (a : AM) : Nat → AM
  | 0 => a
  | n + 1 => aEv q (aIt q a n)
def pIt (q : AC) (a : AM) (p : Nat) : Nat → Nat
  | 0 => p
  | n + 1 => aPick q (aIt q a n).2.2
def zIt (q : AC) (a : AM) (z : Nat) : Nat → Nat
  | 0 => z
  | n + 1 => aSide (aIt q a n).2.2 (aPick q (aIt q a n).2.2)
/-- the rows 0 .. j of both trails -/
def RI (q : AC) (a : AM) (p z j : Nat) (tr st : Al) : Prop :=
  (∀ i, i ≤ j → AB q (aIt q a i) 1000000 1000000 ∧ pIt q a p i < 4 ∧ zIt q a z i ≤ 1 ∧ TRow (aIt q a i) (pIt q a p i) (zIt q a z i) i tr ∧ RRep (aIt q a i) (fun k => st (31 * i + k))) ∧
  ∀ i, i < j → ∀ k, 22 ≤ k → k < 30 → st (31 * (i + 1) + k) = st (31 * i + k) + (if k = upC (zIt q a z (i + 1)) (pIt q a p (i + 1)) then 1 else 0)
theorem RI.eb {q : AC} {a : AM} {p z j : Nat} {tr st : Al} (h : RI q a p z j tr st) {i : Nat} (hi : i ≤ j) : EB (aIt q a i).1 (aIt q a i).2.1 (pIt q a p i) (zIt q a z i) := by
  obtain ⟨⟨b1, b2, b3, -⟩, c1, c2, -⟩ := h.1 i hi
  exact ⟨b1, b2, b3, c1, c2⟩
theorem RI.next {q : AC} {a : AM} {p z j : Nat} {tr st tr2 st2 : Al} (h : RI q a p z j tr st) (ht : ∀ l, l < 6 * (j + 1) → tr2 l = tr l) (hs : ∀ l, l < 31 * (j + 1) → st2 l = st l)
    (h1 : AB q (aIt q a (j + 1)) 1000000 1000000) (h2 : pIt q a p (j + 1) < 4) (h3 : zIt q a z (j + 1) ≤ 1) (h4 : TRow (aIt q a (j + 1)) (pIt q a p (j + 1)) (zIt q a z (j + 1)) (j + 1) tr2) (h5 : RRep (aIt q a (j + 1)) (fun k => st2 (31 * (j + 1) + k)))
    (h6 : ∀ k, 22 ≤ k → k < 30 → st2 (31 * (j + 1) + k) = st2 (31 * j + k) + (if k = upC (zIt q a z (j + 1)) (pIt q a p (j + 1)) then 1 else 0)) : RI q a p z (j + 1) tr2 st2 := by
  refine ⟨fun i hi => ?_, fun i hi k k1 k2 => ?_⟩
  · by_cases e : i = j + 1
    · subst e; exact ⟨h1, h2, h3, h4, h5⟩
    · obtain ⟨g1, g2, g3, g4, g5⟩ := h.1 i (by omega)
      exact ⟨g1, g2, g3, g4.keep (j := j + 1) (by omega) ht, g5.keep (fun k hk => hs _ (by omega))⟩
  · by_cases e : i = j
    · subst e; exact h6 k k1 k2
    · rw [hs _ (by omega), hs _ (by omega)]
      exact h.2 i (by omega) k k1 k2
theorem er_ok {a : AM} {p z i : Nat} {gx : Xo} (h : TRow a p z i gx.2.2.2.2.1) (hi : i ≤ 300) : f_X2_eventInRow gx (nI i) = some (lI (pkE a.1 a.2.1 p z)) := by
  unfold f_X2_eventInRow
  rw [ix6r, show nI (6 * i) + 5 = nI (6 * i + 5) from ixp (6 * i) 5, gd_t _ (ib_nI (show 6 * i + 5 < 1806 by omega) (by omega)), cl_nI (by omega), h.2.2]
theorem sub_step (s e t : Int64) : s + e - t = s - t + e := by
  rw [Int64.sub_eq_add_neg, Int64.sub_eq_add_neg, Int64.add_assoc, Int64.add_assoc, Int64.add_comm e]
/-- the class counts the tops, row by row -/
theorem kr_L106 {q : AC} {a : AM} {p z j i : Nat} {gx : Xo} {st : Al} (h : RI q a p z j gx.2.2.2.2.1 st) (hj : j ≤ 300) : ∀ (n m r : Nat) (x5 : Al), r + n = j → n < m → (∀ c, c < 4 → x5 (4 + c) = st (31 * r + (22 + c)) - st (31 * i + (22 + c))) →
    ∃ y5 : Al, f_X2_keepRing_L106 gx (nI j) m (nI (r + 1)) x5 = some (y5, 1) ∧ (∀ c, c < 4 → y5 (4 + c) = st (31 * j + (22 + c)) - st (31 * i + (22 + c))) ∧ ∀ c, c < 4 → y5 c = x5 c := by
  intro n
  induction n with
  | zero =>
    intro m r x5 hr hm hI
    obtain ⟨m, rfl⟩ : ∃ m', m = m' + 1 := ⟨m - 1, by omega⟩
    obtain rfl : j = r := by omega
    refine ⟨x5, ?_, hI, fun _ _ => rfl⟩
    show f_X2_keepRing_B106 gx (nI j) (f_X2_keepRing_L106 gx (nI j) m) _ _ = _
    unfold f_X2_keepRing_B106
    rw [if_pos (show nI j < nI (j + 1) by rw [ltN (by omega) (by omega)]; omega)]
  | succ n ih =>
    intro m r x5 hr hm hI
    obtain ⟨m, rfl⟩ : ∃ m', m = m' + 1 := ⟨m - 1, by omega⟩
    obtain ⟨⟨b1, b2, b3, -⟩, c1, c2, c3, -⟩ := h.1 (r + 1) (by omega)
    have hs := h.2 r (by omega)
    generalize hA : aIt q a (r + 1) = A at b1 b2 b3 c3
    generalize hPt : pIt q a p (r + 1) = P at c1 c3 hs
    generalize hZt : zIt q a z (r + 1) = Z at c2 c3 hs
    have he : f_X2_eventInRow (gx.1, gx.2.1, gx.2.2.1, gx.2.2.2.1, gx.2.2.2.2.1, x5, gx.2.2.2.2.2.2) (nI (r + 1)) = some (lI (pkE A.1 A.2.1 P Z)) := er_ok (gx := (gx.1, gx.2.1, gx.2.2.1, gx.2.2.2.1, gx.2.2.2.2.1, x5, gx.2.2.2.2.2.2)) c3 (by omega)
    have hlt : ¬ nI j < nI (r + 1) := by rw [ltN (by omega) (by omega)]; omega
    by_cases hz : Z = 0
    · have hu : upC Z P = 22 + P := by unfold upC; rw [if_pos hz]
      obtain ⟨y5, k1, k2, k3⟩ := ih m (r + 1) (vp_updL x5 (4 + P) (x5 (4 + P) + 1)) (by omega) (by omega) (fun c hc => by
        have h1 := hs (22 + c) (by omega) (by omega)
        rw [hu] at h1
        by_cases e : c = P
        · subst e
          rw [uL_s, hI c hc, h1, if_pos rfl, sub_step]
        · rw [uL_n (by omega), hI c hc, h1, if_neg (by omega), Int64.add_zero])
      refine ⟨y5, ?_, k2, fun c hc => by rw [k3 c hc, uL_n (by omega)]⟩
      show f_X2_keepRing_B106 gx (nI j) (f_X2_keepRing_L106 gx (nI j) m) _ _ = _
      unfold f_X2_keepRing_B106 f_X2_keepRing_J144 f_X2_sideIn f_X2_turnedIn
      rw [if_neg hlt, he]
      simp only [Option.bind_some, bnd, pk_side (n := A.1) (d := A.2.1) (p := P) c2, pk_turn b1 b2 b3 c1 c2]
      rw [if_neg (show ¬ ¬ iI (Z : Int) = 0 by rw [hz]; decide), ← nI_iI P, show 4 + nI P = nI (4 + P) from nI_add 4 P, gd_t _ (ib_nI (show 4 + P < 8 by omega) (by omega)), cl_nI (by omega), nI_1]
      exact k1
    · have hu : upC Z P = 26 + P := by unfold upC; rw [if_neg hz]
      obtain ⟨y5, k1, k2, k3⟩ := ih m (r + 1) x5 (by omega) (by omega) (fun c hc => by
        rw [hI c hc, hs (22 + c) (by omega) (by omega), hu, if_neg (by omega), Int64.add_zero])
      refine ⟨y5, ?_, k2, k3⟩
      show f_X2_keepRing_B106 gx (nI j) (f_X2_keepRing_L106 gx (nI j) m) _ _ = _
      unfold f_X2_keepRing_B106 f_X2_keepRing_J144 f_X2_sideIn f_X2_turnedIn
      rw [if_neg hlt, he]
      simp only [Option.bind_some, bnd, pk_side (n := A.1) (d := A.2.1) (p := P) c2]
      rw [if_pos (show ¬ iI (Z : Int) = 0 by rw [show Z = 1 by omega]; decide), nI_1]
      exact k1
theorem kr_L79 {q : AC} {a : AM} {p z j i : Nat} {gx : Xo} {st : Al} (h : RI q a p z j gx.2.2.2.2.1 st) (hj : j ≤ 300) (hij : i ≤ j) : ∀ (n m c : Nat) (x5 : Al), c + n = 4 → n < m → (∀ d, d < c → x5 (4 + d) = 0) →
    ∃ y5 : Al, f_X2_keepRing_L79 gx (nI i) (nI j) m (nI c) x5 = some (y5, 1) ∧ (∀ d, d < 4 → y5 (4 + d) = st (31 * j + (22 + d)) - st (31 * i + (22 + d))) ∧ ∀ d, d < 4 → y5 d = x5 d := by
  intro n
  induction n with
  | zero =>
    intro m c x5 hr hm hI
    obtain ⟨m, rfl⟩ : ∃ m', m = m' + 1 := ⟨m - 1, by omega⟩
    obtain ⟨y5, k1, k2, k3⟩ := kr_L106 (i := i) h hj (j - i) fuel i x5 (by omega) (by unfold fuel; omega) (fun d hd => by rw [hI d (by omega), Int64.sub_self])
    refine ⟨y5, ?_, k2, k3⟩
    show f_X2_keepRing_B79 gx (nI i) (nI j) (f_X2_keepRing_L79 gx (nI i) (nI j) m) _ _ = _
    unfold f_X2_keepRing_B79
    simp only [bnd]
    rw [if_pos (show (4 : Int32) ≤ nI c by rw [show c = 4 by omega]; decide), nI_1]
    exact k1
  | succ n ih =>
    intro m c x5 hr hm hI
    obtain ⟨m, rfl⟩ : ∃ m', m = m' + 1 := ⟨m - 1, by omega⟩
    obtain ⟨y5, k1, k2, k3⟩ := ih m (c + 1) (vp_updL x5 (4 + c) 0) (by omega) (by omega) (fun d hd => by
      by_cases e : d = c
      · subst e; rw [uL_s]
      · rw [uL_n (by omega)]; exact hI d (by omega))
    refine ⟨y5, ?_, k2, fun d hd => by rw [k3 d hd, uL_n (by omega)]⟩
    show f_X2_keepRing_B79 gx (nI i) (nI j) (f_X2_keepRing_L79 gx (nI i) (nI j) m) _ _ = _
    unfold f_X2_keepRing_B79
    rw [if_neg (show ¬ (4 : Int32) ≤ nI c from nI_ge (a := c) (b := 4) (by omega) (by decide)), show 4 + nI c = nI (4 + c) from nI_add 4 c, gd_t _ (ib_nI (show 4 + c < 8 by omega) (by omega)), cl_nI (by omega), nI_1]
    exact k1
/-- the reference tells the tops -/
theorem te_L (st : Al) {i j : Nat} (hi : i ≤ 300) (hj : j ≤ 300) (u : Int64 × Int64) : ∀ (n m c : Nat) (x : Al), c + n = 4 → n < m → (∀ d, d < c → x (4 + d) = st (31 * j + (22 + d)) - st (31 * i + (22 + d))) →
    ∃ y : Al, f_X3_tell_L130 st (nI (31 * i)) (nI (31 * j)) u m (nI c) x = some (1, y, u.1, u.2) ∧ (∀ d, d < 4 → y (4 + d) = st (31 * j + (22 + d)) - st (31 * i + (22 + d))) ∧ ∀ d, d < 4 → y d = x d := by
  intro n
  induction n with
  | zero =>
    intro m c x hr hm hI
    obtain ⟨m, rfl⟩ : ∃ m', m = m' + 1 := ⟨m - 1, by omega⟩
    refine ⟨x, ?_, fun d hd => hI d (by omega), fun _ _ => rfl⟩
    show f_X3_tell_B130 st (nI (31 * i)) (nI (31 * j)) u (f_X3_tell_L130 st (nI (31 * i)) (nI (31 * j)) u m) _ _ = _
    unfold f_X3_tell_B130
    rw [if_pos (show (4 : Int32) ≤ nI c by rw [show c = 4 by omega]; decide)]
  | succ n ih =>
    intro m c x hr hm hI
    obtain ⟨m, rfl⟩ : ∃ m', m = m' + 1 := ⟨m - 1, by omega⟩
    obtain ⟨y, k1, k2, k3⟩ := ih m (c + 1) (vp_updL x (4 + c) (st (31 * j + 22 + c) - st (31 * i + 22 + c))) (by omega) (by omega) (fun d hd => by
      by_cases e : d = c
      · subst e; rw [uL_s, Nat.add_assoc, Nat.add_assoc]
      · rw [uL_n (by omega)]; exact hI d (by omega))
    refine ⟨y, ?_, k2, fun d hd => by rw [k3 d hd, uL_n (by omega)]⟩
    show f_X3_tell_B130 st (nI (31 * i)) (nI (31 * j)) u (f_X3_tell_L130 st (nI (31 * i)) (nI (31 * j)) u m) _ _ = _
    unfold f_X3_tell_B130
    simp only [bnd]
    rw [if_neg (show ¬ (4 : Int32) ≤ nI c from nI_ge (a := c) (b := 4) (by omega) (by decide)), show nI (31 * j) + 22 = nI (31 * j + 22) from ixp (31 * j) 22, show nI (31 * i) + 22 = nI (31 * i + 22) from ixp (31 * i) 22, ixp, ixp, show 4 + nI c = nI (4 + c) from nI_add 4 c, gd_t _ (ib_nI (show 31 * j + 22 + c < 9331 by omega) (by omega)), gd_t _ (ib_nI (show 31 * i + 22 + c < 9331 by omega) (by omega)), gd_t _ (ib_nI (show 4 + c < 8 by omega) (by omega)), cl_nI (show 31 * j + 22 + c < 2147483648 by omega), cl_nI (show 31 * i + 22 + c < 2147483648 by omega), cl_nI (show 4 + c < 2147483648 by omega), nI_1]
    exact k1
theorem tn0 : (0 : Int32).toNatClampNeg = 0 := by decide
theorem tn1 : (1 : Int32).toNatClampNeg = 1 := by decide
theorem tn2 : (2 : Int32).toNatClampNeg = 2 := by decide
theorem tn3 : (3 : Int32).toNatClampNeg = 3 := by decide
theorem n00 : (0 : Int32) = nI 0 := by decide
theorem bnd_e {α β : Type} (a : α) (f : α → β) : bnd a f = f a := rfl
theorem kx_ok {q : AC} {a : AM} {p z j i : Nat} {gx : Xo} {st : Al} (h : RI q a p z j gx.2.2.2.2.1 st) (hj : j ≤ 300) (hij : i < j) {X Y : Int} (hN : (aIt q a j).1 * (aIt q a i).2.1 - (aIt q a i).1 * (aIt q a j).2.1 = X) (hD : (aIt q a j).2.1 * (aIt q a i).2.1 = Y) :
    ∃ y5 : Al, f_X2_keepRing gx (nI i) (nI j) = some (y5, 1) ∧ (∀ d, d < 4 → y5 (4 + d) = st (31 * j + (22 + d)) - st (31 * i + (22 + d))) ∧ y5 0 = (nI i).toInt64 ∧ y5 1 = (nI j - nI i).toInt64 ∧ y5 2 = lI (rN X Y) ∧ y5 3 = lI (rD X Y) := by
  have e1 := h.eb (i := i) (by omega)
  have e2 := h.eb (i := j) (by omega)
  obtain ⟨-, -, -, t1, -⟩ := h.1 i (by omega)
  obtain ⟨-, -, -, t2, -⟩ := h.1 j (by omega)
  have hb := btw_b e1 e2
  have n1 := bn_ok e1 e2
  have n2 := bd_ok e1 e2
  rw [hN] at hb n1
  rw [hD] at hb n2
  have hg := gcd_pos (a := X) (show 0 < Y by omega)
  have hgl := gcd_le (a := X) (show 0 < Y by omega)
  have d1 : lI X / lI (Int.gcd X Y : Int) = lI (rN X Y) := by
    rw [lI_div (by omega) (by omega), tdiv_ex (Int.gcd_dvd_left X Y)]
    rfl
  have d2 : lI Y / lI (Int.gcd X Y : Int) = lI (rD X Y) := by
    rw [lI_div (by omega) (by omega), tdiv_ex (Int.gcd_dvd_right X Y)]
    rfl
  have hco := co_ok (a := X) (b := Y) (by omega) (by omega) (by omega)
  have hnz : nzL (lI (Int.gcd X Y : Int)) = true := nzL_t (by omega) (by omega)
  have t3 := er_ok t1 (by omega)
  have t4 := er_ok t2 (by omega)
  obtain ⟨y5, k1, k2, k3⟩ := kr_L79 h hj (Nat.le_of_lt hij) 4 fuel 0 (vp_updL (vp_updL (vp_updL (vp_updL gx.2.2.2.2.2.1 0 (nI i).toInt64) 1 (nI j - nI i).toInt64) 2 (lI (rN X Y))) 3 (lI (rD X Y))) (by omega) (by unfold fuel; omega) (fun d hd => by omega)
  refine ⟨y5, ?_, k2, ?_, ?_, ?_, ?_⟩
  · unfold f_X2_keepRing
    rw [t3, t4, Option.bind_some, Option.bind_some, n1, Option.bind_some, Option.bind_some, Option.bind_some, n2, Option.bind_some, hco, Option.bind_some]
    rw [gd_t _ (show ib 0 8 = true by decide), bnd_e, gd_t _ (show ib 1 8 = true by decide), gd_t _ hnz, bnd_e, d1, gd_t _ (show ib 2 8 = true by decide), bnd_e, d2, gd_t _ (show ib 3 8 = true by decide), tn0, tn1, tn2, tn3, n00]
    exact k1
  · rw [k3 0 (by omega), uL_n (by omega), uL_n (by omega), uL_n (by omega), uL_s]
  · rw [k3 1 (by omega), uL_n (by omega), uL_n (by omega), uL_s]
  · rw [k3 2 (by omega), uL_n (by omega), uL_s]
  · rw [k3 3 (by omega), uL_s]
theorem tl_ok {q : AC} {a : AM} {p z j i : Nat} {tr st : Al} (h : RI q a p z j tr st) (hj : j ≤ 300) (hij : i < j) (m17 : Al) {X Y : Int} (hN : (aIt q a j).1 * (aIt q a i).2.1 - (aIt q a i).1 * (aIt q a j).2.1 = X) (hD : (aIt q a j).2.1 * (aIt q a i).2.1 = Y) :
    ∃ y17 : Al, f_X3_tell st m17 (nI i) (nI j) = some (1, y17, lI (rN X Y), lI (rD X Y)) ∧ (∀ d, d < 4 → y17 (4 + d) = st (31 * j + (22 + d)) - st (31 * i + (22 + d))) ∧ y17 0 = (nI i).toInt64 ∧ y17 1 = (nI j - nI i).toInt64 ∧ y17 2 = lI (rN X Y) ∧ y17 3 = lI (rD X Y) := by
  have e1 := h.eb (i := i) (by omega)
  have e2 := h.eb (i := j) (by omega)
  obtain ⟨-, -, -, -, r1⟩ := h.1 i (by omega)
  obtain ⟨-, -, -, -, r2⟩ := h.1 j (by omega)
  have hb := btw_b e1 e2
  rw [hN, hD] at hb
  have hD2 : (aIt q a i).2.1 * (aIt q a j).2.1 = Y := by rw [Int.mul_comm, hD]
  have v1 : st (31 * i + 20) = lI (aIt q a i).1 := r1.1
  have v2 : st (31 * i + 21) = lI (aIt q a i).2.1 := r1.2.1
  have v3 : st (31 * j + 20) = lI (aIt q a j).1 := r2.1
  have v4 : st (31 * j + 21) = lI (aIt q a j).2.1 := r2.2.1
  have hmk := mk_ok (a := X) (b := Y) (by omega) (by omega) (by omega)
  have w1 : nI (31 * j) + 20 = nI (31 * j + 20) := ixp (31 * j) 20
  have w2 : nI (31 * i) + 20 = nI (31 * i + 20) := ixp (31 * i) 20
  have w3 : nI (31 * j + 20) + 1 = nI (31 * j + 21) := nI_1 _
  have w4 : nI (31 * i + 20) + 1 = nI (31 * i + 21) := nI_1 _
  obtain ⟨y17, l1, l2, l3⟩ := te_L st (show i ≤ 300 by omega) hj (lI (rN X Y), lI (rD X Y)) 4 fuel 0 (vp_updL (vp_updL (vp_updL (vp_updL m17 0 (nI i).toInt64) 1 (nI j - nI i).toInt64) 2 (lI (rN X Y))) 3 (lI (rD X Y))) (by omega) (by unfold fuel; omega) (fun d hd => by omega)
  refine ⟨y17, ?_, l2, ?_, ?_, ?_, ?_⟩
  · unfold f_X3_tell
    simp only [bnd, ix31, w1, w2, w3, w4, tn0, tn1, tn2, tn3]
    rw [gd_t _ (ib_nI (show 31 * j + 20 < 9331 by omega) (by omega)), gd_t _ (ib_nI (show 31 * i + 21 < 9331 by omega) (by omega)), gd_t _ (ib_nI (show 31 * i + 20 < 9331 by omega) (by omega)), gd_t _ (ib_nI (show 31 * j + 21 < 9331 by omega) (by omega)), cl_nI (show 31 * j + 20 < 2147483648 by omega), cl_nI (show 31 * i + 21 < 2147483648 by omega), cl_nI (show 31 * i + 20 < 2147483648 by omega), cl_nI (show 31 * j + 21 < 2147483648 by omega), v1, v2, v3, v4, lI_mul, lI_mul, lI_mul, lI_sub, hN, hD2, hmk, Option.bind_some, gd_t _ (show ib 0 8 = true by decide), gd_t _ (show ib 1 8 = true by decide), gd_t _ (show ib 2 8 = true by decide), gd_t _ (show ib 3 8 = true by decide), n00]
    exact l1
  · rw [l3 0 (by omega), uL_n (by omega), uL_n (by omega), uL_n (by omega), uL_s]
  · rw [l3 1 (by omega), uL_n (by omega), uL_n (by omega), uL_s]
  · rw [l3 2 (by omega), uL_n (by omega), uL_s]
  · rw [l3 3 (by omega), uL_s]
/-- both keep the ring that was found -/
theorem kr_ok {q : AC} {a : AM} {p z j i : Nat} {gx : Xo} {st : Al} (h : RI q a p z j gx.2.2.2.2.1 st) (hj : j ≤ 300) (hij : i < j) (m17 : Al) :
    ∃ (y5 y17 : Al) (u1 u2 : Int64), f_X2_keepRing gx (nI i) (nI j) = some (y5, 1) ∧ f_X3_tell st m17 (nI i) (nI j) = some (1, y17, u1, u2) ∧ ∀ c, c < 8 → y5 c = y17 c := by
  obtain ⟨y5, a1, a2, a3, a4, a5, a6⟩ := kx_ok h hj hij rfl rfl
  obtain ⟨y17, b1, b2, b3, b4, b5, b6⟩ := tl_ok h hj hij m17 rfl rfl
  refine ⟨y5, y17, _, _, a1, b1, fun c hc => ?_⟩
  by_cases c4 : c < 4
  · by_cases e3 : c = 3
    · subst e3; rw [a6, b6]
    · by_cases e2 : c = 2
      · subst e2; rw [a5, b5]
      · by_cases e1 : c = 1
        · subst e1; rw [a4, b4]
        · rw [show c = 0 by omega, a3, b3]
  · have k4 := a2 (c - 4) (by omega)
    have l4 := b2 (c - 4) (by omega)
    rw [show c = 4 + (c - 4) by omega, k4, l4]
end RINGB
