/-! how the class holds it -/
section REP
theorem nI_eq0 {i : Nat} (h : i < 2147483648) : nI i = 0 ↔ i = 0 := nI_eq (a := i) (b := 0) (by omega) (by omega)
theorem nI_eq1 {i : Nat} (h : i < 2147483648) : nI i = 1 ↔ i = 1 := nI_eq (a := i) (b := 1) (by omega) (by omega)
def QOK (q : AC) : Prop := aC q ≤ 4 ∧ aL q ≤ 8 ∧ (∀ i, i < 4 → (aLo q i).natAbs ≤ 50 ∧ (aHi q i).natAbs ≤ 50 ∧ (aRi q i).natAbs ≤ 60 ∧ (aFa q i).natAbs ≤ 60) ∧ (∀ i, i < aC q → 1 ≤ aRi q i ∧ 1 ≤ aFa q i) ∧
  (∀ k, k < aL q → aFr q k < aC q ∧ aAt q k ≤ 1 ∧ 1 ≤ aNt q k ∧ aNt q k ≤ 9 ∧ aTo q k < aC q ∧ aAc q k ≤ 2 ∧ (aAc q k = 0 → (aBy q k).natAbs ≤ 20) ∧ (aAc q k = 2 → aBy q k = 0 ∨ aBy q k = 1) ∧ B31 (aBy q k))
def CRep (q : AC) (c : Ci) : Prop := c.1 = nI (aC q) ∧ c.2.2.2.2.2.1 = nI (aL q) ∧ (∀ i, i < 4 → c.2.1 i = iI (aLo q i) ∧ c.2.2.1 i = iI (aHi q i) ∧ c.2.2.2.1 i = iI (aRi q i) ∧ c.2.2.2.2.1 i = iI (aFa q i)) ∧
  (∀ k, k < aL q → c.2.2.2.2.2.2.1 k = nI (aFr q k) ∧ c.2.2.2.2.2.2.2.1 k = nI (aAt q k) ∧ c.2.2.2.2.2.2.2.2.1 k = nI (aNt q k) ∧ c.2.2.2.2.2.2.2.2.2.1 k = nI (aTo q k) ∧ c.2.2.2.2.2.2.2.2.2.2.1 k = nI (aAc q k) ∧ c.2.2.2.2.2.2.2.2.2.2.2 k = iI (aBy q k))
def VRep (v : AV) (num den : Al) (fil cnt : Ar) : Prop := (∀ i, i < 4 → num i = lI (vN v i) ∧ den i = lI (vD v i) ∧ fil i = b2i (vF v i)) ∧ ∀ k, k < 8 → cnt k = nI (vK v k)
/-- the levels' bounds: numerators M, denominators N; counts below their links' -/
def VB (q : AC) (v : AV) (M N : Nat) : Prop := (∀ i, i < 4 → (vN v i).natAbs ≤ M ∧ 1 ≤ vD v i ∧ (vD v i).natAbs ≤ N ∧ Int.gcd (vN v i) (vD v i) = 1) ∧ (∀ k, k < aL q → vK v k < aNt q k) ∧ ∀ k, k < 8 → vK v k < 10
theorem nb_mul {a b : Int} {M N : Nat} (h1 : a.natAbs ≤ M) (h2 : b.natAbs ≤ N) : (a * b).natAbs ≤ M * N := by
  rw [Int.natAbs_mul]
  exact Nat.mul_le_mul h1 h2
theorem nb_add {a b : Int} {M N : Nat} (h1 : a.natAbs ≤ M) (h2 : b.natAbs ≤ N) : (a + b).natAbs ≤ M + N := by omega
theorem nb_sub {a b : Int} {M N : Nat} (h1 : a.natAbs ≤ M) (h2 : b.natAbs ≤ N) : (a - b).natAbs ≤ M + N := by omega
theorem B63_nb {z : Int} {M : Nat} (h : z.natAbs ≤ M) (hM : M ≤ 9223372036854775807) : B63 z := by omega
theorem way_b {q : AC} {v : AV} (hQ : QOK q) (hB : VB q v 1000000 1000000) {i : Nat} (hi : i < 4) : (aWay q v i).natAbs ≤ 51000000 := by
  obtain ⟨h1, h2, h3, -⟩ := hB.1 i hi
  obtain ⟨b1, b2, -, -⟩ := hQ.2.2.1 i hi
  unfold aWay
  split
  · exact Nat.le_trans (nb_sub (nb_mul b2 h3) h1) (by decide)
  · exact Nat.le_trans (nb_sub h1 (nb_mul b1 h3)) (by decide)
theorem spd_b {q : AC} {v : AV} (hQ : QOK q) (hB : VB q v 1000000 1000000) {i : Nat} (hi : i < aC q) : 1 ≤ aSpd q v i ∧ (aSpd q v i).natAbs ≤ 60000000 := by
  have hi4 : i < 4 := Nat.lt_of_lt_of_le hi hQ.1
  obtain ⟨h1, h2, h3, -⟩ := hB.1 i hi4
  obtain ⟨-, -, b3, b4⟩ := hQ.2.2.1 i hi4
  obtain ⟨c1, c2⟩ := hQ.2.2.2.1 i hi
  unfold aSpd
  split
  · refine ⟨?_, Nat.le_trans (nb_mul h3 b3) (by decide)⟩
    have := Int.mul_le_mul h2 c1 (by decide) (by omega)
    omega
  · refine ⟨?_, Nat.le_trans (nb_mul h3 b4) (by decide)⟩
    have := Int.mul_le_mul h2 c2 (by decide) (by omega)
    omega
/-! the class chooses -/
theorem ch_B {q : AC} {v : AV} {c : Ci} {s : Sw} (hQ : QOK q) (hC : CRep q c) (hV : VRep v s.2.2.1 s.2.2.2.1 s.2.2.2.2.1 s.2.2.2.2.2.1) (hB : VB q v 1000000 1000000) {i : Nat} (hi : i < aC q) (rec : Int32 → Int32 → Int64 → Int64 → Option (Int32 × Int64 × Int64)) (b6 : Int32) {wN wD : Int} (hwN : i ≠ 0 → wN.natAbs ≤ 51000000) (hwD : i ≠ 0 → wD.natAbs ≤ 60000000) :
    f_X1_chooseTurning_B2 s c rec (nI i) b6 (lI wN) (lI wD) = if i = 0 ∨ aWay q v i * wD < wN * aSpd q v i then rec (nI (i + 1)) (nI i) (lI (aWay q v i)) (lI (aSpd q v i)) else rec (nI (i + 1)) b6 (lI wN) (lI wD) := by
  have hi4 : i < 4 := Nat.lt_of_lt_of_le hi hQ.1
  have hC4 := hQ.1
  obtain ⟨hn, hd, hf⟩ := hV.1 i hi4
  obtain ⟨c1, c2, c3, c4⟩ := hC.2.2.1 i hi4
  obtain ⟨b1, b2, b3, b4⟩ := hQ.2.2.1 i hi4
  have hcl : (nI i).toNatClampNeg = i := cl_nI (by omega)
  have e1 : ¬ c.1 ≤ nI i := by rw [hC.1]; exact nI_ge hi (by omega)
  have hw := way_b hQ hB hi4
  have hs := spd_b hQ hB hi
  have tail : ∀ (x : Int64) (y : Int32), x = lI (aWay q v i) → (lI (vD v i)) * y.toInt64 = lI (aSpd q v i) → f_X1_chooseTurning_J95 s (nI i) b6 (lI wN) (lI wD) rec x y = if i = 0 ∨ aWay q v i * wD < wN * aSpd q v i then rec (nI (i + 1)) (nI i) (lI (aWay q v i)) (lI (aSpd q v i)) else rec (nI (i + 1)) b6 (lI wN) (lI wD) := by
    intro x y hx hy
    unfold f_X1_chooseTurning_J95 f_X1_chooseTurning_J120 f_X1_chooseTurning_J136
    simp only [bnd]
    rw [hcl, hd, hy, hx, nI_1, lI_mul, lI_mul]
    by_cases h0 : i = 0
    · rw [if_pos (show nI i = 0 by rw [h0]; rfl), if_pos (Or.inl h0)]
    · rw [if_neg (fun e => h0 ((nI_eq0 (by omega)).mp e))]
      by_cases h1 : aWay q v i * wD < wN * aSpd q v i
      · rw [if_neg (fun e => by
          have := (lI_le (B63_nb (nb_mul (hwN h0) hs.2) (by decide)) (B63_nb (nb_mul hw (hwD h0)) (by decide))).mp ((lg_cmp_ge _ _).mp e)
          omega), if_pos (Or.inr h1)]
      · rw [if_pos ((lg_cmp_ge _ _).mpr ((lI_le (B63_nb (nb_mul (hwN h0) hs.2) (by decide)) (B63_nb (nb_mul hw (hwD h0)) (by decide))).mpr (by omega))), if_neg (fun e => e.elim h0 h1)]
  unfold f_X1_chooseTurning_B2 f_X1_chooseTurning_J64
  rw [if_neg e1, gd_t _ (ib_nI hi4 (by omega)), hcl, hf]
  cases hfl : vF v i with
  | true =>
    rw [if_neg (show ¬ b2i true = 0 by decide), if_neg (show ¬ b2i true = 0 by decide)]
    refine tail _ _ ?_ ?_
    · rw [c2, hn, hd, i2l_iI (by omega), lI_mul, lI_sub]
      unfold aWay
      rw [hfl]
      rfl
    · rw [c3, i2l_iI (by omega), lI_mul]
      unfold aSpd
      rw [hfl]
      rfl
  | false =>
    rw [if_pos (show b2i false = 0 by decide), if_pos (show b2i false = 0 by decide)]
    refine tail _ _ ?_ ?_
    · rw [c1, hn, hd, i2l_iI (by omega), lI_mul, lI_sub]
      unfold aWay
      rw [hfl]
      rfl
    · rw [c4, i2l_iI (by omega), lI_mul]
      unfold aSpd
      rw [hfl]
      rfl
theorem pick_lt {w d : Nat → Int} : ∀ (n i b C : Nat), i + n = C → b < C → pick w d n i b < C := by
  intro n
  induction n with
  | zero => intro i b C _ hb; exact hb
  | succ n ih =>
    intro i b C h hb
    unfold pick
    split
    · exact ih (i + 1) i C (by omega) (by omega)
    · exact ih (i + 1) b C (by omega) hb
theorem aPick_lt {q : AC} {v : AV} (h : 0 < aC q) : aPick q v < aC q := pick_lt _ 1 0 _ (by omega) h
theorem ch_L {q : AC} {v : AV} {c : Ci} {s : Sw} (hQ : QOK q) (hC : CRep q c) (hV : VRep v s.2.2.1 s.2.2.2.1 s.2.2.2.2.1 s.2.2.2.2.2.1) (hB : VB q v 1000000 1000000) :
    ∀ (n m i b : Nat), i + n = aC q → 0 < i → b < aC q → n < m → f_X1_chooseTurning_L2 s c m (nI i) (nI b) (lI (aWay q v b)) (lI (aSpd q v b)) = some (nI (pick (aWay q v) (aSpd q v) n i b), lI (aWay q v (pick (aWay q v) (aSpd q v) n i b)), lI (aSpd q v (pick (aWay q v) (aSpd q v) n i b))) := by
  have hC4 := hQ.1
  intro n
  induction n with
  | zero =>
    intro m i b hin h0 hb hm
    obtain ⟨m, rfl⟩ : ∃ m', m = m' + 1 := ⟨m - 1, by omega⟩
    show f_X1_chooseTurning_B2 s c (f_X1_chooseTurning_L2 s c m) _ _ _ _ = _
    unfold f_X1_chooseTurning_B2
    rw [if_pos (by rw [hC.1]; exact nI_le (by omega) (by omega))]
    rfl
  | succ n ih =>
    intro m i b hin h0 hb hm
    obtain ⟨m, rfl⟩ : ∃ m', m = m' + 1 := ⟨m - 1, by omega⟩
    show f_X1_chooseTurning_B2 s c (f_X1_chooseTurning_L2 s c m) _ _ _ _ = _
    rw [ch_B hQ hC hV hB (show i < aC q by omega) _ _ (fun _ => way_b hQ hB (by omega)) (fun _ => (spd_b hQ hB hb).2)]
    unfold pick
    by_cases h1 : aWay q v i * aSpd q v b < aWay q v b * aSpd q v i
    · rw [if_pos (Or.inr h1), if_pos h1]
      exact ih m (i + 1) i (by omega) (by omega) (by omega) (by omega)
    · rw [if_neg (fun e => e.elim (by omega) h1), if_neg h1]
      exact ih m (i + 1) b (by omega) (by omega) hb (by omega)
theorem ch_ok {q : AC} {v : AV} {c : Ci} {s : Sw} (hQ : QOK q) (hC : CRep q c) (hV : VRep v s.2.2.1 s.2.2.2.1 s.2.2.2.2.1 s.2.2.2.2.2.1) (hB : VB q v 1000000 1000000) (h0 : 0 < aC q) :
    f_X1_chooseTurning s c = some (nI (aPick q v), lI (aWay q v (aPick q v)), lI (aSpd q v (aPick q v))) := by
  have hC4 := hQ.1
  unfold f_X1_chooseTurning
  show f_X1_chooseTurning_B2 s c (f_X1_chooseTurning_L2 s c 999) 0 _ _ _ = _
  rw [← lI_of s.2.2.2.2.2.2.2.2.1, ← lI_of s.2.2.2.2.2.2.2.2.2, show (0 : Int32) = nI 0 from rfl, ch_B hQ hC hV hB h0 _ _ (fun h => absurd rfl h) (fun h => absurd rfl h), if_pos (Or.inl rfl)]
  exact ch_L hQ hC hV hB _ 999 1 0 (by omega) (by omega) h0 (by omega)
end REP
