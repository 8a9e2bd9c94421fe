section PARTS
/-- what the rest of both searches gives: class and reference, from F found on -/
def GW (z : Int) (F : Nat) (x12 : Ar) (c : Option (Int32 × Ar)) (r : Option (Int32 × Int64 × Int64)) : Prop :=
  ∃ (T : Nat) (fin : Ar), c = some (nI T, fin) ∧ F ≤ T ∧ T ≤ 100 ∧ (∀ k, k < F → fin k = x12 k) ∧ ((z < 0 ∨ (F : Int) ≤ z) → ∃ x y : Int64, r = some (if z < 0 then nI T else if z < (T : Int) then fin z.toNat else (-1), x, y))
theorem mI1 : (-1 : Int32) = iI (-1) := by decide
theorem red_cross {a b x y : Int} (hb : 0 < b) : rN a b * y = rD a b * x ↔ a * y = x * b := by
  have key : ∀ u w g : Int, 0 < g → u * g = a → w * g = b → (u * y = w * x ↔ a * y = x * b) := by
    intro u w g hg h1 h2
    subst h1
    subst h2
    constructor
    · intro hh
      rw [Int.mul_right_comm u g y, hh]
      ac_rfl
    · intro hh
      apply Int.eq_of_mul_eq_mul_right (show g ≠ 0 by omega)
      rw [Int.mul_right_comm u y g, hh]
      ac_rfl
  exact key _ _ _ (gcd_pos (a := a) hb) (rN_mul a b) (rD_mul a b)
theorem vw_b {v w : Nat} (v1 : 1 ≤ v) (v2 : v ≤ 60) (w1 : 1 ≤ w) (w2 : w ≤ 60) : 1 ≤ ((v : Int) * (w : Int)) ∧ ((v : Int) * (w : Int)) ≤ 3600 := by
  have h1 : 1 * 1 ≤ v * w := Nat.mul_le_mul v1 w1
  have h2 : v * w ≤ 60 * 60 := Nat.mul_le_mul v2 w2
  have h3 : ((v : Int) * (w : Int)) = ((v * w : Nat) : Int) := (Int.natCast_mul v w).symm
  omega
theorem sp_b {q : AC} {c v w : Nat} (hQ : QOK q) (hc : c < aC q) (v2 : v ≤ 60) (w2 : w ≤ 60) : (((aHi q c - aLo q c) * ((v : Int) + (w : Int)))).natAbs ≤ 12000 := by
  have hC4 := hQ.1
  obtain ⟨b1, b2, -, -⟩ := hQ.2.2.1 c (by omega)
  exact Nat.le_trans (nb_mul (M := 100) (N := 120) (by omega) (by omega)) (by decide)
theorem bt_ok {q : AC} {m0 m1 m2 m3 m5 : Ar} {m4 m6 : Int32} {c v w : Nat} (hQ : QOK q) (hM : MRep q m0 m1 m2 m3 m4 m5 m6) (hc : c < aC q) (v1 : 1 ≤ v) (v2 : v ≤ 60) (w1 : 1 ≤ w) (w2 : w ≤ 60) :
    f_X3_beat m0 m1 (nI c) (nI v) (nI w) = some (lI (rN ((aHi q c - aLo q c) * ((v : Int) + (w : Int))) ((v : Int) * (w : Int))), lI (rD ((aHi q c - aLo q c) * ((v : Int) + (w : Int))) ((v : Int) * (w : Int)))) := by
  have hC4 := hQ.1
  obtain ⟨b1, b2, -, -⟩ := hQ.2.2.1 c (by omega)
  have hY := vw_b v1 v2 w1 w2
  have hX := sp_b hQ hc v2 w2
  obtain ⟨e1, e2, -, -⟩ := hM.2.2.1 c (by omega)
  unfold f_X3_beat
  rw [gd_t _ (ib_nI (show c < 4 by omega) (by omega)), cl_nI (show c < 2147483648 by omega), e1, e2, iI_sub, nI_iI v, nI_iI w, iI_add, i2l_iI (show B31 (aHi q c - aLo q c) by omega), i2l_iI (show B31 ((v : Int) + (w : Int)) by omega), i2l_iI (show B31 (v : Int) by omega), i2l_iI (show B31 (w : Int) by omega), lI_mul, lI_mul, mk_ok (by omega) (by omega) (by omega)]
  rfl
theorem fw_row {q : AC} {gx : Xo} {gc : Ci} {m0 m1 m2 m3 m5 m18 : Ar} {m4 m6 m19 : Int32} {S c n d : Nat} (hQ : QOK q) (hC : CRep q gc) (hM : MRep q m0 m1 m2 m3 m4 m5 m6) (hD : DRep S gx.2.2.2.2.2.2.2.1 gx.2.2.2.2.2.2.2.2.1 m18 m19) (hc : c < aC q) (hn : 1 ≤ n ∧ n ≤ 1000000) (hd : 1 ≤ d ∧ d ≤ 1000000) {z : Int} (hz : B31 z) {i : Nat} (hi : i < S)
    (rec6 : Int32 → Int32 → Ar → Option (Int32 × Ar)) (rec7 : Int32 → Int32 → Int64 → Int64 → Option (Int32 × Int64 × Int64))
    (hrec : ∀ (F : Nat) (x12 : Ar) (a b : Int64), F ≤ 10 * (i + 1) → GW z F x12 (rec6 (nI F) (nI (i + 1)) x12) (rec7 (nI F) (nI (i + 1)) a b)) :
    ∀ (t m k j F : Nat) (x12 : Ar) (a b : Int64), j + t = S → t < m → t < k → F ≤ 10 * i + j → GW z F x12 (f_X2_findWays_L18 gx gc (nI c) (lI n) (lI d) (nI i) rec6 m (nI F) (nI j) x12) (f_X3_ways_L18 m0 m1 m18 m19 (nI c) (iI n) (iI d) (iI z) (nI i) rec7 k (nI F) (nI j) a b) := by
  obtain ⟨d1, d2, d3, d4⟩ := hD
  have hC4 := hQ.1
  intro t
  induction t with
  | zero =>
    intro m k j F x12 a b hj hm hk hF
    obtain ⟨m, rfl⟩ : ∃ m', m = m' + 1 := ⟨m - 1, by omega⟩
    obtain ⟨k, rfl⟩ : ∃ k', k = k' + 1 := ⟨k - 1, by omega⟩
    have hr := hrec F x12 a b (by omega)
    have eX : f_X2_findWays_L18 gx gc (nI c) (lI n) (lI d) (nI i) rec6 (m + 1) (nI F) (nI j) x12 = rec6 (nI F) (nI (i + 1)) x12 := by
      show f_X2_findWays_B18 gx gc (nI c) (lI n) (lI d) (nI i) rec6 (f_X2_findWays_L18 gx gc (nI c) (lI n) (lI d) (nI i) rec6 m) (nI F) (nI j) x12 = _
      unfold f_X2_findWays_B18
      rw [if_pos (show gx.2.2.2.2.2.2.2.2.1 ≤ nI j by rw [d2]; exact nI_le (by omega) (by omega)), nI_1]
    have eM : f_X3_ways_L18 m0 m1 m18 m19 (nI c) (iI n) (iI d) (iI z) (nI i) rec7 (k + 1) (nI F) (nI j) a b = rec7 (nI F) (nI (i + 1)) a b := by
      show f_X3_ways_B18 m0 m1 m18 m19 (nI c) (iI n) (iI d) (iI z) (nI i) rec7 (f_X3_ways_L18 m0 m1 m18 m19 (nI c) (iI n) (iI d) (iI z) (nI i) rec7 k) (nI F) (nI j) a b = _
      unfold f_X3_ways_B18
      rw [if_pos (show m19 ≤ nI j by rw [d3]; exact nI_le (by omega) (by omega)), nI_1]
    rw [eX, eM]
    exact hr
  | succ t ih =>
    intro m k j F x12 a b hj hm hk hF
    obtain ⟨m, rfl⟩ : ∃ m', m = m' + 1 := ⟨m - 1, by omega⟩
    obtain ⟨k, rfl⟩ : ∃ k', k = k' + 1 := ⟨k - 1, by omega⟩
    obtain ⟨v, v1, v2, v3, v4⟩ := d4 i hi
    obtain ⟨w, w1, w2, w3, w4⟩ := d4 j (by omega)
    obtain ⟨b1, b2, -, -⟩ := hQ.2.2.1 c (by omega)
    obtain ⟨e1, e2, -, -⟩ := hC.2.2.1 c (by omega)
    have hY := vw_b v1 v2 w1 w2
    have hX := sp_b hQ hc v2 w2
    have s1 : nI v + nI w = iI ((v : Int) + (w : Int)) := by rw [nI_iI, nI_iI, iI_add]
    have s2 : nI v * nI w = iI ((v : Int) * (w : Int)) := by rw [nI_iI, nI_iI, iI_mul]
    have s3 : nI v * 100 + nI w = nI (100 * v + w) := by
      rw [nI_iI v, nI_iI w, show (100 : Int32) = iI 100 from rfl, iI_mul, iI_add, nI_iI]
      congr 1
      omega
    have s4 : 100 * nI v + nI w = nI (100 * v + w) := by
      rw [nI_iI v, nI_iI w, show (100 : Int32) = iI 100 from rfl, iI_mul, iI_add, nI_iI]
      congr 1
    have bX : B63 (((aHi q c - aLo q c) * ((v : Int) + (w : Int))) * (d : Int)) := B63_nb (nb_mul (N := 1000000) hX (by omega)) (by decide)
    have bY : B63 ((n : Int) * ((v : Int) * (w : Int))) := B63_nb (nb_mul (M := 1000000) (N := 3600) (by omega) (by omega)) (by decide)
    have cX : (lg_cmp (lI (((aHi q c - aLo q c) * ((v : Int) + (w : Int))) * (d : Int))) (lI ((n : Int) * ((v : Int) * (w : Int)))) = 0) = (((aHi q c - aLo q c) * ((v : Int) + (w : Int))) * (d : Int) = (n : Int) * ((v : Int) * (w : Int))) := propext (Iff.trans (lg_cmp_eq _ _) (lI_eq bX bY))
    have hrn := natAbs_rN ((aHi q c - aLo q c) * ((v : Int) + (w : Int))) ((v : Int) * (w : Int))
    have hrd := rD_le (a := ((aHi q c - aLo q c) * ((v : Int) + (w : Int)))) (show 0 < ((v : Int) * (w : Int)) by omega)
    have hrp := rD_pos (a := ((aHi q c - aLo q c) * ((v : Int) + (w : Int)))) (show 0 < ((v : Int) * (w : Int)) by omega)
    have bN : B63 (rN ((aHi q c - aLo q c) * ((v : Int) + (w : Int))) ((v : Int) * (w : Int)) * (d : Int)) := B63_nb (nb_mul (M := 12000) (N := 1000000) (by omega) (by omega)) (by decide)
    have bD : B63 (rD ((aHi q c - aLo q c) * ((v : Int) + (w : Int))) ((v : Int) * (w : Int)) * (n : Int)) := B63_nb (nb_mul (M := 3600) (N := 1000000) (by omega) (by omega)) (by decide)
    have cM : (lg_cmp (lI (rN ((aHi q c - aLo q c) * ((v : Int) + (w : Int))) ((v : Int) * (w : Int)) * (d : Int))) (lI (rD ((aHi q c - aLo q c) * ((v : Int) + (w : Int))) ((v : Int) * (w : Int)) * (n : Int))) = 0) = (((aHi q c - aLo q c) * ((v : Int) + (w : Int))) * (d : Int) = (n : Int) * ((v : Int) * (w : Int))) := propext (Iff.trans (lg_cmp_eq _ _) (Iff.trans (lI_eq bN bD) (red_cross (by omega))))
    have cz : (nI F = iI z) = ((F : Int) = z) := by rw [nI_iI]; exact eqE (by omega) hz
    have eX : f_X2_findWays_L18 gx gc (nI c) (lI n) (lI d) (nI i) rec6 (m + 1) (nI F) (nI j) x12 = if ¬ ((aHi q c - aLo q c) * ((v : Int) + (w : Int))) * (d : Int) = (n : Int) * ((v : Int) * (w : Int)) then f_X2_findWays_L18 gx gc (nI c) (lI n) (lI d) (nI i) rec6 m (nI F) (nI (j + 1)) x12 else f_X2_findWays_L18 gx gc (nI c) (lI n) (lI d) (nI i) rec6 m (nI (F + 1)) (nI (j + 1)) (upd x12 F (nI (100 * v + w))) := by
      show f_X2_findWays_B18 gx gc (nI c) (lI n) (lI d) (nI i) rec6 (f_X2_findWays_L18 gx gc (nI c) (lI n) (lI d) (nI i) rec6 m) (nI F) (nI j) x12 = _
      unfold f_X2_findWays_B18 f_X2_findWays_J113 f_X0_span
      simp only [bnd]
      rw [if_neg (show ¬ gx.2.2.2.2.2.2.2.2.1 ≤ nI j by rw [d2]; exact nI_ge (a := j) (b := S) (by omega) (by omega)), gd_t _ (ib_nI (show c < 4 by omega) (by omega)), Option.bind_some, gd_t _ (ib_nI (show i < 10 by omega) (by omega)), gd_t _ (ib_nI (show j < 10 by omega) (by omega)), gd_t _ (ib_nI (show F < 100 by omega) (by omega)), cl_nI (show c < 2147483648 by omega), cl_nI (show i < 2147483648 by omega), cl_nI (show j < 2147483648 by omega), cl_nI (show F < 2147483648 by omega), v3, w3, e1, e2, s3, s1, s2, iI_sub, iI_mul, i2l_iI (show B31 ((aHi q c - aLo q c) * ((v : Int) + (w : Int))) by omega), i2l_iI (show B31 ((v : Int) * (w : Int)) by omega), lI_mul, lI_mul, nI_1, nI_1]
      simp only [cX]
    have eM : f_X3_ways_L18 m0 m1 m18 m19 (nI c) (iI n) (iI d) (iI z) (nI i) rec7 (k + 1) (nI F) (nI j) a b = if ((aHi q c - aLo q c) * ((v : Int) + (w : Int))) * (d : Int) = (n : Int) * ((v : Int) * (w : Int)) then (if ¬ (F : Int) = z then f_X3_ways_L18 m0 m1 m18 m19 (nI c) (iI n) (iI d) (iI z) (nI i) rec7 k (nI (F + 1)) (nI (j + 1)) (lI (rN ((aHi q c - aLo q c) * ((v : Int) + (w : Int))) ((v : Int) * (w : Int)))) (lI (rD ((aHi q c - aLo q c) * ((v : Int) + (w : Int))) ((v : Int) * (w : Int)))) else some (nI (100 * v + w), lI (rN ((aHi q c - aLo q c) * ((v : Int) + (w : Int))) ((v : Int) * (w : Int))), lI (rD ((aHi q c - aLo q c) * ((v : Int) + (w : Int))) ((v : Int) * (w : Int))))) else f_X3_ways_L18 m0 m1 m18 m19 (nI c) (iI n) (iI d) (iI z) (nI i) rec7 k (nI F) (nI (j + 1)) (lI (rN ((aHi q c - aLo q c) * ((v : Int) + (w : Int))) ((v : Int) * (w : Int)))) (lI (rD ((aHi q c - aLo q c) * ((v : Int) + (w : Int))) ((v : Int) * (w : Int)))) := by
      show f_X3_ways_B18 m0 m1 m18 m19 (nI c) (iI n) (iI d) (iI z) (nI i) rec7 (f_X3_ways_L18 m0 m1 m18 m19 (nI c) (iI n) (iI d) (iI z) (nI i) rec7 k) (nI F) (nI j) a b = _
      unfold f_X3_ways_B18 f_X3_ways_J96
      rw [if_neg (show ¬ m19 ≤ nI j by rw [d3]; exact nI_ge (a := j) (b := S) (by omega) (by omega)), gd_t _ (ib_nI (show i < 10 by omega) (by omega)), gd_t _ (ib_nI (show j < 10 by omega) (by omega)), cl_nI (show i < 2147483648 by omega), cl_nI (show j < 2147483648 by omega), v4, w4, bt_ok hQ hM hc v1 v2 w1 w2, Option.bind_some, i2l_iI (show B31 (n : Int) by omega), i2l_iI (show B31 (d : Int) by omega), s4, nI_1, nI_1]
      simp only [lI_mul, cM, cz]
    rw [eX, eM]
    by_cases hP : ((aHi q c - aLo q c) * ((v : Int) + (w : Int))) * (d : Int) = (n : Int) * ((v : Int) * (w : Int))
    · rw [if_neg (fun hh => hh hP), if_pos hP]
      obtain ⟨T, fin, g1, g2, g3, g4, g5⟩ := ih m k (j + 1) (F + 1) (upd x12 F (nI (100 * v + w))) (lI (rN ((aHi q c - aLo q c) * ((v : Int) + (w : Int))) ((v : Int) * (w : Int)))) (lI (rD ((aHi q c - aLo q c) * ((v : Int) + (w : Int))) ((v : Int) * (w : Int)))) (by omega) (by omega) (by omega) (by omega)
      refine ⟨T, fin, g1, by omega, g3, fun l hl => by rw [g4 l (by omega), uI_n (by omega)], fun hh => ?_⟩
      by_cases e : (F : Int) = z
      · rw [if_neg (fun h2 => h2 e), if_neg (show ¬ z < 0 by omega), if_pos (show z < (T : Int) by omega), show z.toNat = F by omega, g4 F (by omega), uI_s]
        exact ⟨_, _, rfl⟩
      · rw [if_pos e]
        exact g5 (by omega)
    · rw [if_pos hP, if_neg hP]
      exact ih m k (j + 1) F x12 _ _ (by omega) (by omega) (by omega) (by omega)
theorem fw_all {q : AC} {gx : Xo} {gc : Ci} {m0 m1 m2 m3 m5 m18 : Ar} {m4 m6 m19 : Int32} {S c n d : Nat} (hQ : QOK q) (hC : CRep q gc) (hM : MRep q m0 m1 m2 m3 m4 m5 m6) (hD : DRep S gx.2.2.2.2.2.2.2.1 gx.2.2.2.2.2.2.2.2.1 m18 m19) (hc : c < aC q) (hn : 1 ≤ n ∧ n ≤ 1000000) (hd : 1 ≤ d ∧ d ≤ 1000000) {z : Int} (hz : B31 z) (hz1 : -1 ≤ z) :
    ∀ (t m k i F : Nat) (x12 : Ar) (a b : Int64), i + t = S → t < m → t < k → F ≤ 10 * i → GW z F x12 (f_X2_findWays_L6 gx gc (nI c) (lI n) (lI d) m (nI F) (nI i) x12) (f_X3_ways_L6 m0 m1 m18 m19 (nI c) (iI n) (iI d) (iI z) k (nI F) (nI i) a b) := by
  have hD0 := hD
  obtain ⟨d1, d2, d3, d4⟩ := hD
  intro t
  induction t with
  | zero =>
    intro m k i F x12 a b hj hm hk hF
    obtain ⟨m, rfl⟩ : ∃ m', m = m' + 1 := ⟨m - 1, by omega⟩
    obtain ⟨k, rfl⟩ : ∃ k', k = k' + 1 := ⟨k - 1, by omega⟩
    have cz : (iI z = (-1)) = (z = -1) := by rw [mI1]; exact eqE hz (by omega)
    have eX : f_X2_findWays_L6 gx gc (nI c) (lI n) (lI d) (m + 1) (nI F) (nI i) x12 = some (nI F, x12) := by
      show f_X2_findWays_B6 gx gc (nI c) (lI n) (lI d) (f_X2_findWays_L6 gx gc (nI c) (lI n) (lI d) m) (nI F) (nI i) x12 = _
      unfold f_X2_findWays_B6
      rw [if_pos (show gx.2.2.2.2.2.2.2.2.1 ≤ nI i by rw [d2]; exact nI_le (by omega) (by omega))]
    have eM : f_X3_ways_L6 m0 m1 m18 m19 (nI c) (iI n) (iI d) (iI z) (k + 1) (nI F) (nI i) a b = if ¬ z = -1 then some ((-1), a, b) else some (nI F, a, b) := by
      show f_X3_ways_B6 m0 m1 m18 m19 (nI c) (iI n) (iI d) (iI z) (f_X3_ways_L6 m0 m1 m18 m19 (nI c) (iI n) (iI d) (iI z) k) (nI F) (nI i) a b = _
      unfold f_X3_ways_B6
      rw [if_pos (show m19 ≤ nI i by rw [d3]; exact nI_le (by omega) (by omega))]
      simp only [cz]
    rw [eX, eM]
    refine ⟨F, x12, rfl, Nat.le_refl F, by omega, fun _ _ => rfl, fun hh => ⟨a, b, ?_⟩⟩
    by_cases e : z = -1
    · rw [if_neg (fun h2 => h2 e), if_pos (show z < 0 by omega)]
    · rw [if_pos e, if_neg (show ¬ z < 0 by omega), if_neg (show ¬ z < (F : Int) by omega)]
  | succ t ih =>
    intro m k i F x12 a b hj hm hk hF
    obtain ⟨m, rfl⟩ : ∃ m', m = m' + 1 := ⟨m - 1, by omega⟩
    obtain ⟨k, rfl⟩ : ∃ k', k = k' + 1 := ⟨k - 1, by omega⟩
    have eX : f_X2_findWays_L6 gx gc (nI c) (lI n) (lI d) (m + 1) (nI F) (nI i) x12 = f_X2_findWays_L18 gx gc (nI c) (lI n) (lI d) (nI i) (f_X2_findWays_L6 gx gc (nI c) (lI n) (lI d) m) fuel (nI F) (nI 0) x12 := by
      show f_X2_findWays_B6 gx gc (nI c) (lI n) (lI d) (f_X2_findWays_L6 gx gc (nI c) (lI n) (lI d) m) (nI F) (nI i) x12 = _
      unfold f_X2_findWays_B6
      rw [if_neg (show ¬ gx.2.2.2.2.2.2.2.2.1 ≤ nI i by rw [d2]; exact nI_ge (a := i) (b := S) (by omega) (by omega))]
      rfl
    have eM : f_X3_ways_L6 m0 m1 m18 m19 (nI c) (iI n) (iI d) (iI z) (k + 1) (nI F) (nI i) a b = f_X3_ways_L18 m0 m1 m18 m19 (nI c) (iI n) (iI d) (iI z) (nI i) (f_X3_ways_L6 m0 m1 m18 m19 (nI c) (iI n) (iI d) (iI z) k) fuel (nI F) (nI 0) a b := by
      show f_X3_ways_B6 m0 m1 m18 m19 (nI c) (iI n) (iI d) (iI z) (f_X3_ways_L6 m0 m1 m18 m19 (nI c) (iI n) (iI d) (iI z) k) (nI F) (nI i) a b = _
      unfold f_X3_ways_B6
      rw [if_neg (show ¬ m19 ≤ nI i by rw [d3]; exact nI_ge (a := i) (b := S) (by omega) (by omega))]
      rfl
    rw [eX, eM]
    exact fw_row hQ hC hM hD0 hc hn hd hz (show i < S by omega) _ _ (fun F x12 a b hF => ih m k (i + 1) F x12 a b (by omega) (by omega) (by omega) hF) S fuel fuel 0 F x12 a b (by omega) (by unfold fuel; omega) (by unfold fuel; omega) (by omega)
theorem R_parts {K : Nat} {gx : Xo} {gc : Ci} {gn gt : Sw} {m0 m1 m2 m3 : Ar} {m4 : Int32} {m5 : Ar} {m6 : Int32} {m7 : Al} {m10 m11 : Ar} {m12 m13 : Al} {m14 m16 : Int32} {m17 : Al} {m18 : Ar} {m19 : Int32} {m20 m21 : Al} {m22 : Int32}
    (h : RR K gx gc gn gt m0 m1 m2 m3 m4 m5 m6 m7 m10 m11 m12 m13 m14 m16 m17 m18 m19 m20 m21 m22) (m24 m25 : Int64) (p1 p2 p3 : Int32) : ∃ o o', f_X2_parts gx gc p1 p2 p3 = some o ∧ f_X3_parts m0 m1 m4 m18 m19 m24 m25 p1 p2 p3 = some o' ∧ o.1 = o'.1 ∧ RR (K + 1) (gx.1, gx.2.1, gx.2.2.1, gx.2.2.2.1, gx.2.2.2.2.1, gx.2.2.2.2.2.1, gx.2.2.2.2.2.2.1, gx.2.2.2.2.2.2.2.1, gx.2.2.2.2.2.2.2.2.1, gx.2.2.2.2.2.2.2.2.2.1, gx.2.2.2.2.2.2.2.2.2.2.1, gx.2.2.2.2.2.2.2.2.2.2.2.1, o.2, gx.2.2.2.2.2.2.2.2.2.2.2.2.2) gc gn gt m0 m1 m2 m3 m4 m5 m6 m7 m10 m11 m12 m13 m14 m16 m17 m18 m19 m20 m21 m22 := by
  obtain ⟨q, a, H, S, N, hQ, hC, hM, hMM, hH, hT, h14, hG, hD, hE⟩ := id h
  have fin : ∀ o : Int32 × Ar, RR (K + 1) (gx.1, gx.2.1, gx.2.2.1, gx.2.2.2.1, gx.2.2.2.2.1, gx.2.2.2.2.2.1, gx.2.2.2.2.2.2.1, gx.2.2.2.2.2.2.2.1, gx.2.2.2.2.2.2.2.2.1, gx.2.2.2.2.2.2.2.2.2.1, gx.2.2.2.2.2.2.2.2.2.2.1, gx.2.2.2.2.2.2.2.2.2.2.2.1, o.2, gx.2.2.2.2.2.2.2.2.2.2.2.2.2) gc gn gt m0 m1 m2 m3 m4 m5 m6 m7 m10 m11 m12 m13 m14 m16 m17 m18 m19 m20 m21 m22 := fun o => ⟨q, a, H, S, N, hQ, hC, hM, hMM, by omega, hT, h14, hG, hD, hE⟩
  obtain ⟨x, b1, rfl⟩ := ofI p1
  obtain ⟨y, b2, rfl⟩ := ofI p2
  obtain ⟨z, b3, rfl⟩ := ofI p3
  have hC4 := hQ.1
  have hS10 := hD.1
  have i1 := ic_ok hC4 hC.1 b1
  have i2 := im_ok hC4 hM.1 b1
  have e1 := tm_ok b2
  have e2 := tm_ok b3
  have e3 : f_X3_in (iI y) 1 1000000 = some (decide (1 ≤ y ∧ y ≤ 1000000)) := in_ok (lo := 1) (hi := 1000000) b2 (by omega) (by omega)
  have e4 : f_X3_in (iI z) 1 1000000 = some (decide (1 ≤ z ∧ z ≤ 1000000)) := in_ok (lo := 1) (hi := 1000000) b3 (by omega) (by omega)
  unfold f_X2_parts f_X3_parts f_X3_isFraction
  simp only [i1, i2, e1, e2, e3, e4, Option.bind_some, b2i_d]
  by_cases g1 : 0 ≤ x ∧ x < (aC q : Int)
  · rw [if_neg (show ¬ ¬ (0 ≤ x ∧ x < (aC q : Int)) from fun hh => hh g1), if_neg (show ¬ ¬ (0 ≤ x ∧ x < (aC q : Int)) from fun hh => hh g1)]
    by_cases g2 : 1 ≤ y ∧ y ≤ 1000000
    · rw [if_neg (show ¬ ¬ (1 ≤ y ∧ y ≤ 1000000) from fun hh => hh g2), if_neg (show ¬ ¬ (1 ≤ y ∧ y ≤ 1000000) from fun hh => hh g2)]
      by_cases g3 : 1 ≤ z ∧ z ≤ 1000000
      · rw [if_neg (show ¬ ¬ (1 ≤ z ∧ z ≤ 1000000) from fun hh => hh g3), if_neg (show ¬ ¬ (1 ≤ z ∧ z ≤ 1000000) from fun hh => hh g3), Option.bind_some, if_neg (show ¬ b2i true = 0 by decide)]
        obtain ⟨c, hc, rfl⟩ : ∃ c : Nat, c < aC q ∧ x = c := ⟨x.toNat, by omega, by omega⟩
        obtain ⟨n, hn, rfl⟩ : ∃ n : Nat, (1 ≤ n ∧ n ≤ 1000000) ∧ y = n := ⟨y.toNat, by omega, by omega⟩
        obtain ⟨d, hd, rfl⟩ : ∃ d : Nat, (1 ≤ d ∧ d ≤ 1000000) ∧ z = d := ⟨z.toNat, by omega, by omega⟩
        obtain ⟨T, fi, g1', g2', g3', g4', g5'⟩ := fw_all hQ hC hM hD hc hn hd (z := -1) (by omega) (by omega) S fuel fuel 0 0 gx.2.2.2.2.2.2.2.2.2.2.2.2.1 m24 m25 (by omega) (by unfold fuel; omega) (by unfold fuel; omega) (by omega)
        obtain ⟨u1, u2, g6⟩ := g5' (by omega)
        rw [if_pos (show (-1 : Int) < 0 by decide), ← mI1] at g6
        rw [i2l_iI b2, i2l_iI b3, ← nI_iI c]
        have h1 : f_X2_findWays gx gc (nI c) (lI n) (lI d) = some (nI T, fi) := g1'
        have h2 : f_X3_ways m0 m1 m18 m19 m24 m25 (nI c) (iI n) (iI d) (-1) = some (nI T, u1, u2) := g6
        rw [h1, h2]
        exact ⟨_, _, rfl, rfl, rfl, fin (nI T, fi)⟩
      · rw [if_pos (show ¬ (1 ≤ z ∧ z ≤ 1000000) from g3), if_pos (show ¬ (1 ≤ z ∧ z ≤ 1000000) from g3), Option.bind_some, if_pos (show b2i false = 0 by decide)]
        exact ⟨_, _, rfl, rfl, rfl, fin (_, _)⟩
    · rw [if_pos (show ¬ (1 ≤ y ∧ y ≤ 1000000) from g2), if_pos (show ¬ (1 ≤ y ∧ y ≤ 1000000) from g2), Option.bind_some, if_pos (show b2i false = 0 by decide)]
      exact ⟨_, _, rfl, rfl, rfl, fin (_, _)⟩
  · rw [if_pos (show ¬ (0 ≤ x ∧ x < (aC q : Int)) from g1), if_pos (show ¬ (0 ≤ x ∧ x < (aC q : Int)) from g1)]
    exact ⟨_, _, rfl, rfl, rfl, fin (_, _)⟩
theorem R_part {K : Nat} {gx : Xo} {gc : Ci} {gn gt : Sw} {m0 m1 m2 m3 : Ar} {m4 : Int32} {m5 : Ar} {m6 : Int32} {m7 : Al} {m10 m11 : Ar} {m12 m13 : Al} {m14 m16 : Int32} {m17 : Al} {m18 : Ar} {m19 : Int32} {m20 m21 : Al} {m22 : Int32}
    (h : RR K gx gc gn gt m0 m1 m2 m3 m4 m5 m6 m7 m10 m11 m12 m13 m14 m16 m17 m18 m19 m20 m21 m22) (m24 m25 : Int64) (p1 p2 p3 p4 : Int32) : ∃ o o', f_X2_part gx gc p1 p2 p3 p4 = some o ∧ f_X3_part m0 m1 m4 m18 m19 m24 m25 p1 p2 p3 p4 = some o' ∧ o.1 = o'.1 ∧ RR (K + 1) (gx.1, gx.2.1, gx.2.2.1, gx.2.2.2.1, gx.2.2.2.2.1, gx.2.2.2.2.2.1, gx.2.2.2.2.2.2.1, gx.2.2.2.2.2.2.2.1, gx.2.2.2.2.2.2.2.2.1, gx.2.2.2.2.2.2.2.2.2.1, gx.2.2.2.2.2.2.2.2.2.2.1, gx.2.2.2.2.2.2.2.2.2.2.2.1, o.2, gx.2.2.2.2.2.2.2.2.2.2.2.2.2) gc gn gt m0 m1 m2 m3 m4 m5 m6 m7 m10 m11 m12 m13 m14 m16 m17 m18 m19 m20 m21 m22 := by
  obtain ⟨q, a, H, S, N, hQ, hC, hM, hMM, hH, hT, h14, hG, hD, hE⟩ := id h
  have fin : ∀ o : Int32 × Ar, RR (K + 1) (gx.1, gx.2.1, gx.2.2.1, gx.2.2.2.1, gx.2.2.2.2.1, gx.2.2.2.2.2.1, gx.2.2.2.2.2.2.1, gx.2.2.2.2.2.2.2.1, gx.2.2.2.2.2.2.2.2.1, gx.2.2.2.2.2.2.2.2.2.1, gx.2.2.2.2.2.2.2.2.2.2.1, gx.2.2.2.2.2.2.2.2.2.2.2.1, o.2, gx.2.2.2.2.2.2.2.2.2.2.2.2.2) gc gn gt m0 m1 m2 m3 m4 m5 m6 m7 m10 m11 m12 m13 m14 m16 m17 m18 m19 m20 m21 m22 := fun o => ⟨q, a, H, S, N, hQ, hC, hM, hMM, by omega, hT, h14, hG, hD, hE⟩
  obtain ⟨x, b1, rfl⟩ := ofI p1
  obtain ⟨y, b2, rfl⟩ := ofI p2
  obtain ⟨z, b3, rfl⟩ := ofI p3
  obtain ⟨w, b4, rfl⟩ := ofI p4
  have hC4 := hQ.1
  have hS10 := hD.1
  have i1 := ic_ok hC4 hC.1 b1
  have i2 := im_ok hC4 hM.1 b1
  have e1 := tm_ok b2
  have e2 := tm_ok b3
  have e3 : f_X3_in (iI y) 1 1000000 = some (decide (1 ≤ y ∧ y ≤ 1000000)) := in_ok (lo := 1) (hi := 1000000) b2 (by omega) (by omega)
  have e4 : f_X3_in (iI z) 1 1000000 = some (decide (1 ≤ z ∧ z ≤ 1000000)) := in_ok (lo := 1) (hi := 1000000) b3 (by omega) (by omega)
  have e5 : (iI w < 0) = (w < 0) := ltE (b := 0) b4 (by omega)
  have e6 : ((-1 : Int32) ≤ iI w) = (-1 ≤ w) := by rw [mI1]; exact leE (by omega) b4
  have none1 : ∀ A : Ar, (if w < 0 then some ((-1 : Int32), A) else if -1 ≤ w then some ((-1), A) else gd (ib (iI w) 100) (some (A (iI w).toNatClampNeg, A))) = some ((-1), A) := fun A => by
    by_cases k : w < 0
    · rw [if_pos k]
    · rw [if_neg k, if_pos (show -1 ≤ w by omega)]
  unfold f_X2_part f_X2_parts f_X3_part f_X3_isFraction
  simp only [i1, i2, e1, e2, e3, e4, Option.bind_some, b2i_d, e5]
  by_cases g1 : 0 ≤ x ∧ x < (aC q : Int)
  · rw [if_neg (show ¬ ¬ (0 ≤ x ∧ x < (aC q : Int)) from fun hh => hh g1), if_neg (show ¬ ¬ (0 ≤ x ∧ x < (aC q : Int)) from fun hh => hh g1)]
    by_cases g2 : 1 ≤ y ∧ y ≤ 1000000
    · rw [if_neg (show ¬ ¬ (1 ≤ y ∧ y ≤ 1000000) from fun hh => hh g2), if_neg (show ¬ ¬ (1 ≤ y ∧ y ≤ 1000000) from fun hh => hh g2)]
      by_cases g3 : 1 ≤ z ∧ z ≤ 1000000
      · rw [if_neg (show ¬ ¬ (1 ≤ z ∧ z ≤ 1000000) from fun hh => hh g3), if_neg (show ¬ ¬ (1 ≤ z ∧ z ≤ 1000000) from fun hh => hh g3), Option.bind_some, if_neg (show ¬ b2i true = 0 by decide)]
        obtain ⟨c, hc, rfl⟩ : ∃ c : Nat, c < aC q ∧ x = c := ⟨x.toNat, by omega, by omega⟩
        obtain ⟨n, hn, rfl⟩ : ∃ n : Nat, (1 ≤ n ∧ n ≤ 1000000) ∧ y = n := ⟨y.toNat, by omega, by omega⟩
        obtain ⟨d, hd, rfl⟩ : ∃ d : Nat, (1 ≤ d ∧ d ≤ 1000000) ∧ z = d := ⟨z.toNat, by omega, by omega⟩
        by_cases k : w < 0
        · obtain ⟨T, fi, g1', g2', g3', g4', g5'⟩ := fw_all hQ hC hM hD hc hn hd (z := -1) (by omega) (by omega) S fuel fuel 0 0 gx.2.2.2.2.2.2.2.2.2.2.2.2.1 m24 m25 (by omega) (by unfold fuel; omega) (by unfold fuel; omega) (by omega)
          rw [if_pos k, i2l_iI b2, i2l_iI b3, ← nI_iI c]
          have h1 : f_X2_findWays gx gc (nI c) (lI n) (lI d) = some (nI T, fi) := g1'
          rw [h1, Option.bind_some, Option.bind_some, if_pos k]
          exact ⟨_, _, rfl, rfl, rfl, fin (_, _)⟩
        · obtain ⟨T, fi, g1', g2', g3', g4', g5'⟩ := fw_all hQ hC hM hD hc hn hd (z := w) b4 (by omega) S fuel fuel 0 0 gx.2.2.2.2.2.2.2.2.2.2.2.2.1 m24 m25 (by omega) (by unfold fuel; omega) (by unfold fuel; omega) (by omega)
          obtain ⟨u1, u2, g6⟩ := g5' (by omega)
          rw [if_neg k] at g6
          rw [if_neg k, i2l_iI b2, i2l_iI b3, ← nI_iI c]
          have h1 : f_X2_findWays gx gc (nI c) (lI n) (lI d) = some (nI T, fi) := g1'
          have h2 : f_X3_ways m0 m1 m18 m19 m24 m25 (nI c) (iI n) (iI d) (iI w) = some (if w < (T : Int) then fi w.toNat else (-1), u1, u2) := g6
          have h3 : (nI T ≤ iI w) = ((T : Int) ≤ w) := by rw [nI_iI]; exact leE (by omega) b4
          rw [h1, h2, Option.bind_some, Option.bind_some, Option.bind_some, if_neg k]
          simp only [h3]
          by_cases k2 : w < (T : Int)
          · rw [if_neg (show ¬ (T : Int) ≤ w by omega), if_pos k2]
            obtain ⟨l, hl, rfl⟩ : ∃ l : Nat, l < 100 ∧ w = l := ⟨w.toNat, by omega, by omega⟩
            rw [← nI_iI l, gd_t _ (ib_nI hl (by omega)), cl_nI (by omega)]
            exact ⟨_, _, rfl, rfl, rfl, fin (_, _)⟩
          · rw [if_pos (show (T : Int) ≤ w by omega), if_neg k2]
            exact ⟨_, _, rfl, rfl, rfl, fin (_, _)⟩
      · rw [if_pos (show ¬ (1 ≤ z ∧ z ≤ 1000000) from g3), if_pos (show ¬ (1 ≤ z ∧ z ≤ 1000000) from g3), Option.bind_some, Option.bind_some, if_pos (show b2i false = 0 by decide)]
        simp only [e6, none1]
        exact ⟨_, _, rfl, rfl, rfl, fin (_, _)⟩
    · rw [if_pos (show ¬ (1 ≤ y ∧ y ≤ 1000000) from g2), if_pos (show ¬ (1 ≤ y ∧ y ≤ 1000000) from g2), Option.bind_some, Option.bind_some, if_pos (show b2i false = 0 by decide)]
      simp only [e6, none1]
      exact ⟨_, _, rfl, rfl, rfl, fin (_, _)⟩
  · rw [if_pos (show ¬ (0 ≤ x ∧ x < (aC q : Int)) from g1), if_pos (show ¬ (0 ≤ x ∧ x < (aC q : Int)) from g1), Option.bind_some]
    simp only [e6, none1]
    exact ⟨_, _, rfl, rfl, rfl, fin (_, _)⟩
end PARTS
