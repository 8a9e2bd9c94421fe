/-! numbers: longs and ints as whole numbers; the two ways to the greatest common divisor -/
def lI (z : Int) : Int64 := Int64.ofInt z
def iI (z : Int) : Int32 := Int32.ofInt z
abbrev B63 (z : Int) : Prop := -9223372036854775808 ≤ z ∧ z < 9223372036854775808
abbrev B31 (z : Int) : Prop := -2147483648 ≤ z ∧ z < 2147483648
theorem lI_of (x : Int64) : lI x.toInt = x := Int64.ofInt_toInt x
theorem iI_of (x : Int32) : iI x.toInt = x := Int32.ofInt_toInt x
theorem lI_add (a b : Int) : lI a + lI b = lI (a + b) := (Int64.ofInt_add a b).symm
theorem lI_sub (a b : Int) : lI a - lI b = lI (a - b) := (Int64.ofInt_sub a b).symm
theorem lI_mul (a b : Int) : lI a * lI b = lI (a * b) := (Int64.ofInt_mul a b).symm
theorem lI_neg (a : Int) : -lI a = lI (-a) := (Int64.ofInt_neg a).symm
theorem iI_add (a b : Int) : iI a + iI b = iI (a + b) := (Int32.ofInt_add a b).symm
theorem iI_sub (a b : Int) : iI a - iI b = iI (a - b) := (Int32.ofInt_sub a b).symm
theorem iI_mul (a b : Int) : iI a * iI b = iI (a * b) := (Int32.ofInt_mul a b).symm
theorem iI_neg (a : Int) : -iI a = iI (-a) := (Int32.ofInt_neg a).symm
theorem lI_t {z : Int} (h : B63 z) : (lI z).toInt = z := Int64.toInt_ofInt_of_le (by omega) (by omega)
theorem iI_t {z : Int} (h : B31 z) : (iI z).toInt = z := Int32.toInt_ofInt_of_le (by omega) (by omega)
theorem B63_of (x : Int64) : B63 x.toInt := by
  have h1 := Int64.le_toInt x
  have h2 := Int64.toInt_lt x
  omega
theorem B31_of (x : Int32) : B31 x.toInt := by
  have h1 := Int32.le_toInt x
  have h2 := Int32.toInt_lt x
  omega
theorem lI_le {a b : Int} (ha : B63 a) (hb : B63 b) : lI a ≤ lI b ↔ a ≤ b := by rw [Int64.le_iff_toInt_le, lI_t ha, lI_t hb]
theorem lI_lt {a b : Int} (ha : B63 a) (hb : B63 b) : lI a < lI b ↔ a < b := by rw [Int64.lt_iff_toInt_lt, lI_t ha, lI_t hb]
theorem lI_eq {a b : Int} (ha : B63 a) (hb : B63 b) : lI a = lI b ↔ a = b := by rw [← Int64.toInt_inj, lI_t ha, lI_t hb]
theorem iI_le {a b : Int} (ha : B31 a) (hb : B31 b) : iI a ≤ iI b ↔ a ≤ b := by rw [Int32.le_iff_toInt_le, iI_t ha, iI_t hb]
theorem iI_lt {a b : Int} (ha : B31 a) (hb : B31 b) : iI a < iI b ↔ a < b := by rw [Int32.lt_iff_toInt_lt, iI_t ha, iI_t hb]
theorem iI_eq {a b : Int} (ha : B31 a) (hb : B31 b) : iI a = iI b ↔ a = b := by rw [← Int32.toInt_inj, iI_t ha, iI_t hb]
theorem lI_div {a b : Int} (ha : B63 a) (hb : B63 b) : lI a / lI b = lI (a.tdiv b) := (Int64.ofInt_tdiv (by have : Int64.minValue.toInt = -9223372036854775808 := by decide
                                                                                                            omega) (by have : Int64.maxValue.toInt = 9223372036854775807 := by decide
                                                                                                                       omega) (by have : Int64.minValue.toInt = -9223372036854775808 := by decide
                                                                                                                                  omega) (by have : Int64.maxValue.toInt = 9223372036854775807 := by decide
                                                                                                                                             omega)).symm
theorem i2l_of (x : Int32) : x.toInt64 = lI x.toInt := (Int64.ofInt_int32ToInt x).symm
theorem i2l_iI {z : Int} (h : B31 z) : (iI z).toInt64 = lI z := by rw [i2l_of, iI_t h]
theorem l2i_lI (z : Int) : (lI z).toInt32 = iI z := Int64.toInt32_ofInt
theorem nI_iI (n : Nat) : nI n = iI n := (Int32.ofInt_eq_ofNat (n := n)).symm
theorem lN_lI (n : Nat) : lN n = lI n := (Int64.ofInt_eq_ofNat (n := n)).symm
theorem iI_clamp {n : Nat} (h : n < 2147483648) : (iI n).toNatClampNeg = n := by rw [← nI_iI]; exact nI_clamp (by omega)
theorem ib_nI {j n : Nat} (h : j < n) (hn : n < 2147483648) : ib (nI j) n = true := decide_eq_true (vp_in_nI h (by omega))
theorem cl_nI {j : Nat} (h : j < 2147483648) : (nI j).toNatClampNeg = j := nI_clamp (by omega)
theorem ib_of {x : Int32} {n : Nat} (h : ib x n = true) (hn : n < 2147483648) : ∃ j, j < n ∧ x = nI j := vp_in_of (ib_in h) (by omega)
theorem b2i_0 (b : Bool) : b2i b = 0 ↔ b = false := by cases b <;> decide
theorem b2i_ne (b : Bool) : ¬ b2i b = 0 ↔ b = true := by cases b <;> decide
theorem nzL_t {z : Int} (h : B63 z) (h0 : z ≠ 0) : nzL (lI z) = true := decide_eq_true (by
  rw [show (0 : Int64) = lI 0 from rfl, lI_eq h (by omega)]
  exact h0)
theorem nzI_t {z : Int} (h : B31 z) (h0 : z ≠ 0) : nzI (iI z) = true := decide_eq_true (by
  rw [show (0 : Int32) = iI 0 from rfl, iI_eq h (by omega)]
  exact h0)
theorem cmp_ge0 {a : Int} (h : B63 a) : (0 : Int32) ≤ lg_cmp (lI a) 0 ↔ 0 ≤ a := by
  rw [lg_cmp_ge, show (0 : Int64) = lI 0 from rfl, lI_le (by omega) h]
/-! Euclid's steps halve -/
theorem eu_half {a b k : Nat} (hr : 0 < a % b) (hb : b < 2 ^ (k + 1)) : b % (a % b) < 2 ^ k := by
  rcases Nat.eq_zero_or_pos b with h | hb0
  · subst h
    rw [Nat.zero_mod]
    exact Nat.two_pow_pos k
  have h1 : a % b < b := Nat.mod_lt _ hb0
  have h2 : b % (a % b) < a % b := Nat.mod_lt _ hr
  have h3 := Nat.div_add_mod b (a % b)
  have h4 : 1 ≤ b / (a % b) := (Nat.one_le_div_iff hr).mpr (Nat.le_of_lt h1)
  have h5 : a % b ≤ (a % b) * (b / (a % b)) := Nat.le_mul_of_pos_right _ h4
  rw [Nat.pow_succ] at hb
  omega
/-! the class's loop -/
theorem co_exit (rec : Int64 → Int64 → Int32 → Option Int64) {a i : Nat} (ha : a < 4611686018427387904) (hi : i < 200) : f_X2_commonOf_B31 rec (lN a) (lN 0) (nI i) = some (lN (if a = 0 then 1 else a)) := by
  unfold f_X2_commonOf_B31 f_X2_commonOf_J67
  rw [if_neg (show ¬ (200 : Int32) ≤ nI i from nI_ge (a := i) (b := 200) hi (by decide)), if_pos ((lg_cmp_eq (lN 0) 0).mpr rfl)]
  by_cases h : a = 0
  · subst h
    rw [if_pos ((lg_cmp_le (lN 0) 0).mpr (by decide)), if_pos rfl]
    rfl
  · rw [if_neg (fun q => h (by
      have := (lg_cmp_le _ _).mp q
      rw [show (0 : Int64) = lN 0 from rfl, pk_lLE (by omega) (by omega)] at this
      omega)), if_neg h]
theorem co_next (rec : Int64 → Int64 → Int32 → Option Int64) {a b i : Nat} (ha : a < 4611686018427387904) (hb : b < 4611686018427387904) (h0 : 0 < b) (hi : i < 200) : f_X2_commonOf_B31 rec (lN a) (lN b) (nI i) = rec (lN b) (lN (a % b)) (nI (i + 1)) := by
  have hne : ¬ lN b = 0 := by
    rw [show (0 : Int64) = lN 0 from rfl, pk_lEQ (by omega) (by omega)]
    omega
  unfold f_X2_commonOf_B31 bnd
  rw [if_neg (show ¬ (200 : Int32) ≤ nI i from nI_ge (a := i) (b := 200) hi (by decide)), if_neg (fun q => hne ((lg_cmp_eq _ _).mp q)), gd_t _ (show nzL (lN b) = true from decide_eq_true hne), pk_lRem (by omega) h0 (by omega), nI_1]
theorem co_L : ∀ (k n a b i : Nat), b < 2 ^ k → a < 4611686018427387904 → b < 4611686018427387904 → i + 2 * k + 1 ≤ 200 → 2 * k + 2 ≤ n → f_X2_commonOf_L31 n (lN a) (lN b) (nI i) = some (lN (if Nat.gcd a b = 0 then 1 else Nat.gcd a b)) := by
  intro k
  induction k with
  | zero =>
    intro n a b i hb ha hb2 hi hn
    obtain rfl : b = 0 := by simpa using hb
    obtain ⟨n, rfl⟩ : ∃ n', n = n' + 1 := ⟨n - 1, by omega⟩
    rw [Nat.gcd_zero_right]
    exact co_exit _ ha (by omega)
  | succ k ih =>
    intro n a b i hb ha hb2 hi hn
    obtain ⟨n, rfl⟩ : ∃ n', n = n' + 1 + 1 := ⟨n - 2, by omega⟩
    rcases Nat.eq_zero_or_pos b with rfl | h0
    · rw [Nat.gcd_zero_right]
      exact co_exit _ ha (by omega)
    · show f_X2_commonOf_B31 (f_X2_commonOf_L31 (n + 1)) _ _ _ = _
      rw [co_next _ ha hb2 h0 (by omega)]
      have hm : a % b < b := Nat.mod_lt _ h0
      have hg : Nat.gcd a b = Nat.gcd b (a % b) := by rw [Nat.gcd_comm a b, Nat.gcd_rec b a, Nat.gcd_comm]
      rw [hg]
      show f_X2_commonOf_B31 (f_X2_commonOf_L31 n) _ _ _ = _
      rcases Nat.eq_zero_or_pos (a % b) with h1 | h1
      · rw [h1, Nat.gcd_zero_right]
        exact co_exit _ hb2 (by omega)
      · rw [co_next _ hb2 (by omega) h1 (by omega)]
        have hg2 : Nat.gcd b (a % b) = Nat.gcd (a % b) (b % (a % b)) := by rw [Nat.gcd_comm b, Nat.gcd_rec (a % b) b, Nat.gcd_comm]
        rw [hg2]
        have h2 := Nat.mod_lt b h1
        exact ih n (a % b) (b % (a % b)) (i + 1 + 1) (eu_half h1 hb) (by omega) (by omega) (by omega) (by omega)
theorem abs_neg_lI {a : Int} (h : B63 a) (h2 : a < 0) : -lI a = lN a.natAbs := by
  rw [lI_neg, lN_lI]
  congr 1
  omega
theorem abs_pos_lI {a : Int} (h2 : 0 ≤ a) : lI a = lN a.natAbs := by
  rw [lN_lI]
  congr 1
  omega
theorem co_ok {a b : Int} (ha : a.natAbs < 9007199254740992) (hb : 0 < b) (hb2 : b < 9007199254740992) : f_X2_commonOf (lI a) (lI b) = some (lI (Int.gcd a b)) := by
  have hg : 0 < Int.gcd a b := Int.gcd_pos_of_ne_zero_right a (by omega)
  have key : f_X2_commonOf_L31 fuel (lN a.natAbs) (lN b.natAbs) 0 = some (lI (Int.gcd a b)) := by
    have h1 := co_L 53 fuel a.natAbs b.natAbs 0 (by omega) (by omega) (by omega) (by omega) (by unfold fuel; omega)
    rw [show (0 : Int32) = nI 0 from rfl, h1]
    have h2 : Nat.gcd a.natAbs b.natAbs = Int.gcd a b := rfl
    rw [h2, if_neg (by omega), lN_lI]
  have hz : B63 (0 : Int) := by omega
  have hB : (0 : Int32) ≤ lg_cmp (lI b) 0 := (cmp_ge0 (by omega)).mpr (by omega)
  unfold f_X2_commonOf
  by_cases h : 0 ≤ a
  · rw [if_pos ((cmp_ge0 (by omega)).mpr h)]
    unfold f_X2_commonOf_J12
    rw [if_pos hB]
    unfold f_X2_commonOf_J26
    rw [abs_pos_lI h, abs_pos_lI (show 0 ≤ b by omega)]
    exact key
  · rw [if_neg (fun q => h ((cmp_ge0 (by omega)).mp q))]
    unfold f_X2_commonOf_J12
    rw [if_pos hB]
    unfold f_X2_commonOf_J26
    rw [abs_neg_lI (by omega) (by omega), abs_pos_lI (show 0 ≤ b by omega)]
    exact key
