/-! the reference's way to the greatest common divisor, and its fractions -/
theorem cm_exit (rec : Int64 → Int64 → Option Int64) (a : Nat) : f_X3_commonB rec (lN a) (lN 0) = some (lN a) := by
  unfold f_X3_commonB
  rw [if_neg (fun q => q ((lg_cmp_eq (lN 0) 0).mpr rfl))]
theorem cm_next (rec : Int64 → Int64 → Option Int64) {a b : Nat} (ha : a < 4611686018427387904) (hb : b < 4611686018427387904) (h0 : 0 < b) : f_X3_commonB rec (lN a) (lN b) = rec (lN b) (lN (a % b)) := by
  have hne : ¬ lN b = 0 := by
    rw [show (0 : Int64) = lN 0 from rfl, pk_lEQ (by omega) (by omega)]
    omega
  unfold f_X3_commonB
  rw [if_pos (fun q => hne ((lg_cmp_eq _ _).mp q)), gd_t _ (show nzL (lN b) = true from decide_eq_true hne), pk_lRem (by omega) h0 (by omega)]
  cases rec (lN b) (lN (a % b)) <;> rfl
theorem cm_N : ∀ (k n a b : Nat), b < 2 ^ k → a < 4611686018427387904 → b < 4611686018427387904 → 2 * k + 2 ≤ n → f_X3_commonN n (lN a) (lN b) = some (lN (Nat.gcd a b)) := by
  intro k
  induction k with
  | zero =>
    intro n a b hb ha hb2 hn
    obtain rfl : b = 0 := by simpa using hb
    obtain ⟨n, rfl⟩ : ∃ n', n = n' + 1 := ⟨n - 1, by omega⟩
    rw [Nat.gcd_zero_right]
    exact cm_exit _ a
  | succ k ih =>
    intro n a b hb ha hb2 hn
    obtain ⟨n, rfl⟩ : ∃ n', n = n' + 1 + 1 := ⟨n - 2, by omega⟩
    rcases Nat.eq_zero_or_pos b with rfl | h0
    · rw [Nat.gcd_zero_right]
      exact cm_exit _ a
    · show f_X3_commonB (f_X3_commonN (n + 1)) _ _ = _
      rw [cm_next _ ha hb2 h0]
      have hm : a % b < b := Nat.mod_lt _ h0
      have hg : Nat.gcd a b = Nat.gcd b (a % b) := by rw [Nat.gcd_comm a b, Nat.gcd_rec b a, Nat.gcd_comm]
      rw [hg]
      show f_X3_commonB (f_X3_commonN n) _ _ = _
      rcases Nat.eq_zero_or_pos (a % b) with h1 | h1
      · rw [h1, Nat.gcd_zero_right]
        exact cm_exit _ b
      · rw [cm_next _ hb2 (by omega) h1]
        have hg2 : Nat.gcd b (a % b) = Nat.gcd (a % b) (b % (a % b)) := by rw [Nat.gcd_comm b, Nat.gcd_rec (a % b) b, Nat.gcd_comm]
        rw [hg2]
        have h2 := Nat.mod_lt b h1
        exact ih n (a % b) (b % (a % b)) (eu_half h1 hb) (by omega) (by omega) (by omega)
/-- the fraction in lowest terms -/
def rN (a b : Int) : Int := a / (Int.gcd a b : Int)
def rD (a b : Int) : Int := b / (Int.gcd a b : Int)
theorem gcd_pos {a b : Int} (hb : 0 < b) : 0 < (Int.gcd a b : Int) := by
  have := Int.gcd_pos_of_ne_zero_right a (show b ≠ 0 by omega)
  omega
theorem gcd_le {a b : Int} (hb : 0 < b) : (Int.gcd a b : Int) ≤ b := Int.le_of_dvd hb (Int.gcd_dvd_right a b)
theorem rN_mul (a b : Int) : rN a b * (Int.gcd a b : Int) = a := Int.ediv_mul_cancel (Int.gcd_dvd_left a b)
theorem rD_mul (a b : Int) : rD a b * (Int.gcd a b : Int) = b := Int.ediv_mul_cancel (Int.gcd_dvd_right a b)
theorem rD_pos {a b : Int} (hb : 0 < b) : 0 < rD a b := by
  have h1 := rD_mul a b
  have h2 := gcd_pos (a := a) hb
  rcases Int.lt_or_le 0 (rD a b) with h | h
  · exact h
  · have := Int.mul_nonpos_of_nonpos_of_nonneg h (Int.le_of_lt h2)
    omega
theorem tdiv_ex {a g : Int} (h : g ∣ a) : a.tdiv g = a / g := by
  obtain ⟨c, rfl⟩ := h
  by_cases hg : g = 0
  · subst hg; simp
  · rw [Int.mul_tdiv_cancel_left _ hg, Int.mul_ediv_cancel_left _ hg]
theorem natAbs_rN (a b : Int) : (rN a b).natAbs ≤ a.natAbs := by
  unfold rN
  exact Int.natAbs_ediv_le_natAbs a _
theorem rD_le {a b : Int} (hb : 0 < b) : rD a b ≤ b := Int.ediv_le_self _ (Int.le_of_lt hb)
theorem red_cop {a b : Int} (hb : 0 < b) : Int.gcd (rN a b) (rD a b) = 1 := by
  unfold rN rD
  exact Int.gcd_ediv_gcd_ediv_gcd (by have := Int.gcd_pos_of_ne_zero_right a (show b ≠ 0 by omega); omega)
/-- a common factor doesn't matter -/
theorem rN_scale {a b k : Int} (hk : 0 < k) : rN (a * k) (b * k) = rN a b := by
  unfold rN
  rw [Int.gcd_mul_right, Int.natCast_mul, Int.natAbs_of_nonneg (Int.le_of_lt hk), Int.mul_ediv_mul_of_pos_left _ _ hk]
theorem rD_scale {a b k : Int} (hk : 0 < k) : rD (a * k) (b * k) = rD a b := by
  unfold rD
  rw [Int.gcd_mul_right, Int.natCast_mul, Int.natAbs_of_nonneg (Int.le_of_lt hk), Int.mul_ediv_mul_of_pos_left _ _ hk]
theorem red_id {a b : Int} (hg : Int.gcd a b = 1) : rN a b = a ∧ rD a b = b := by
  unfold rN rD
  rw [hg]
  exact ⟨Int.ediv_one a, Int.ediv_one b⟩
theorem cop_add {a b k : Int} (hg : Int.gcd a b = 1) : Int.gcd (a + k * b) b = 1 := by
  rw [Int.gcd_add_mul_right_left]
  exact hg
theorem lt_0lI {a : Int} (h : B63 a) : (0 : Int64) < lI a ↔ 0 < a := by
  rw [show (0 : Int64) = lI 0 from rfl, lI_lt (by omega) h]
theorem abs_lI {a : Int} (h : B63 a) (h2 : -9223372036854775808 < a) : (if 0 < lI a then lI a else -lI a) = lN a.natAbs := by
  by_cases h3 : 0 < a
  · rw [if_pos ((lt_0lI h).mpr h3), abs_pos_lI (by omega)]
  · rw [if_neg (fun q => h3 ((lt_0lI h).mp q)), lI_neg, lN_lI]
    congr 1
    omega
theorem mk_ok {a b : Int} (ha : a.natAbs < 9007199254740992) (hb : 0 < b) (hb2 : b < 9007199254740992) : f_X3_make (lI a) (lI b) = some (lI (rN a b), lI (rD a b)) := by
  have hg := gcd_pos (a := a) hb
  have hgl := gcd_le (a := a) hb
  have hz : B63 (0 : Int) := by omega
  have key : f_X3_common (lN a.natAbs) (lN b.natAbs) = some (lI (Int.gcd a b)) := by
    unfold f_X3_common
    rw [cm_N 53 120 a.natAbs b.natAbs (by omega) (by omega) (by omega) (by omega), lN_lI]
    rfl
  unfold f_X3_make
  rw [abs_lI (by omega) (by omega), abs_lI (show B63 b by omega) (by omega), key]
  show (if (0 : Int32) ≤ lg_cmp (lI b) 0 then _ else _) = _
  rw [if_pos ((cmp_ge0 (by omega)).mpr (by omega)), gd_t _ (nzL_t (by omega) (by omega))]
  unfold f_X3_make_J32 bnd
  rw [gd_t _ (nzL_t (by omega) (by omega)), abs_lI (show B63 b by omega) (by omega), ← abs_pos_lI (show 0 ≤ b by omega), lI_div (by omega) (by omega), lI_div (by omega) (by omega), tdiv_ex (Int.gcd_dvd_left a b), tdiv_ex (Int.gcd_dvd_right a b)]
  rfl
