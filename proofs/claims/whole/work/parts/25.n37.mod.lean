/-! how the reference holds it, and its event -/
section MOD
def bI (b : Bool) : Int := if b then 1 else 0
def MRep (q : AC) (m0 m1 m2 m3 : Ar) (m4 : Int32) (m5 : Ar) (m6 : Int32) : Prop := m4 = nI (aC q) ∧ m6 = nI (aL q) ∧ (∀ i, i < 4 → m0 i = iI (aLo q i) ∧ m1 i = iI (aHi q i) ∧ m2 i = iI (aRi q i) ∧ m3 i = iI (aFa q i)) ∧
  (∀ k, k < aL q → m5 (6 * k) = nI (aFr q k) ∧ m5 (6 * k + 1) = nI (aAt q k) ∧ m5 (6 * k + 2) = nI (aNt q k) ∧ m5 (6 * k + 3) = nI (aTo q k) ∧ m5 (6 * k + 4) = nI (aAc q k) ∧ m5 (6 * k + 5) = iI (aBy q k))
def VRow (v : AV) (r : Al) : Prop := (∀ i, i < 4 → r (2 * i) = lI (vN v i) ∧ r (2 * i + 1) = lI (vD v i) ∧ r (8 + i) = lI (bI (vF v i))) ∧ ∀ k, k < 8 → r (12 + k) = lI (vK v k)
theorem uL_def (f : Al) (k : Nat) (x : Int64) (j : Nat) : vp_updL f k x j = if j = k then x else f j := rfl
theorem ix0 (i : Nat) : 0 + (2 * nI i) = nI (2 * i) := by rw [show (2 : Int32) = nI 2 from rfl, pk_mul, show (0 : Int32) = nI 0 from rfl, nI_add, Nat.zero_add]
theorem ix1 (i : Nat) : nI (2 * i) + 1 = nI (2 * i + 1) := nI_1 _
theorem ix8 (i : Nat) : 8 + nI i = nI (8 + i) := nI_add 8 i
theorem ix12 (i : Nat) : 12 + nI i = nI (12 + i) := nI_add 12 i
theorem VRow.upND {v : AV} {r : Al} (h : VRow v r) {t : Nat} (ht : t < 4) (x y : Int) : VRow (up (vN v) t x, up (vD v) t y, vF v, vK v) (vp_updL (vp_updL r (2 * t) (lI x)) (2 * t + 1) (lI y)) := by
  refine ⟨fun i hi => ?_, fun k hk => ?_⟩
  · obtain ⟨h1, h2, h3⟩ := h.1 i hi
    rw [uL_def, uL_def, uL_def, uL_def, uL_def, uL_def, if_neg (show ¬ 2 * i = 2 * t + 1 by omega), if_neg (show ¬ 2 * i + 1 = 2 * t by omega), if_neg (show ¬ 8 + i = 2 * t + 1 by omega), if_neg (show ¬ 8 + i = 2 * t by omega)]
    by_cases e : i = t
    · subst e
      rw [if_pos rfl, if_pos rfl]
      exact ⟨congrArg lI (up_s _ _ _).symm, congrArg lI (up_s _ _ _).symm, h3⟩
    · rw [if_neg (show ¬ 2 * i = 2 * t by omega), if_neg (show ¬ 2 * i + 1 = 2 * t + 1 by omega), h1, h2]
      exact ⟨congrArg lI (up_n e).symm, congrArg lI (up_n e).symm, h3⟩
  · rw [uL_def, uL_def, if_neg (by omega), if_neg (by omega)]
    exact h.2 k hk
theorem VRow.upF {v : AV} {r : Al} (h : VRow v r) {t : Nat} (ht : t < 4) (b : Bool) : VRow (vN v, vD v, up (vF v) t b, vK v) (vp_updL r (8 + t) (lI (bI b))) := by
  refine ⟨fun i hi => ?_, fun k hk => ?_⟩
  · obtain ⟨h1, h2, h3⟩ := h.1 i hi
    rw [uL_def, uL_def, uL_def, if_neg (show ¬ 2 * i = 8 + t by omega), if_neg (show ¬ 2 * i + 1 = 8 + t by omega)]
    by_cases e : i = t
    · subst e
      rw [if_pos rfl]
      exact ⟨h1, h2, congrArg (fun z => lI (bI z)) (up_s _ _ _).symm⟩
    · rw [if_neg (by omega), h3]
      exact ⟨h1, h2, congrArg (fun z => lI (bI z)) (up_n e).symm⟩
  · rw [uL_def, if_neg (by omega)]
    exact h.2 k hk
theorem VRow.upK {v : AV} {r : Al} (h : VRow v r) {t : Nat} (ht : t < 8) (x : Nat) {y : Int64} (hy : y = lI x) : VRow (vN v, vD v, vF v, up (vK v) t x) (vp_updL r (12 + t) y) := by
  refine ⟨fun i hi => ?_, fun k hk => ?_⟩
  · obtain ⟨h1, h2, h3⟩ := h.1 i hi
    rw [uL_def, uL_def, uL_def, if_neg (by omega), if_neg (by omega), if_neg (by omega)]
    exact ⟨h1, h2, h3⟩
  · rw [uL_def]
    by_cases e : k = t
    · subst e
      rw [if_pos rfl, hy]
      exact congrArg (fun z : Nat => lI (z : Int)) (up_s _ _ _).symm
    · rw [if_neg (by omega), h.2 k hk]
      exact congrArg (fun z : Nat => lI (z : Int)) (up_n e).symm
theorem VRow.keep {v : AV} {r r2 : Al} (h : VRow v r) (hr : ∀ j, j < 20 → r2 j = r j) : VRow v r2 := ⟨fun i hi => by rw [hr _ (by omega), hr _ (by omega), hr _ (by omega)]; exact h.1 i hi, fun k hk => by rw [hr _ (by omega)]; exact h.2 k hk⟩
theorem isf_ok {v : AV} {r : Al} (h : VRow v r) {i : Nat} (hi : i < 4) : f_X3_isFilling r (nI i) = some (vF v i) := by
  unfold f_X3_isFilling
  rw [ix8, gd_t _ (ib_nI (show 8 + i < 31 by omega) (by omega)), cl_nI (by omega), (h.1 i hi).2.2]
  cases vF v i with
  | true => rw [if_neg (fun q => q ((lg_cmp_eq (lI (bI true)) 1).mpr rfl))]
  | false => rw [if_pos (fun q => absurd ((lg_cmp_eq (lI (bI false)) 1).mp q) (by decide))]
theorem st_ok (r : Al) (x y : Int64) {j : Nat} (hj : j < 30) : f_X3_store r x y (nI j) = some (vp_updL (vp_updL r j x) (j + 1) y) := by
  unfold f_X3_store
  rw [gd_t _ (ib_nI (show j < 31 by omega) (by omega)), nI_1, gd_t _ (ib_nI (show j + 1 < 31 by omega) (by omega)), cl_nI (by omega), cl_nI (by omega)]
theorem wo_ok {q : AC} {v : AV} {m0 m1 m2 m3 m5 : Ar} {m4 m6 : Int32} {r : Al} (hQ : QOK q) (hM : MRep q m0 m1 m2 m3 m4 m5 m6) (hV : VRow v r) (hB : VB q v 1000000 1000000) {i : Nat} (hi : i < aC q) :
    f_X3_waitOf m0 m1 m2 m3 r (nI i) = some (lI (rN (aWay q v i) (aSpd q v i)), lI (rD (aWay q v i) (aSpd q v i))) := by
  have hC4 := hQ.1
  have hi4 : i < 4 := by omega
  obtain ⟨hn, hd, -⟩ := hV.1 i hi4
  obtain ⟨c1, c2, c3, c4⟩ := hM.2.2.1 i hi4
  obtain ⟨b1, b2, b3, b4⟩ := hQ.2.2.1 i hi4
  have hw := way_b hQ hB hi4
  have hs := spd_b hQ hB hi
  have hcl : (nI i).toNatClampNeg = i := cl_nI (by omega)
  unfold f_X3_waitOf
  simp only [bnd]
  rw [ix0, ix1, gd_t _ (ib_nI (show 2 * i < 31 by omega) (by omega)), gd_t _ (ib_nI (show 2 * i + 1 < 31 by omega) (by omega)), cl_nI (show 2 * i < 2147483648 by omega), cl_nI (show 2 * i + 1 < 2147483648 by omega), isf_ok hV hi4, hn, hd, gd_t _ (ib_nI hi4 (by omega)), hcl, c1, c2, c3, c4, i2l_iI (by omega), i2l_iI (by omega), i2l_iI (by omega), i2l_iI (by omega), lI_mul, lI_mul, lI_mul, lI_mul, lI_sub, lI_sub]
  show (if b2i (vF v i) = 0 then _ else _) = _
  have e1 : aWay q v i = if vF v i then aHi q i * vD v i - vN v i else vN v i - aLo q i * vD v i := rfl
  have e2 : aSpd q v i = vD v i * (if vF v i then aRi q i else aFa q i) := rfl
  cases hfl : vF v i with
  | true =>
    rw [hfl] at e1 e2
    rw [if_neg (show ¬ b2i true = 0 by decide), gd_t _ (ib_nI hi4 (by omega)), show aHi q i * vD v i - vN v i = aWay q v i from e1.symm, show vD v i * aRi q i = aSpd q v i from e2.symm, mk_ok (by omega) (by omega) (by omega)]
    rfl
  | false =>
    rw [hfl] at e1 e2
    rw [if_pos (show b2i false = 0 by decide), show vN v i - aLo q i * vD v i = aWay q v i from e1.symm, show vD v i * aFa q i = aSpd q v i from e2.symm, mk_ok (by omega) (by omega) (by omega)]
    rfl
/-- comparing lowered fractions is comparing them -/
theorem cross {a b c d g h : Int} (hg : 0 < g) (hh : 0 < h) : a * d < c * b ↔ (a * g) * (d * h) < (c * h) * (b * g) := by
  have e1 : (a * g) * (d * h) = (a * d) * (g * h) := by ac_rfl
  have e2 : (c * h) * (b * g) = (c * b) * (g * h) := by ac_rfl
  have hp : 0 < g * h := Int.mul_pos hg hh
  rw [e1, e2]
  exact ⟨fun q => Int.mul_lt_mul_of_pos_right q hp, fun q => Int.lt_of_mul_lt_mul_right q (Int.le_of_lt hp)⟩
theorem cross_red {w1 d1 w2 d2 : Int} (h1 : 0 < d1) (h2 : 0 < d2) : rN w1 d1 * rD w2 d2 < rN w2 d2 * rD w1 d1 ↔ w1 * d2 < w2 * d1 := by
  rw [cross (gcd_pos (a := w1) h1) (gcd_pos (a := w2) h2), rN_mul, rD_mul, rN_mul, rD_mul]
/-- the reference chooses -/
theorem mc_L {q : AC} {v : AV} {m0 m1 m2 m3 m5 : Ar} {m4 m6 : Int32} {r : Al} (hQ : QOK q) (hM : MRep q m0 m1 m2 m3 m4 m5 m6) (hV : VRow v r) (hB : VB q v 1000000 1000000) (m10 m11 : Ar) (m12 m13 : Al) (m14 : Int32) (r2 : Al) :
    ∀ (n m i b : Nat) (x y : Int64), i + n = aC q → b < aC q → n < m → ∃ x2 y2 : Int64, f_X3_step_L43 m0 m1 m2 m3 m4 m5 m6 r m10 m11 m12 m13 m14 r2 m (lI (rN (aWay q v b) (aSpd q v b))) (lI (rD (aWay q v b) (aSpd q v b))) (nI i) x y (nI b) =
      f_X3_step_L122 m0 m1 m2 m3 m4 m5 m6 m10 m11 m12 m13 m14 r2 (lI (rN (aWay q v (pick (aWay q v) (aSpd q v) n i b)) (aSpd q v (pick (aWay q v) (aSpd q v) n i b)))) (lI (rD (aWay q v (pick (aWay q v) (aSpd q v) n i b)) (aSpd q v (pick (aWay q v) (aSpd q v) n i b)))) (nI (pick (aWay q v) (aSpd q v) n i b)) (nI (aSide v (pick (aWay q v) (aSpd q v) n i b))) fuel 0 r x2 y2 := by
  have hC4 := hQ.1
  intro n
  induction n with
  | zero =>
    intro m i b x y hin hb hm
    obtain ⟨m, rfl⟩ : ∃ m', m = m' + 1 := ⟨m - 1, by omega⟩
    refine ⟨x, y, ?_⟩
    show f_X3_step_B43 m0 m1 m2 m3 m4 m5 m6 r m10 m11 m12 m13 m14 r2 (f_X3_step_L43 m0 m1 m2 m3 m4 m5 m6 r m10 m11 m12 m13 m14 r2 m) _ _ _ _ _ _ = _
    unfold f_X3_step_B43 f_X3_step_J116
    rw [if_pos (by rw [hM.1]; exact nI_le (by omega) (by omega)), isf_ok hV (show b < 4 by omega)]
    show (if b2i (vF v b) = 0 then _ else _) = f_X3_step_L122 m0 m1 m2 m3 m4 m5 m6 m10 m11 m12 m13 m14 r2 (lI (rN (aWay q v b) (aSpd q v b))) (lI (rD (aWay q v b) (aSpd q v b))) (nI b) (nI (aSide v b)) fuel 0 r x y
    unfold aSide
    cases vF v b <;> rfl
  | succ n ih =>
    intro m i b x y hin hb hm
    obtain ⟨m, rfl⟩ : ∃ m', m = m' + 1 := ⟨m - 1, by omega⟩
    have hi : i < aC q := by omega
    have s1 := spd_b hQ hB hi
    have s2 := spd_b hQ hB hb
    have w1 := way_b hQ hB (show i < 4 by omega)
    have w2 := way_b hQ hB (show b < 4 by omega)
    have k1 := natAbs_rN (aWay q v i) (aSpd q v i)
    have k2 := natAbs_rN (aWay q v b) (aSpd q v b)
    have l1 := rD_le (a := aWay q v i) (b := aSpd q v i) (by omega)
    have l2 := rD_le (a := aWay q v b) (b := aSpd q v b) (by omega)
    have p1 := rD_pos (a := aWay q v i) (b := aSpd q v i) (by omega)
    have p2 := rD_pos (a := aWay q v b) (b := aSpd q v b) (by omega)
    have hlt : lg_cmp (lI (rN (aWay q v i) (aSpd q v i)) * lI (rD (aWay q v b) (aSpd q v b))) (lI (rN (aWay q v b) (aSpd q v b)) * lI (rD (aWay q v i) (aSpd q v i))) < 0 ↔ aWay q v i * aSpd q v b < aWay q v b * aSpd q v i := by
      rw [lI_mul, lI_mul, lg_cmp_lt, lI_lt (B63_nb (nb_mul (M := 51000000) (N := 60000000) (by omega) (by omega)) (by decide)) (B63_nb (nb_mul (M := 51000000) (N := 60000000) (by omega) (by omega)) (by decide))]
      exact cross_red (by omega) (by omega)
    have hstep : ∀ x y : Int64, f_X3_step_L43 m0 m1 m2 m3 m4 m5 m6 r m10 m11 m12 m13 m14 r2 (m + 1) (lI (rN (aWay q v b) (aSpd q v b))) (lI (rD (aWay q v b) (aSpd q v b))) (nI i) x y (nI b) = if aWay q v i * aSpd q v b < aWay q v b * aSpd q v i then f_X3_step_L43 m0 m1 m2 m3 m4 m5 m6 r m10 m11 m12 m13 m14 r2 m (lI (rN (aWay q v i) (aSpd q v i))) (lI (rD (aWay q v i) (aSpd q v i))) (nI (i + 1)) (lI (rN (aWay q v i) (aSpd q v i))) (lI (rD (aWay q v i) (aSpd q v i))) (nI i) else f_X3_step_L43 m0 m1 m2 m3 m4 m5 m6 r m10 m11 m12 m13 m14 r2 m (lI (rN (aWay q v b) (aSpd q v b))) (lI (rD (aWay q v b) (aSpd q v b))) (nI (i + 1)) (lI (rN (aWay q v i) (aSpd q v i))) (lI (rD (aWay q v i) (aSpd q v i))) (nI b) := by
      intro x y
      show f_X3_step_B43 m0 m1 m2 m3 m4 m5 m6 r m10 m11 m12 m13 m14 r2 (f_X3_step_L43 m0 m1 m2 m3 m4 m5 m6 r m10 m11 m12 m13 m14 r2 m) _ _ _ _ _ _ = _
      unfold f_X3_step_B43 f_X3_step_J93
      rw [if_neg (by rw [hM.1]; exact nI_ge hi (by omega)), wo_ok hQ hM hV hB hi, nI_1]
      show (if lg_cmp (lI (rN (aWay q v i) (aSpd q v i)) * lI (rD (aWay q v b) (aSpd q v b))) (lI (rN (aWay q v b) (aSpd q v b)) * lI (rD (aWay q v i) (aSpd q v i))) < 0 then _ else _) = _
      by_cases h : aWay q v i * aSpd q v b < aWay q v b * aSpd q v i
      · rw [if_pos (hlt.mpr h), if_pos h]
      · rw [if_neg (fun e => h (hlt.mp e)), if_neg h]
    rw [hstep]
    unfold pick
    by_cases h : aWay q v i * aSpd q v b < aWay q v b * aSpd q v i
    · rw [if_pos h, if_pos h]
      exact ih m (i + 1) i _ _ (by omega) hi (by omega)
    · rw [if_neg h, if_neg h]
      exact ih m (i + 1) b _ _ (by omega) hb (by omega)
end MOD
