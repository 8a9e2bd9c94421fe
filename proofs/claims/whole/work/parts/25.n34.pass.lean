/-! the class lets time pass -/
section PASS
def cutF {α : Type} (f g : Nat → α) (i : Nat) : Nat → α := fun j => if j < i then f j else g j
theorem cutF_s {α : Type} (f g : Nat → α) (i : Nat) {j : Nat} (h : j ≠ i) : cutF f g (i + 1) j = cutF f g i j := by
  unfold cutF
  by_cases h1 : j < i
  · rw [if_pos h1, if_pos (by omega)]
  · rw [if_neg h1, if_neg (by omega)]
theorem cutF_i {α : Type} (f g : Nat → α) (i : Nat) : cutF f g (i + 1) i = f i := if_pos (by omega)
theorem cutF_g {α : Type} (f g : Nat → α) (i : Nat) : cutF f g i i = g i := if_neg (by omega)
theorem uL_s (f : Al) (k : Nat) (x : Int64) : vp_updL f k x k = x := pk_uLs
theorem uL_n {f : Al} {k j : Nat} {x : Int64} (h : j ≠ k) : vp_updL f k x j = f j := pk_uLn h
theorem uI_s (f : Ar) (k : Nat) (x : Int32) : upd f k x k = x := pk_us
theorem uI_n {f : Ar} {k j : Nat} {x : Int32} (h : j ≠ k) : upd f k x j = f j := pk_un h
/-- lowering a fraction, the class's way -/
theorem low_ok {α : Type} {a b : Int} (ha : a.natAbs < 9007199254740992) (hb : 0 < b) (hb2 : b < 9007199254740992) (k : Int64 → Int64 → Option α) : ((f_X2_commonOf (lI a) (lI b)).bind (fun r => gd (nzL r) (bnd (lI a / r) (fun x => bnd (lI b / r) (fun y => k x y))))) = k (lI (rN a b)) (lI (rD a b)) := by
  have hg := gcd_pos (a := a) hb
  have hgl := gcd_le (a := a) hb
  rw [co_ok ha hb hb2]
  show gd (nzL (lI (Int.gcd a b))) _ = _
  rw [gd_t _ (nzL_t (by omega) (by omega))]
  simp only [bnd]
  rw [lI_div (by omega) (by omega), lI_div (by omega) (by omega), tdiv_ex (Int.gcd_dvd_left a b), tdiv_ex (Int.gcd_dvd_right a b)]
  rfl
theorem pass_b {q : AC} {v : AV} (hQ : QOK q) (hB : VB q v 1000000 1000000) {wN wD : Int} (hwN : wN.natAbs ≤ 51000000) (hwD : 1 ≤ wD) (hwD2 : wD.natAbs ≤ 60000000) {i : Nat} (hi : i < 4) :
    (vN v i * wD + aRt q v i * wN * vD v i).natAbs ≤ 3120000000000000 ∧ 0 < vD v i * wD ∧ (vD v i * wD).natAbs ≤ 60000000000000 := by
  obtain ⟨h1, h2, h3, -⟩ := hB.1 i hi
  obtain ⟨-, -, b3, b4⟩ := hQ.2.2.1 i hi
  have hr : (aRt q v i).natAbs ≤ 60 := by
    unfold aRt
    split
    · exact b3
    · omega
  refine ⟨Nat.le_trans (nb_add (nb_mul h1 hwD2) (nb_mul (nb_mul hr hwN) h3)) (by decide), Int.mul_pos (by omega) (by omega), Nat.le_trans (nb_mul h3 hwD2) (by decide)⟩
theorem lt_L {q : AC} {v : AV} {c : Ci} {s : Sw} (hQ : QOK q) (hC : CRep q c) (hV : VRep v s.2.2.1 s.2.2.2.1 s.2.2.2.2.1 s.2.2.2.2.2.1) (hB : VB q v 1000000 1000000) {wN wD : Int} (e9 : s.2.2.2.2.2.2.2.2.1 = lI wN) (e10 : s.2.2.2.2.2.2.2.2.2 = lI wD) (hwN : wN.natAbs ≤ 51000000) (hwD : 1 ≤ wD) (hwD2 : wD.natAbs ≤ 60000000) (v5 v6 : Int64) :
    ∀ (n m i : Nat) (num den : Al), i + n = aC q → n < m → (∀ j, j < 4 → num j = lI (cutF (aPassN q v wN wD) (vN v) i j) ∧ den j = lI (cutF (aPassD q v wN wD) (vD v) i j)) →
      ∃ num2 den2 : Al, f_X1_letTimePass_L59 s c v5 v6 m (nI i) num den = some (v5, v6, num2, den2) ∧ ∀ j, j < 4 → num2 j = lI (aPassN q v wN wD j) ∧ den2 j = lI (aPassD q v wN wD j) := by
  have hC4 := hQ.1
  intro n
  induction n with
  | zero =>
    intro m i num den hin hm hI
    obtain ⟨m, rfl⟩ : ∃ m', m = m' + 1 := ⟨m - 1, by omega⟩
    refine ⟨num, den, ?_, fun j hj => ?_⟩
    · show f_X1_letTimePass_B59 s c v5 v6 (f_X1_letTimePass_L59 s c v5 v6 m) _ _ _ = _
      unfold f_X1_letTimePass_B59
      rw [if_pos (by rw [hC.1]; exact nI_le (by omega) (by omega))]
    · obtain ⟨h1, h2⟩ := hI j hj
      rw [h1, h2]
      unfold cutF
      by_cases hji : j < i
      · rw [if_pos hji, if_pos hji]
        exact ⟨rfl, rfl⟩
      · rw [if_neg hji, if_neg hji]
        unfold aPassN aPassD
        rw [if_neg (by omega), if_neg (by omega)]
        exact ⟨rfl, rfl⟩
  | succ n ih =>
    intro m i num den hin hm hI
    obtain ⟨m, rfl⟩ : ∃ m', m = m' + 1 := ⟨m - 1, by omega⟩
    have hi : i < aC q := by omega
    have hi4 : i < 4 := by omega
    obtain ⟨hn, hd, hf⟩ := hV.1 i hi4
    obtain ⟨-, -, c3, c4⟩ := hC.2.2.1 i hi4
    obtain ⟨-, -, b3, b4⟩ := hQ.2.2.1 i hi4
    obtain ⟨hI1, hI2⟩ := hI i hi4
    rw [cutF_g] at hI1 hI2
    have hcl : (nI i).toNatClampNeg = i := cl_nI (by omega)
    have hb := pass_b hQ hB hwN hwD hwD2 hi4
    have tail : ∀ x : Int64, x = lI (aRt q v i) → f_X1_letTimePass_J98 s (nI i) num den (f_X1_letTimePass_L59 s c v5 v6 m) x = f_X1_letTimePass_L59 s c v5 v6 m (nI (i + 1)) (vp_updL num i (lI (aPassN q v wN wD i))) (vp_updL den i (lI (aPassD q v wN wD i))) := by
      intro x hx
      unfold f_X1_letTimePass_J98
      rw [hcl, hI1, hI2, e9, e10, hx, lI_mul, lI_mul, lI_mul, lI_add, lI_mul, nI_1]
      show ((f_X2_commonOf (lI (vN v i * wD + aRt q v i * wN * vD v i)) (lI (vD v i * wD))).bind (fun r => gd (nzL r) (bnd (lI (vN v i * wD + aRt q v i * wN * vD v i) / r) (fun x => bnd (lI (vD v i * wD) / r) (fun y => f_X1_letTimePass_L59 s c v5 v6 m (nI (i + 1)) (vp_updL num i x) (vp_updL den i y)))))) = _
      rw [low_ok (by omega) hb.2.1 (by omega)]
      unfold aPassN aPassD
      rw [if_pos hi, if_pos hi]
    obtain ⟨num2, den2, h1, h2⟩ := ih m (i + 1) (vp_updL num i (lI (aPassN q v wN wD i))) (vp_updL den i (lI (aPassD q v wN wD i))) (by omega) (by omega) (fun j hj => by
      by_cases hji : j = i
      · subst hji
        rw [uL_s, uL_s, cutF_i, cutF_i]
        exact ⟨rfl, rfl⟩
      · rw [uL_n hji, uL_n hji, cutF_s _ _ _ hji, cutF_s _ _ _ hji]
        exact hI j hj)
    refine ⟨num2, den2, ?_, h2⟩
    rw [← h1]
    show f_X1_letTimePass_B59 s c v5 v6 (f_X1_letTimePass_L59 s c v5 v6 m) _ _ _ = _
    unfold f_X1_letTimePass_B59
    rw [if_neg (by rw [hC.1]; exact nI_ge hi (by omega)), gd_t _ (ib_nI hi4 (by omega)), hcl, hf]
    cases hfl : vF v i with
    | true =>
      rw [if_neg (show ¬ b2i true = 0 by decide)]
      refine tail _ ?_
      rw [c3, i2l_iI (by omega)]
      unfold aRt
      rw [hfl]
      rfl
    | false =>
      rw [if_pos (show b2i false = 0 by decide)]
      refine tail _ ?_
      rw [c4, iI_neg, i2l_iI (by omega)]
      unfold aRt
      rw [hfl]
      rfl
theorem time_b {a d wN wD : Int} (ha : a.natAbs ≤ 1000000) (hd : 1 ≤ d) (hd2 : d.natAbs ≤ 1000000) (hwN : wN.natAbs ≤ 51000000) (hwD : 1 ≤ wD) (hwD2 : wD.natAbs ≤ 60000000) : (a * wD + wN * d).natAbs ≤ 111000000000000 ∧ 0 < d * wD ∧ (d * wD).natAbs ≤ 60000000000000 :=
  ⟨Nat.le_trans (nb_add (nb_mul ha hwD2) (nb_mul hwN hd2)) (by decide), Int.mul_pos (by omega) (by omega), Nat.le_trans (nb_mul hd2 hwD2) (by decide)⟩
theorem lt_ok {q : AC} {v : AV} {c : Ci} {s : Sw} (hQ : QOK q) (hC : CRep q c) (hV : VRep v s.2.2.1 s.2.2.2.1 s.2.2.2.2.1 s.2.2.2.2.2.1) (hB : VB q v 1000000 1000000) {wN wD : Int} (e9 : s.2.2.2.2.2.2.2.2.1 = lI wN) (e10 : s.2.2.2.2.2.2.2.2.2 = lI wD) (hwN : wN.natAbs ≤ 51000000) (hwD : 1 ≤ wD) (hwD2 : wD.natAbs ≤ 60000000)
    {a d : Int} (e1 : s.1 = lI a) (e2 : s.2.1 = lI d) (ha : a.natAbs ≤ 1000000) (hd : 1 ≤ d) (hd2 : d.natAbs ≤ 1000000) :
    ∃ num2 den2 : Al, f_X1_letTimePass s c = some (lI (rN (a * wD + wN * d) (d * wD)), lI (rD (a * wD + wN * d) (d * wD)), num2, den2) ∧ ∀ j, j < 4 → num2 j = lI (aPassN q v wN wD j) ∧ den2 j = lI (aPassD q v wN wD j) := by
  have hC4 := hQ.1
  have hb := time_b ha hd hd2 hwN hwD hwD2
  obtain ⟨num2, den2, h1, h2⟩ := lt_L hQ hC hV hB e9 e10 hwN hwD hwD2 (lI (rN (a * wD + wN * d) (d * wD))) (lI (rD (a * wD + wN * d) (d * wD))) (aC q) fuel 0 s.2.2.1 s.2.2.2.1 (by omega) (by unfold fuel; omega) (fun j hj => by
    obtain ⟨h1, h2, -⟩ := hV.1 j hj
    exact ⟨by rw [h1]; rfl, by rw [h2]; rfl⟩)
  refine ⟨num2, den2, ?_, h2⟩
  rw [← h1]
  unfold f_X1_letTimePass
  rw [e1, e2, e9, e10, lI_mul, lI_mul, lI_add, lI_mul]
  show ((f_X2_commonOf (lI (a * wD + wN * d)) (lI (d * wD))).bind (fun r => gd (nzL r) (bnd (lI (a * wD + wN * d) / r) (fun x => bnd (lI (d * wD) / r) (fun y => f_X1_letTimePass_L59 s c x y fuel 0 s.2.2.1 s.2.2.2.1))))) = _
  rw [low_ok (by omega) hb.2.1 (by omega)]
  rfl
end PASS
