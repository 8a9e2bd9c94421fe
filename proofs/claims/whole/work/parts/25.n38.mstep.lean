/-! the reference's event is the same -/
section MSTEP
theorem pass_red (n d rt wN wD : Int) (hw : 0 < wD) : rN (n * rD wN wD + rt * rN wN wD * d) (d * rD wN wD) = rN (n * wD + rt * wN * d) (d * wD) ∧ rD (n * rD wN wD + rt * rN wN wD * d) (d * rD wN wD) = rD (n * wD + rt * wN * d) (d * wD) := by
  have hg := gcd_pos (a := wN) hw
  have h1 := rN_mul wN wD
  have h2 := rD_mul wN wD
  generalize rN wN wD = N at *
  generalize rD wN wD = Dd at *
  generalize (Int.gcd wN wD : Int) = g at *
  subst h1
  subst h2
  have e1 : n * (Dd * g) + rt * (N * g) * d = (n * Dd + rt * N * d) * g := by
    rw [Int.add_mul]
    congr 1 <;> ac_rfl
  have e2 : d * (Dd * g) = d * Dd * g := by ac_rfl
  rw [e1, e2, rN_scale hg, rD_scale hg]
  exact ⟨rfl, rfl⟩
theorem time_red (a d wN wD : Int) (hw : 0 < wD) : rN (a * rD wN wD + rN wN wD * d) (d * rD wN wD) = rN (a * wD + wN * d) (d * wD) ∧ rD (a * rD wN wD + rN wN wD * d) (d * rD wN wD) = rD (a * wD + wN * d) (d * wD) := by
  have h := pass_red a d 1 wN wD hw
  rw [Int.one_mul, Int.one_mul] at h
  exact h
theorem red_self (h : Int) {d : Int} (hd : 0 < d) : rN (h * d) d = h ∧ rD (h * d) d = 1 := by
  have e1 := rN_scale (a := h) (b := 1) hd
  have e2 := rD_scale (a := h) (b := 1) hd
  rw [Int.one_mul] at e1 e2
  rw [e1, e2]
  exact red_id (Int.gcd_one_right h)
theorem up_self {α : Type} (f : Nat → α) (k : Nat) : up f k (f k) = f := by
  funext j
  unfold up
  split
  · rename_i h; rw [h]
  · rfl
theorem cp_L (gf : Al) : ∀ (n m i : Nat) (g : Al), i + n = 31 → n < m → (∀ j, j < i → g j = gf j) → ∃ g2 : Al, f_X3_copy_L2 gf m (nI i) g = some g2 ∧ ∀ j, j < 31 → g2 j = gf j := by
  intro n
  induction n with
  | zero =>
    intro m i g hin hm hI
    obtain ⟨m, rfl⟩ : ∃ m', m = m' + 1 := ⟨m - 1, by omega⟩
    refine ⟨g, ?_, fun j hj => hI j (by omega)⟩
    show f_X3_copy_B2 gf (f_X3_copy_L2 gf m) _ _ = _
    unfold f_X3_copy_B2
    rw [if_pos (show (31 : Int32) ≤ nI i by rw [show i = 31 by omega]; decide)]
  | succ n ih =>
    intro m i g hin hm hI
    obtain ⟨m, rfl⟩ : ∃ m', m = m' + 1 := ⟨m - 1, by omega⟩
    obtain ⟨g2, h1, h2⟩ := ih m (i + 1) (vp_updL g i (gf i)) (by omega) (by omega) (fun j hj => by
      by_cases e : j = i
      · subst e; rw [uL_s]
      · rw [uL_n e]; exact hI j (by omega))
    refine ⟨g2, ?_, h2⟩
    show f_X3_copy_B2 gf (f_X3_copy_L2 gf m) _ _ = _
    unfold f_X3_copy_B2
    simp only [bnd]
    rw [if_neg (show ¬ (31 : Int32) ≤ nI i from nI_ge (a := i) (b := 31) (by omega) (by decide)), gd_t _ (ib_nI (show i < 31 by omega) (by omega)), cl_nI (by omega), nI_1, h1]
theorem cp_ok (gf gg : Al) : ∃ g2 : Al, f_X3_copy gf gg = some g2 ∧ ∀ j, j < 31 → g2 j = gf j := cp_L gf 31 fuel 0 gg (by omega) (by unfold fuel; omega) (fun j hj => by omega)
theorem iov_ok {n d : Int} (hn : B63 n) (hn2 : -9223372036854775808 < n) (hd : B63 d) : f_X3_isOver (lI n) (lI d) = some (big n d) := by
  unfold f_X3_isOver big
  rw [abs_lI hn hn2, lN_lI]
  have hb : B63 (n.natAbs : Int) := by omega
  by_cases h1 : 1000000 < n
  · rw [if_pos ((cmp_gtM hb).mpr (by omega)), decide_eq_true h1]
    rfl
  · by_cases h2 : n < -1000000
    · rw [if_pos ((cmp_gtM hb).mpr (by omega)), decide_eq_true h2, Bool.or_true]
      rfl
    · rw [if_neg (fun h => by have := (cmp_gtM hb).mp h; omega), decide_eq_false h1, decide_eq_false h2]
      by_cases h3 : 1000000 < d
      · rw [if_neg (fun h => by have := (cmp_leM hd).mp h; omega), decide_eq_true h3]
        rfl
      · rw [if_pos ((cmp_leM hd).mpr (by omega)), decide_eq_false h3]
        rfl
theorem msp_L {q : AC} {v : AV} {m0 m1 m2 m3 m5 : Ar} {m4 m6 : Int32} {r : Al} (hQ : QOK q) (hM : MRep q m0 m1 m2 m3 m4 m5 m6) (hV : VRow v r) (hB : VB q v MN MD) :
    ∀ (n m i : Nat), i + n = aC q → n < m → f_X3_isSpent_L24 m4 r m (nI i) = some (aSp v n i) := by
  have hC4 := hQ.1
  intro n
  induction n with
  | zero =>
    intro m i hin hm
    obtain ⟨m, rfl⟩ : ∃ m', m = m' + 1 := ⟨m - 1, by omega⟩
    show f_X3_isSpent_B24 m4 r (f_X3_isSpent_L24 m4 r m) _ = _
    unfold f_X3_isSpent_B24
    rw [if_pos (by rw [hM.1]; exact nI_le (by omega) (by omega))]
    rfl
  | succ n ih =>
    intro m i hin hm
    obtain ⟨m, rfl⟩ : ∃ m', m = m' + 1 := ⟨m - 1, by omega⟩
    have hi4 : i < 4 := by omega
    obtain ⟨h1, h2, -⟩ := hV.1 i hi4
    obtain ⟨w1, w2, w3, -⟩ := hB.1 i hi4
    unfold MN MD at *
    show f_X3_isSpent_B24 m4 r (f_X3_isSpent_L24 m4 r m) _ = _
    unfold f_X3_isSpent_B24
    rw [if_neg (by rw [hM.1]; exact nI_ge (show i < aC q by omega) (by omega)), ix0, ix1, gd_t _ (ib_nI (show 2 * i < 31 by omega) (by omega)), gd_t _ (ib_nI (show 2 * i + 1 < 31 by omega) (by omega)), cl_nI (by omega), cl_nI (by omega), h1, h2, iov_ok (by omega) (by omega) (by omega)]
    show (if b2i (big (vN v i) (vD v i)) = 0 then f_X3_isSpent_L24 m4 r m (nI i + 1) else some true) = _
    unfold aSp
    cases big (vN v i) (vD v i) with
    | true => rfl
    | false =>
      rw [if_pos (by rfl), nI_1, ih m (i + 1) (by omega) (by omega)]
      rfl
/-- a moment, as the reference's row holds it -/
def RRep (a : AM) (r : Al) : Prop := r 20 = lI a.1 ∧ r 21 = lI a.2.1 ∧ VRow a.2.2 r
theorem msp_ok {q : AC} {a : AM} {m0 m1 m2 m3 m5 : Ar} {m4 m6 : Int32} {r : Al} (hQ : QOK q) (hM : MRep q m0 m1 m2 m3 m4 m5 m6) (hR : RRep a r) (hB : AB q a MN MD) : f_X3_isSpent m4 r = some (aSpent q a) := by
  have hC4 := hQ.1
  obtain ⟨e1, e2, hV⟩ := hR
  obtain ⟨b1, b2, b3, hB⟩ := hB
  unfold f_X3_isSpent
  unfold MN at b1
  unfold MD at b3
  rw [gd_t _ (by decide), gd_t _ (by decide), show (20 : Int32).toNatClampNeg = 20 from rfl, show (21 : Int32).toNatClampNeg = 21 from rfl, e1, e2, iov_ok (by omega) (by omega) (by omega)]
  show (if b2i (big a.1 a.2.1) = 0 then f_X3_isSpent_L24 m4 r fuel 0 else some true) = _
  unfold aSpent
  cases big a.1 a.2.1 with
  | true => rfl
  | false =>
    rw [if_pos (by rfl), show (0 : Int32) = nI 0 from rfl, msp_L hQ hM hV hB (aC q) fuel 0 (by omega) (by unfold fuel; omega)]
    rfl
/-- the levels -/
theorem ml_L {q : AC} {v : AV} {m0 m1 m2 m3 m5 : Ar} {m4 m6 : Int32} {r : Al} (hQ : QOK q) (hM : MRep q m0 m1 m2 m3 m4 m5 m6) (hB : VB q v 1000000 1000000) {wN wD : Int} (hwN : wN.natAbs ≤ 51000000) (hwD : 1 ≤ wD) (hwD2 : wD.natAbs ≤ 60000000) (m10 m11 : Ar) (m12 m13 : Al) (m14 : Int32) (r2 : Al) (nc na : Int32) :
    ∀ (n m i : Nat) (r1 : Al) (x y : Int64), i + n = aC q → n < m → VRow (cutF (aPassN q v wN wD) (vN v) i, cutF (aPassD q v wN wD) (vD v) i, vF v, vK v) r1 → (∀ j, 20 ≤ j → r1 j = r j) →
      ∃ (r3 : Al) (x3 y3 : Int64), f_X3_step_L122 m0 m1 m2 m3 m4 m5 m6 m10 m11 m12 m13 m14 r2 (lI (rN wN wD)) (lI (rD wN wD)) nc na m (nI i) r1 x y = f_X3_step_L122 m0 m1 m2 m3 m4 m5 m6 m10 m11 m12 m13 m14 r2 (lI (rN wN wD)) (lI (rD wN wD)) nc na 1 (nI (aC q)) r3 x3 y3 ∧ VRow (aPassN q v wN wD, aPassD q v wN wD, vF v, vK v) r3 ∧ ∀ j, 20 ≤ j → r3 j = r j := by
  have hC4 := hQ.1
  intro n
  induction n with
  | zero =>
    intro m i r1 x y hin hm hV hr
    obtain ⟨m, rfl⟩ : ∃ m', m = m' + 1 := ⟨m - 1, by omega⟩
    obtain rfl : i = aC q := by omega
    refine ⟨r1, x, y, ?_, ⟨fun j hj => ?_, hV.2⟩, hr⟩
    · show f_X3_step_B122 m0 m1 m2 m3 m4 m5 m6 m10 m11 m12 m13 m14 r2 (lI (rN wN wD)) (lI (rD wN wD)) nc na _ _ _ _ _ = f_X3_step_B122 m0 m1 m2 m3 m4 m5 m6 m10 m11 m12 m13 m14 r2 (lI (rN wN wD)) (lI (rD wN wD)) nc na _ _ _ _ _
      unfold f_X3_step_B122
      rw [if_pos (show m4 ≤ nI (aC q) by rw [hM.1]; exact nI_le (by omega) (by omega)), if_pos (show m4 ≤ nI (aC q) by rw [hM.1]; exact nI_le (by omega) (by omega))]
    · obtain ⟨h1, h2, h3⟩ := hV.1 j hj
      refine ⟨h1.trans (congrArg lI ?_), h2.trans (congrArg lI ?_), h3⟩
      · show cutF (aPassN q v wN wD) (vN v) (aC q) j = aPassN q v wN wD j
        unfold cutF aPassN
        split <;> rfl
      · show cutF (aPassD q v wN wD) (vD v) (aC q) j = aPassD q v wN wD j
        unfold cutF aPassD
        split <;> rfl
  | succ n ih =>
    intro m i r1 x y hin hm hV hr
    obtain ⟨m, rfl⟩ : ∃ m', m = m' + 1 := ⟨m - 1, by omega⟩
    have hi : i < aC q := by omega
    have hi4 : i < 4 := by omega
    obtain ⟨hn, hd, hf⟩ := hV.1 i hi4
    have hn' : r1 (2 * i) = lI (vN v i) := hn.trans (congrArg lI (cutF_g _ _ _))
    have hd' : r1 (2 * i + 1) = lI (vD v i) := hd.trans (congrArg lI (cutF_g _ _ _))
    obtain ⟨-, -, c3, c4⟩ := hM.2.2.1 i hi4
    obtain ⟨-, -, b3, b4⟩ := hQ.2.2.1 i hi4
    obtain ⟨v1, v2, v3, -⟩ := hB.1 i hi4
    have hcl : (nI i).toNatClampNeg = i := cl_nI (by omega)
    have hrt : (aRt q v i).natAbs ≤ 60 := by
      unfold aRt
      split
      · exact b3
      · omega
    have k1 := natAbs_rN wN wD
    have k2 := rD_le (a := wN) (b := wD) (by omega)
    have k3 := rD_pos (a := wN) (b := wD) (by omega)
    have hbN : (vN v i * rD wN wD + aRt q v i * rN wN wD * vD v i).natAbs ≤ 3120000000000000 := Nat.le_trans (nb_add (nb_mul v1 (show (rD wN wD).natAbs ≤ 60000000 by omega)) (nb_mul (nb_mul hrt (show (rN wN wD).natAbs ≤ 51000000 by omega)) v3)) (by decide)
    have hbD : 0 < vD v i * rD wN wD := Int.mul_pos (by omega) (by omega)
    have hbD2 : (vD v i * rD wN wD).natAbs ≤ 60000000000000 := Nat.le_trans (nb_mul v3 (show (rD wN wD).natAbs ≤ 60000000 by omega)) (by decide)
    obtain ⟨p1, p2⟩ := pass_red (vN v i) (vD v i) (aRt q v i) wN wD (by omega)
    have tail : ∀ z : Int64, z = lI (aRt q v i) → f_X3_step_J188 (lI (rN wN wD)) (lI (rD wN wD)) (nI i) r1 (f_X3_step_L122 m0 m1 m2 m3 m4 m5 m6 m10 m11 m12 m13 m14 r2 (lI (rN wN wD)) (lI (rD wN wD)) nc na m) (lI (vN v i)) (lI (vD v i)) z = f_X3_step_L122 m0 m1 m2 m3 m4 m5 m6 m10 m11 m12 m13 m14 r2 (lI (rN wN wD)) (lI (rD wN wD)) nc na m (nI (i + 1)) (vp_updL (vp_updL r1 (2 * i) (lI (aPassN q v wN wD i))) (2 * i + 1) (lI (aPassD q v wN wD i))) (lI (aPassN q v wN wD i)) (lI (aPassD q v wN wD i)) := by
      intro z hz
      have e1 : aPassN q v wN wD i = rN (vN v i * wD + aRt q v i * wN * vD v i) (vD v i * wD) := if_pos hi
      have e2 : aPassD q v wN wD i = rD (vN v i * wD + aRt q v i * wN * vD v i) (vD v i * wD) := if_pos hi
      unfold f_X3_step_J188
      rw [hz, lI_mul, lI_mul, lI_mul, lI_add, lI_mul, mk_ok (by omega) hbD (by omega), p1, p2, ← e1, ← e2, ix0]
      show ((f_X3_store r1 (lI (aPassN q v wN wD i)) (lI (aPassD q v wN wD i)) (nI (2 * i))).bind _) = _
      rw [st_ok _ _ _ (show 2 * i < 30 by omega), nI_1]
      rfl
    have hV2 : VRow (cutF (aPassN q v wN wD) (vN v) (i + 1), cutF (aPassD q v wN wD) (vD v) (i + 1), vF v, vK v) (vp_updL (vp_updL r1 (2 * i) (lI (aPassN q v wN wD i))) (2 * i + 1) (lI (aPassD q v wN wD i))) := by
      have h := hV.upND hi4 (aPassN q v wN wD i) (aPassD q v wN wD i)
      have e1 : up (cutF (aPassN q v wN wD) (vN v) i) i (aPassN q v wN wD i) = cutF (aPassN q v wN wD) (vN v) (i + 1) := by
        funext j
        by_cases e : j = i
        · subst e; rw [up_s, cutF_i]
        · rw [up_n e, cutF_s _ _ _ e]
      have e2 : up (cutF (aPassD q v wN wD) (vD v) i) i (aPassD q v wN wD i) = cutF (aPassD q v wN wD) (vD v) (i + 1) := by
        funext j
        by_cases e : j = i
        · subst e; rw [up_s, cutF_i]
        · rw [up_n e, cutF_s _ _ _ e]
      rw [← e1, ← e2]
      exact h
    obtain ⟨r3, x3, y3, h1, h2, h3⟩ := ih m (i + 1) _ (lI (aPassN q v wN wD i)) (lI (aPassD q v wN wD i)) (by omega) (by omega) hV2 (fun j hj => by rw [uL_def, uL_def, if_neg (by omega), if_neg (by omega)]; exact hr j hj)
    refine ⟨r3, x3, y3, ?_, h2, h3⟩
    rw [← h1]
    show f_X3_step_B122 m0 m1 m2 m3 m4 m5 m6 m10 m11 m12 m13 m14 r2 (lI (rN wN wD)) (lI (rD wN wD)) nc na _ _ _ _ _ = _
    unfold f_X3_step_B122
    simp only [bnd]
    rw [if_neg (show ¬ m4 ≤ nI i by rw [hM.1]; exact nI_ge hi (by omega)), ix0, ix1, gd_t _ (ib_nI (show 2 * i < 31 by omega) (by omega)), gd_t _ (ib_nI (show 2 * i + 1 < 31 by omega) (by omega)), cl_nI (show 2 * i < 2147483648 by omega), cl_nI (show 2 * i + 1 < 2147483648 by omega), isf_ok hV hi4, hn', hd']
    show (if b2i (vF v i) = 0 then _ else _) = _
    cases hfl : vF v i with
    | true =>
      rw [if_neg (show ¬ b2i true = 0 by decide), gd_t _ (ib_nI hi4 (by omega)), hcl]
      refine tail _ ?_
      rw [c3, i2l_iI (by omega)]
      unfold aRt
      rw [hfl]
      rfl
    | false =>
      rw [if_pos (show b2i false = 0 by decide), gd_t _ (ib_nI hi4 (by omega)), hcl]
      refine tail _ ?_
      rw [c4, iI_neg, i2l_iI (by omega)]
      unfold aRt
      rw [hfl]
      rfl
end MSTEP
