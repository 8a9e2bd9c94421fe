section MEV
abbrev StepO : Type := Bool × Al × Al × Ar × Ar × Al × Al × Int64 × Int64 × Int32 × Int32
/-- behind an event that is one: it is kept, if that is asked -/
def logd (m10 m11 : Ar) (m12 m13 : Al) (m14 : Int32) (r2 r3 : Al) (x y : Int64) (p z : Int32) : Option StepO :=
  if m14 = 0 then some (true, r3, r2, m10, m11, m12, m13, x, y, p, z)
  else if (0 : Int32) < lg_cmp (r3 30) 500 then some (true, r3, r2, m10, m11, m12, m13, x, y, p, z)
  else gd (ib ((r3 30).toInt32 - 1) 500) (some (true, r3, r2, upd m10 ((r3 30).toInt32 - 1).toNatClampNeg p, upd m11 ((r3 30).toInt32 - 1).toNatClampNeg z, vp_updL m12 ((r3 30).toInt32 - 1).toNatClampNeg (r3 20), vp_updL m13 ((r3 30).toInt32 - 1).toNatClampNeg (r3 21), x, y, p, z))
theorem mk_L {q : AC} {m0 m1 m2 m3 m5 : Ar} {m4 m6 : Int32} {r0 : Al} (hQ : QOK q) (hM : MRep q m0 m1 m2 m3 m4 m5 m6) {b z : Nat} (hb : b < 4) (hz : z ≤ 1) (m10 m11 : Ar) (m12 m13 : Al) (m14 : Int32) (r2 : Al) :
    ∀ (n m k : Nat) (v : AV) (r : Al) (x y : Int64), k + n = aL q → n < m → VRow v r → VB q v MN MD → (∀ j, 20 ≤ j → r j = r0 j) →
      ∃ (r3 : Al) (x3 y3 : Int64), f_X3_step_L323 m0 m1 m4 m5 m6 m10 m11 m12 m13 m14 r2 (nI b) (nI z) m (nI k) r x y = f_X3_step_L323 m0 m1 m4 m5 m6 m10 m11 m12 m13 m14 r2 (nI b) (nI z) 1 (nI (aL q)) r3 x3 y3 ∧ VRow (aLinks q b z n k v) r3 ∧ ∀ j, 20 ≤ j → r3 j = r0 j := by
  have hL8 := hQ.2.1
  intro n
  induction n with
  | zero =>
    intro m k v r x y hin hm hV hB hr
    obtain ⟨m, rfl⟩ : ∃ m', m = m' + 1 := ⟨m - 1, by omega⟩
    obtain rfl : k = aL q := by omega
    refine ⟨r, x, y, ?_, hV, hr⟩
    show f_X3_step_B323 m0 m1 m4 m5 m6 m10 m11 m12 m13 m14 r2 (nI b) (nI z) _ _ _ _ _ = f_X3_step_B323 m0 m1 m4 m5 m6 m10 m11 m12 m13 m14 r2 (nI b) (nI z) _ _ _ _ _
    unfold f_X3_step_B323
    rw [if_pos (show m6 ≤ nI (aL q) by rw [hM.2.1]; exact nI_le (by omega) (by omega)), if_pos (show m6 ≤ nI (aL q) by rw [hM.2.1]; exact nI_le (by omega) (by omega))]
  | succ n ih =>
    intro m k v r x y hin hm hV hB hr
    obtain ⟨m, rfl⟩ : ∃ m', m = m' + 1 := ⟨m - 1, by omega⟩
    have hk : k < aL q := by omega
    obtain ⟨r1, x1, y1, h1, h2, h3⟩ := act_ok hQ hM hV hB hb hz hk x y
    obtain ⟨r3, x3, y3, g1, g2, g3⟩ := ih m (k + 1) (aLink q b z k v) r1 x1 y1 (by omega) (by omega) h2 (aLink_b hQ hB hk) (fun j hj => (h3 j hj).trans (hr j hj))
    refine ⟨r3, x3, y3, ?_, g2, g3⟩
    rw [← g1]
    show f_X3_step_B323 m0 m1 m4 m5 m6 m10 m11 m12 m13 m14 r2 (nI b) (nI z) _ _ _ _ _ = _
    unfold f_X3_step_B323
    rw [if_neg (show ¬ m6 ≤ nI k by rw [hM.2.1]; exact nI_ge hk (by omega)), h1, nI_1]
    rfl
def upC (z p : Nat) : Nat := (if z = 0 then 22 else 26) + p
theorem mev_ok {q : AC} {a : AM} {m0 m1 m2 m3 m5 : Ar} {m4 m6 : Int32} {r : Al} (hQ : QOK q) (hM : MRep q m0 m1 m2 m3 m4 m5 m6) (hR : RRep a r) (hB : AB q a 1000000 1000000) (h0 : 0 < aC q) (m8 : Al) (m10 m11 : Ar) (m12 m13 : Al) (m14 : Int32) (xx yy : Int64) (ww zz : Int32) :
    ∃ (r2 r3 : Al) (x3 y3 : Int64), (∀ j, j < 31 → r2 j = r j) ∧ RRep (aEv q a) r3 ∧ (∀ j, 22 ≤ j → j < 30 → r3 j = r j + (if j = upC (aSide a.2.2 (aPick q a.2.2)) (aPick q a.2.2) then 1 else 0)) ∧ r3 30 = r 30 + 1 ∧
      (aSpent q (aEv q a) = false → f_X3_step m0 m1 m2 m3 m4 m5 m6 r m8 m10 m11 m12 m13 m14 xx yy ww zz = logd m10 m11 m12 m13 m14 r2 r3 x3 y3 (nI (aPick q a.2.2)) (nI (aSide a.2.2 (aPick q a.2.2)))) ∧
      (aSpent q (aEv q a) = true → ∃ r4 : Al, (∀ j, j < 31 → r4 j = r j) ∧ f_X3_step m0 m1 m2 m3 m4 m5 m6 r m8 m10 m11 m12 m13 m14 xx yy ww zz = some (false, r4, r2, m10, m11, m12, m13, x3, y3, nI (aPick q a.2.2), nI (aSide a.2.2 (aPick q a.2.2)))) := by
  have hC4 := hQ.1
  have hL8 := hQ.2.1
  obtain ⟨e1, e2, hV⟩ := hR
  obtain ⟨b1, b2, b3, hBV⟩ := id hB
  have hp := aPick_lt (v := a.2.2) h0
  obtain ⟨r2, hc1, hc2⟩ := cp_ok r m8
  have hp4 : aPick q a.2.2 < 4 := by omega
  have hw := way_b hQ hBV hp4
  have hs := spd_b hQ hBV hp
  obtain ⟨x1, y1, f1⟩ := mc_L hQ hM hV hBV m10 m11 m12 m13 m14 r2 (aC q - 1) fuel 1 0 (lI (rN (aWay q a.2.2 0) (aSpd q a.2.2 0))) (lI (rD (aWay q a.2.2 0) (aSpd q a.2.2 0))) (by omega) h0 (by unfold fuel; omega)
  have hpk : pick (aWay q a.2.2) (aSpd q a.2.2) (aC q - 1) 1 0 = aPick q a.2.2 := rfl
  rw [hpk] at f1
  obtain ⟨z, hz⟩ : ∃ z, z = aSide a.2.2 (aPick q a.2.2) := ⟨_, rfl⟩
  obtain ⟨p, hpe⟩ : ∃ p, p = aPick q a.2.2 := ⟨_, rfl⟩
  rw [← hz] at f1 ⊢
  have hz1 : z ≤ 1 := by rw [hz]; exact side_le _ _
  have hV0 : VRow (cutF (aPassN q a.2.2 (aWay q a.2.2 (aPick q a.2.2)) (aSpd q a.2.2 (aPick q a.2.2))) (vN a.2.2) 0, cutF (aPassD q a.2.2 (aWay q a.2.2 (aPick q a.2.2)) (aSpd q a.2.2 (aPick q a.2.2))) (vD a.2.2) 0, vF a.2.2, vK a.2.2) r := hV
  obtain ⟨r5, x5, y5, f2, hV5, hr5⟩ := ml_L hQ hM hBV hw hs.1 hs.2 m10 m11 m12 m13 m14 r2 (nI (aPick q a.2.2)) (nI z) (aC q) fuel 0 r x1 y1 (by omega) (by unfold fuel; omega) hV0 (fun _ _ => rfl)
  obtain ⟨t1, t2, t3⟩ := time_b b1 b2 b3 hw hs.1 hs.2
  have k1 := natAbs_rN (aWay q a.2.2 (aPick q a.2.2)) (aSpd q a.2.2 (aPick q a.2.2))
  have k2 := rD_le (a := aWay q a.2.2 (aPick q a.2.2)) (b := aSpd q a.2.2 (aPick q a.2.2)) (by omega)
  have k3 := rD_pos (a := aWay q a.2.2 (aPick q a.2.2)) (b := aSpd q a.2.2 (aPick q a.2.2)) (by omega)
  obtain ⟨p1, p2⟩ := time_red a.1 a.2.1 (aWay q a.2.2 (aPick q a.2.2)) (aSpd q a.2.2 (aPick q a.2.2)) (by omega)
  have hbN : (a.1 * rD (aWay q a.2.2 (aPick q a.2.2)) (aSpd q a.2.2 (aPick q a.2.2)) + rN (aWay q a.2.2 (aPick q a.2.2)) (aSpd q a.2.2 (aPick q a.2.2)) * a.2.1).natAbs ≤ 111000000000000 := Nat.le_trans (nb_add (nb_mul b1 (show (rD (aWay q a.2.2 (aPick q a.2.2)) (aSpd q a.2.2 (aPick q a.2.2))).natAbs ≤ 60000000 by omega)) (nb_mul (show (rN (aWay q a.2.2 (aPick q a.2.2)) (aSpd q a.2.2 (aPick q a.2.2))).natAbs ≤ 51000000 by omega) b3)) (by decide)
  have hbD : 0 < a.2.1 * rD (aWay q a.2.2 (aPick q a.2.2)) (aSpd q a.2.2 (aPick q a.2.2)) := Int.mul_pos (by omega) (by omega)
  have hbD2 : (a.2.1 * rD (aWay q a.2.2 (aPick q a.2.2)) (aSpd q a.2.2 (aPick q a.2.2))).natAbs ≤ 60000000000000 := Nat.le_trans (nb_mul b3 (show (rD (aWay q a.2.2 (aPick q a.2.2)) (aSpd q a.2.2 (aPick q a.2.2))).natAbs ≤ 60000000 by omega)) (by decide)
  -- time, filling, counters
  obtain ⟨r6, h6⟩ : ∃ r6 : Al, r6 = vp_updL (vp_updL r5 20 (lI (aEvT q a).1)) 21 (lI (aEvT q a).2) := ⟨_, rfl⟩
  obtain ⟨r7, h7⟩ : ∃ r7 : Al, r7 = vp_updL r6 (8 + aPick q a.2.2) (lI z) := ⟨_, rfl⟩
  obtain ⟨r8, h8⟩ : ∃ r8 : Al, r8 = vp_updL r7 (upC z (aPick q a.2.2)) (r7 (upC z (aPick q a.2.2)) + 1) := ⟨_, rfl⟩
  obtain ⟨r9, h9⟩ : ∃ r9 : Al, r9 = vp_updL r8 30 (r8 30 + 1) := ⟨_, rfl⟩
  have hup1 : 22 ≤ upC z (aPick q a.2.2) ∧ upC z (aPick q a.2.2) < 30 := by
    unfold upC
    split <;> omega
  have hV9 : VRow (aPassN q a.2.2 (aWay q a.2.2 (aPick q a.2.2)) (aSpd q a.2.2 (aPick q a.2.2)), aPassD q a.2.2 (aWay q a.2.2 (aPick q a.2.2)) (aSpd q a.2.2 (aPick q a.2.2)), up (vF a.2.2) (aPick q a.2.2) (!(vF a.2.2 (aPick q a.2.2))), vK a.2.2) r9 := by
    have g6 : VRow (aPassN q a.2.2 (aWay q a.2.2 (aPick q a.2.2)) (aSpd q a.2.2 (aPick q a.2.2)), aPassD q a.2.2 (aWay q a.2.2 (aPick q a.2.2)) (aSpd q a.2.2 (aPick q a.2.2)), vF a.2.2, vK a.2.2) r6 := hV5.keep (fun j hj => by rw [h6, uL_def, uL_def, if_neg (by omega), if_neg (by omega)])
    have g7 : VRow (aPassN q a.2.2 (aWay q a.2.2 (aPick q a.2.2)) (aSpd q a.2.2 (aPick q a.2.2)), aPassD q a.2.2 (aWay q a.2.2 (aPick q a.2.2)) (aSpd q a.2.2 (aPick q a.2.2)), up (vF a.2.2) (aPick q a.2.2) (!(vF a.2.2 (aPick q a.2.2))), vK a.2.2) r7 := by
      have h := g6.upF hp4 (!(vF a.2.2 (aPick q a.2.2)))
      have ez : lI (bI (!(vF a.2.2 (aPick q a.2.2)))) = lI z := by
        rw [hz]
        unfold aSide
        cases vF a.2.2 (aPick q a.2.2) <;> rfl
      rw [ez] at h
      rw [h7]
      exact h
    exact g7.keep (fun j hj => by rw [h9, uL_def, if_neg (by omega), h8, uL_def, if_neg (by omega)])
  have hVB := pass_VB hQ hBV hw hs.1 hs.2 (up (vF a.2.2) (aPick q a.2.2) (!(vF a.2.2 (aPick q a.2.2))))
  obtain ⟨r3, x3, y3, f3, hV3, hr3⟩ := mk_L (r0 := r9) hQ hM hp4 hz1 m10 m11 m12 m13 m14 r2 (aL q) fuel 0 _ r9 (lI (aEvT q a).1) (lI (aEvT q a).2) (by omega) (by unfold fuel; omega) hV9 hVB (fun _ _ => rfl)
  have hR3 : RRep (aEv q a) r3 := by
    refine ⟨?_, ?_, ?_⟩
    · rw [hr3 20 (by omega), h9, uL_def, if_neg (by omega), h8, uL_def, if_neg (by omega), h7, uL_def, if_neg (by omega), h6, uL_def, if_neg (by omega), uL_s]
      rfl
    · rw [hr3 21 (by omega), h9, uL_def, if_neg (by omega), h8, uL_def, if_neg (by omega), h7, uL_def, if_neg (by omega), h6, uL_s]
      rfl
    · rw [hz] at hV3
      exact hV3
  have hctr : ∀ j, 22 ≤ j → j < 30 → r3 j = r j + (if j = upC z (aPick q a.2.2) then 1 else 0) := by
    intro j j1 j2
    have base : ∀ i, 22 ≤ i → r7 i = r i := fun i hi => by rw [h7, uL_def, if_neg (by omega), h6, uL_def, uL_def, if_neg (by omega), if_neg (by omega)]; exact hr5 i (by omega)
    rw [hr3 j (by omega), h9, uL_def, if_neg (by omega), h8, uL_def]
    by_cases e : j = upC z (aPick q a.2.2)
    · rw [if_pos e, if_pos e, base _ hup1.1, e]
    · rw [if_neg e, if_neg e, base _ j1, Int64.add_zero]
  have h30 : r3 30 = r 30 + 1 := by
    rw [hr3 30 (by omega), h9, uL_s, h8, uL_def, if_neg (by omega), h7, uL_def, if_neg (by omega), h6, uL_def, uL_def, if_neg (by omega), if_neg (by omega), hr5 30 (by omega)]
  -- the whole road up to the end of the links
  have road : f_X3_step m0 m1 m2 m3 m4 m5 m6 r m8 m10 m11 m12 m13 m14 xx yy ww zz = f_X3_step_L323 m0 m1 m4 m5 m6 m10 m11 m12 m13 m14 r2 (nI (aPick q a.2.2)) (nI z) 1 (nI (aL q)) r3 x3 y3 := by
    have hj : f_X3_step_J299 m0 m1 m4 m5 m6 m10 m11 m12 m13 m14 r2 (nI (aPick q a.2.2)) (nI z) (lI (aEvT q a).1, lI (aEvT q a).2) r6 (nI (if z = 0 then 22 else 26)) = f_X3_step_L323 m0 m1 m4 m5 m6 m10 m11 m12 m13 m14 r2 (nI (aPick q a.2.2)) (nI z) 1 (nI (aL q)) r3 x3 y3 := by
      unfold f_X3_step_J299
      simp only [bnd]
      rw [ixp, ix8, show (if z = 0 then 22 else 26) + aPick q a.2.2 = upC z (aPick q a.2.2) from rfl, gd_t _ (ib_nI (show upC z (aPick q a.2.2) < 31 by omega) (by omega)), gd_t _ (by decide), cl_nI (show upC z (aPick q a.2.2) < 2147483648 by omega), cl_nI (show 8 + aPick q a.2.2 < 2147483648 by omega), show (30 : Int32).toNatClampNeg = 30 from rfl, nI_iI z, i2l_iI (show B31 ((z : Nat) : Int) by omega), ← nI_iI z, ← h7, ← h8, ← h9]
      exact f3
    unfold f_X3_step
    rw [if_pos (show ¬ m4 = 0 by rw [hM.1]; exact fun h => by have := (nI_eq0 (by omega)).mp h; omega), hc1]
    show ((f_X3_waitOf m0 m1 m2 m3 r 0).bind _) = _
    rw [show (0 : Int32) = nI 0 from rfl, wo_ok hQ hM hV hBV h0]
    show f_X3_step_L43 m0 m1 m2 m3 m4 m5 m6 r m10 m11 m12 m13 m14 r2 fuel _ _ (nI 1) _ _ (nI 0) = _
    rw [f1, show (0 : Int32) = nI 0 from rfl, f2]
    show f_X3_step_B122 m0 m1 m2 m3 m4 m5 m6 m10 m11 m12 m13 m14 r2 _ _ _ _ _ _ _ _ _ = _
    unfold f_X3_step_B122
    rw [if_pos (show m4 ≤ nI (aC q) by rw [hM.1]; exact nI_le (by omega) (by omega)), gd_t _ (by decide), gd_t _ (by decide), show (20 : Int32).toNatClampNeg = 20 from rfl, show (21 : Int32).toNatClampNeg = 21 from rfl, hr5 20 (by omega), hr5 21 (by omega), e1, e2, lI_mul, lI_mul, lI_add, lI_mul, mk_ok (by omega) hbD (by omega), p1, p2]
    show ((f_X3_store r5 (lI (aEvT q a).1) (lI (aEvT q a).2) (nI 20)).bind (fun r10 => gd (ib (8 + nI (aPick q a.2.2)) 31) (if ¬ nI z = 0 then f_X3_step_J299 m0 m1 m4 m5 m6 m10 m11 m12 m13 m14 r2 (nI (aPick q a.2.2)) (nI z) (lI (aEvT q a).1, lI (aEvT q a).2) r10 26 else f_X3_step_J299 m0 m1 m4 m5 m6 m10 m11 m12 m13 m14 r2 (nI (aPick q a.2.2)) (nI z) (lI (aEvT q a).1, lI (aEvT q a).2) r10 22))) = _
    rw [st_ok _ _ _ (by omega)]
    show gd (ib (8 + nI (aPick q a.2.2)) 31) (if ¬ nI z = 0 then f_X3_step_J299 m0 m1 m4 m5 m6 m10 m11 m12 m13 m14 r2 (nI (aPick q a.2.2)) (nI z) (lI (aEvT q a).1, lI (aEvT q a).2) (vp_updL (vp_updL r5 20 (lI (aEvT q a).1)) 21 (lI (aEvT q a).2)) 26 else f_X3_step_J299 m0 m1 m4 m5 m6 m10 m11 m12 m13 m14 r2 (nI (aPick q a.2.2)) (nI z) (lI (aEvT q a).1, lI (aEvT q a).2) (vp_updL (vp_updL r5 20 (lI (aEvT q a).1)) 21 (lI (aEvT q a).2)) 22) = _
    rw [ix8, gd_t _ (ib_nI (show 8 + aPick q a.2.2 < 31 by omega) (by omega)), ← h6]
    by_cases hz0 : z = 0
    · rw [if_neg (show ¬ ¬ nI z = 0 by rw [hz0]; decide)]
      rw [if_pos hz0] at hj
      exact hj
    · rw [if_pos (show ¬ nI z = 0 from fun h => hz0 ((nI_eq0 (by omega)).mp h))]
      rw [if_neg hz0] at hj
      exact hj
  have hsp := msp_ok hQ hM hR3 (ev_AB hQ hB h0)
  have ending : f_X3_step_L323 m0 m1 m4 m5 m6 m10 m11 m12 m13 m14 r2 (nI (aPick q a.2.2)) (nI z) 1 (nI (aL q)) r3 x3 y3 = if b2i (aSpent q (aEv q a)) = 0 then logd m10 m11 m12 m13 m14 r2 r3 x3 y3 (nI (aPick q a.2.2)) (nI z) else (f_X3_copy r2 r3).bind (fun r25 => some (false, r25, r2, m10, m11, m12, m13, x3, y3, nI (aPick q a.2.2), nI z)) := by
    show f_X3_step_B323 m0 m1 m4 m5 m6 m10 m11 m12 m13 m14 r2 (nI (aPick q a.2.2)) (nI z) _ _ _ _ _ = _
    unfold f_X3_step_B323
    rw [if_pos (show m6 ≤ nI (aL q) by rw [hM.2.1]; exact nI_le (by omega) (by omega)), hsp]
    rfl
  refine ⟨r2, r3, x3, y3, hc2, hR3, hctr, h30, fun hh => ?_, fun hh => ?_⟩
  · rw [road, ending, hh]
    rfl
  · obtain ⟨r4, g1, g2⟩ := cp_ok r2 r3
    refine ⟨r4, fun j hj => (g2 j hj).trans (hc2 j hj), ?_⟩
    rw [road, ending, hh, if_neg (show ¬ b2i true = 0 by decide), g1]
    rfl
end MEV
