/-! the reference's links, and its whole event -/
section MACT
theorem ix6 (k : Nat) : 6 * nI k = nI (6 * k) := pk_mul 6 k
theorem ixp (j c : Nat) : nI j + nI c = nI (j + c) := nI_add j c
theorem ix0n (i : Nat) : 0 + (nI 2 * nI i) = nI (2 * i) := ix0 i
theorem bI_not (b : Bool) : lI 1 - lI (bI b) = lI (bI (!b)) := by cases b <;> rfl
theorem act_ok {q : AC} {v : AV} {m0 m1 m2 m3 m5 : Ar} {m4 m6 : Int32} {r : Al} (hQ : QOK q) (hM : MRep q m0 m1 m2 m3 m4 m5 m6) (hV : VRow v r) (hB : VB q v MN MD) {b z k : Nat} (hb : b < 4) (hz : z ≤ 1) (hk : k < aL q) (x y : Int64) :
    ∃ (r2 : Al) (x2 y2 : Int64), f_X3_act m0 m1 m5 r x y (nI b) (nI z) (nI k) = some (r2, x2, y2) ∧ VRow (aLink q b z k v) r2 ∧ ∀ j, 20 ≤ j → r2 j = r j := by
  have hL8 := hQ.2.1
  have hC4 := hQ.1
  have hk8 : k < 8 := by omega
  obtain ⟨c1, c2, c3, c4, c5, c6⟩ := hM.2.2.2 k hk
  obtain ⟨q1, q2, q3, q4, q5, q6, q7, q8, q9⟩ := hQ.2.2.2.2 k hk
  have ht : aTo q k < 4 := by omega
  obtain ⟨d1, d2, -, -⟩ := hM.2.2.1 _ ht
  obtain ⟨g1, g2, -, -⟩ := hQ.2.2.1 _ ht
  have hct := hV.2 k hk8
  have hlt := hB.2.1 k hk
  obtain ⟨w1, w2, w3, w4⟩ := hB.1 _ ht
  unfold f_X3_act f_X3_act_J223
  simp only [bnd]
  rw [ix6, show (1 : Int32) = nI 1 from rfl, show (2 : Int32) = nI 2 from rfl, show (3 : Int32) = nI 3 from rfl, show (4 : Int32) = nI 4 from rfl, show (5 : Int32) = nI 5 from rfl, ixp, ixp, ixp, ixp, ixp, ix12, gd_t _ (ib_nI (show 6 * k < 48 by omega) (by omega)), cl_nI (show 6 * k < 2147483648 by omega), c1]
  unfold aLink
  by_cases f1 : aFr q k = b
  · rw [if_neg (show ¬ ¬ nI (aFr q k) = nI b by rw [f1]; exact fun h => h rfl), gd_t _ (ib_nI (show 6 * k + 1 < 48 by omega) (by omega)), cl_nI (show 6 * k + 1 < 2147483648 by omega), c2]
    by_cases f2 : aAt q k = z
    · rw [if_pos (show nI (aAt q k) = nI z by rw [f2]), if_pos (show aFr q k = b ∧ aAt q k = z from ⟨f1, f2⟩), gd_t _ (ib_nI (show 12 + k < 31 by omega) (by omega)), gd_t _ (ib_nI (show 6 * k + 2 < 48 by omega) (by omega)), cl_nI (show 12 + k < 2147483648 by omega), cl_nI (show 6 * k + 2 < 2147483648 by omega), c3, hct, show (1 : Int64) = lI 1 from rfl, lI_add, uL_s, nI_iI, i2l_iI (show B31 ((aNt q k : Nat) : Int) by omega)]
      by_cases f3 : vK v k + 1 = aNt q k
      · rw [if_pos f3, if_pos ((lg_cmp_ge _ _).mpr ((lI_le (by omega) (by omega)).mpr (by omega))), gd_t _ (ib_nI (show 6 * k + 3 < 48 by omega) (by omega)), gd_t _ (ib_nI (show 6 * k + 4 < 48 by omega) (by omega)), cl_nI (show 6 * k + 3 < 2147483648 by omega), cl_nI (show 6 * k + 4 < 2147483648 by omega), cl_nI (show 6 * k + 5 < 2147483648 by omega), c4, c5, c6]
        have hV2 : VRow (vN v, vD v, vF v, up (vK v) k 0) (vp_updL (vp_updL r (12 + k) (lI (((vK v k : Nat) : Int) + 1))) (12 + k) 0) := by
          have h := (hV.upK hk8 (vK v k + 1) (y := lI (((vK v k : Nat) : Int) + 1)) rfl).upK hk8 0 (y := 0) rfl
          rw [show up (vK (vN v, vD v, vF v, up (vK v) k (vK v k + 1))) k 0 = up (vK v) k 0 from up_up _ _ _ _] at h
          exact h
        have hr2 : ∀ j, 20 ≤ j → vp_updL (vp_updL r (12 + k) (lI (((vK v k : Nat) : Int) + 1))) (12 + k) 0 j = r j := fun j hj => by rw [uL_def, uL_def, if_neg (by omega), if_neg (by omega)]
        generalize vp_updL (vp_updL r (12 + k) (lI (((vK v k : Nat) : Int) + 1))) (12 + k) 0 = rr at hV2 hr2 ⊢
        obtain ⟨o1, o2, o3⟩ := hV2.1 _ ht
        have o1' : rr (2 * aTo q k) = lI (vN v (aTo q k)) := o1
        have o2' : rr (2 * aTo q k + 1) = lI (vD v (aTo q k)) := o2
        have o3' : rr (8 + aTo q k) = lI (bI (vF v (aTo q k))) := o3
        unfold aAct
        rw [show vN (vN v, vD v, vF v, up (vK v) k 0) = vN v from rfl, show vD (vN v, vD v, vF v, up (vK v) k 0) = vD v from rfl, show vF (vN v, vD v, vF v, up (vK v) k 0) = vF v from rfl, show vK (vN v, vD v, vF v, up (vK v) k 0) = up (vK v) k 0 from rfl]
        by_cases a0 : aAc q k = 0
        · rw [if_pos (show nI (aAc q k) = 0 by rw [a0]; rfl), if_pos a0]
          have hby := q7 a0
          rw [ix0n, show nI (2 * aTo q k) + nI 1 = nI (2 * aTo q k + 1) from nI_1 _, gd_t _ (ib_nI (show 2 * aTo q k + 1 < 31 by omega) (by omega)), gd_t _ (ib_nI (show 2 * aTo q k < 31 by omega) (by omega)), gd_t _ (ib_nI (show 6 * k + 5 < 48 by omega) (by omega)), gd_t _ (ib_nI ht (by omega)), cl_nI (show 2 * aTo q k < 2147483648 by omega), cl_nI (show 2 * aTo q k + 1 < 2147483648 by omega), cl_nI (show aTo q k < 2147483648 by omega), o1', o2', d1, d2, i2l_iI (show B31 (aBy q k) by omega), i2l_iI (show B31 (aLo q (aTo q k)) by omega), i2l_iI (show B31 (aHi q (aTo q k)) by omega), lI_mul, lI_mul, lI_mul, lI_add]
          have n1 := nb_mul hby w3
          have n2 := nb_mul g1 w3
          have n3 := nb_mul g2 w3
          unfold MN at w1
          unfold MD at w3 n1 n2 n3
          have tail : ∀ (n nn dd : Int), n.natAbs < 9007199254740992 → rN n (vD v (aTo q k)) = nn → rD n (vD v (aTo q k)) = dd → ∃ (r2 : Al) (x2 y2 : Int64), ((f_X3_make (lI n) (lI (vD v (aTo q k)))).bind (fun r21 => (f_X3_store rr r21.1 r21.2 (nI (2 * aTo q k))).bind (fun r22 => some (r22, r21.1, r21.2)))) = some (r2, x2, y2) ∧ VRow (up (vN v) (aTo q k) nn, up (vD v) (aTo q k) dd, vF v, up (vK v) k 0) r2 ∧ ∀ j, 20 ≤ j → r2 j = r j := by
            intro n nn dd hn e1 e2
            refine ⟨vp_updL (vp_updL rr (2 * aTo q k) (lI nn)) (2 * aTo q k + 1) (lI dd), lI nn, lI dd, ?_, hV2.upND ht nn dd, fun j hj => by rw [uL_def, uL_def, if_neg (by omega), if_neg (by omega)]; exact hr2 j hj⟩
            rw [mk_ok hn (by omega) (by omega), e1, e2]
            show ((f_X3_store rr (lI nn) (lI dd) (nI (2 * aTo q k))).bind _) = _
            rw [st_ok _ _ _ (show 2 * aTo q k < 30 by omega)]
            rfl
          have x1 : B63 (vN v (aTo q k) + aBy q k * vD v (aTo q k)) := by omega
          have x2 : B63 (aHi q (aTo q k) * vD v (aTo q k)) := by omega
          have x3 : B63 (aLo q (aTo q k) * vD v (aTo q k)) := by omega
          by_cases t1 : aHi q (aTo q k) * vD v (aTo q k) < vN v (aTo q k) + aBy q k * vD v (aTo q k)
          · rw [if_pos t1, if_neg (fun h => by have := (lI_le x1 x2).mp ((lg_cmp_le _ _).mp h); omega)]
            obtain ⟨z1, z2⟩ := red_self (aHi q (aTo q k)) (d := vD v (aTo q k)) (by omega)
            exact tail _ _ _ (by omega) z1 z2
          · rw [if_neg t1, if_pos ((lg_cmp_le _ _).mpr ((lI_le x1 x2).mpr (by omega)))]
            by_cases t2 : vN v (aTo q k) + aBy q k * vD v (aTo q k) < aLo q (aTo q k) * vD v (aTo q k)
            · rw [if_pos t2, if_neg (fun h => by have := (lI_le x3 x1).mp ((lg_cmp_ge _ _).mp h); omega)]
              obtain ⟨z1, z2⟩ := red_self (aLo q (aTo q k)) (d := vD v (aTo q k)) (by omega)
              exact tail _ _ _ (by omega) z1 z2
            · rw [if_neg t2, if_pos ((lg_cmp_ge _ _).mpr ((lI_le x3 x1).mpr (by omega)))]
              obtain ⟨z1, z2⟩ := red_id (cop_add (k := aBy q k) w4)
              have h := tail _ _ _ (by omega) z1 z2
              rw [up_self] at h
              exact h
        · rw [if_neg (fun h => a0 ((nI_eq0 (by omega)).mp h)), if_neg a0]
          by_cases a1 : aAc q k = 1
          · rw [if_pos (show nI (aAc q k) = nI 1 by rw [a1]), if_pos a1, ix8, gd_t _ (ib_nI (show 8 + aTo q k < 31 by omega) (by omega)), cl_nI (show 8 + aTo q k < 2147483648 by omega), o3', bI_not]
            exact ⟨_, _, _, rfl, hV2.upF ht _, fun j hj => by rw [uL_def, if_neg (by omega)]; exact hr2 j hj⟩
          · rw [if_neg (fun h => a1 ((nI_eq (a := aAc q k) (b := 1) (by omega) (by omega)).mp h)), if_neg a1, ix8, gd_t _ (ib_nI (show 6 * k + 5 < 48 by omega) (by omega)), gd_t _ (ib_nI (show 8 + aTo q k < 31 by omega) (by omega)), cl_nI (show 8 + aTo q k < 2147483648 by omega), i2l_iI q9, lI_sub]
            have hs : lI (1 - aBy q k) = lI (bI (decide (aBy q k = 0))) := by
              rcases q8 (by omega) with h | h <;> rw [h] <;> rfl
            rw [hs]
            exact ⟨_, _, _, rfl, hV2.upF ht _, fun j hj => by rw [uL_def, if_neg (by omega)]; exact hr2 j hj⟩
      · rw [if_neg f3, if_neg (fun h => by have := (lI_le (by omega) (by omega)).mp ((lg_cmp_ge _ _).mp h); omega)]
        exact ⟨_, _, _, rfl, hV.upK hk8 (vK v k + 1) (y := lI (((vK v k : Nat) : Int) + 1)) rfl, fun j hj => by rw [uL_def, if_neg (by omega)]⟩
    · rw [if_neg (fun h => f2 ((nI_eq (by omega) (by omega)).mp h)), if_neg (fun h => f2 h.2)]
      exact ⟨r, x, y, rfl, hV, fun _ _ => rfl⟩
  · rw [if_pos (fun h => f1 ((nI_eq (by omega) (by omega)).mp h)), if_neg (fun h => f1 h.1)]
    exact ⟨r, x, y, rfl, hV, fun _ _ => rfl⟩
end MACT
