/-! the class's event -/
section ADV
theorem cmp_gtM {n : Int} (hn : B63 n) : (0 : Int32) < lg_cmp (lI n) 1000000 ↔ 1000000 < n := by
  rw [lg_cmp_gt, show (1000000 : Int64) = lI 1000000 from rfl, lI_lt (by omega) hn]
theorem cmp_ltM {n : Int} (hn : B63 n) : lg_cmp (lI n) (-1000000) < 0 ↔ n < -1000000 := by
  rw [lg_cmp_lt, show (-1000000 : Int64) = lI (-1000000) from rfl, lI_lt hn (by omega)]
theorem cmp_leM {n : Int} (hn : B63 n) : lg_cmp (lI n) 1000000 ≤ 0 ↔ n ≤ 1000000 := by
  rw [lg_cmp_le, show (1000000 : Int64) = lI 1000000 from rfl, lI_le hn (by omega)]
theorem itl_ok {n d : Int} (hn : B63 n) (hd : B63 d) : f_X1_isTooLong (lI n) (lI d) = some (big n d) := by
  unfold f_X1_isTooLong big
  by_cases h1 : 1000000 < n
  · rw [if_pos ((cmp_gtM hn).mpr h1), decide_eq_true h1]
    rfl
  · rw [if_neg (fun h => h1 ((cmp_gtM hn).mp h)), decide_eq_false h1]
    by_cases h2 : n < -1000000
    · rw [if_pos ((cmp_ltM hn).mpr h2), decide_eq_true h2]
      rfl
    · rw [if_neg (fun h => h2 ((cmp_ltM hn).mp h)), decide_eq_false h2]
      by_cases h3 : 1000000 < d
      · rw [if_neg (fun h => by have := (cmp_leM hd).mp h; omega), decide_eq_true h3]
        rfl
      · rw [if_pos ((cmp_leM hd).mpr (by omega)), decide_eq_false h3]
        rfl
theorem isp_L {q : AC} {v : AV} {c : Ci} {s : Sw} (hQ : QOK q) (hC : CRep q c) (hV : VRep v s.2.2.1 s.2.2.2.1 s.2.2.2.2.1 s.2.2.2.2.2.1) (hB : VB q v MN MD) :
    ∀ (n m i : Nat), i + n = aC q → n < m → f_X1_isSpent_L18 s c m (nI i) = some (aSp v n i) := by
  have hC4 := hQ.1
  intro n
  induction n with
  | zero =>
    intro m i hin hm
    obtain ⟨m, rfl⟩ : ∃ m', m = m' + 1 := ⟨m - 1, by omega⟩
    show f_X1_isSpent_B18 s c (f_X1_isSpent_L18 s c m) _ = _
    unfold f_X1_isSpent_B18
    rw [if_pos (by rw [hC.1]; exact nI_le (by omega) (by omega))]
    rfl
  | succ n ih =>
    intro m i hin hm
    obtain ⟨m, rfl⟩ : ∃ m', m = m' + 1 := ⟨m - 1, by omega⟩
    have hi4 : i < 4 := by omega
    obtain ⟨h1, h2, -⟩ := hV.1 i hi4
    obtain ⟨w1, w2, w3, -⟩ := hB.1 i hi4
    unfold MN MD at *
    show f_X1_isSpent_B18 s c (f_X1_isSpent_L18 s c m) _ = _
    unfold f_X1_isSpent_B18
    rw [if_neg (by rw [hC.1]; exact nI_ge (show i < aC q by omega) (by omega)), gd_t _ (ib_nI hi4 (by omega)), cl_nI (by omega), h1, h2, itl_ok (by omega) (by omega)]
    show (if b2i (big (vN v i) (vD v i)) = 0 then f_X1_isSpent_L18 s c m (nI i + 1) else some true) = _
    unfold aSp
    cases big (vN v i) (vD v i) with
    | true => rfl
    | false =>
      rw [if_pos (by rfl), nI_1, ih m (i + 1) (by omega) (by omega)]
      rfl
/-- a moment, as the class holds it -/
def SRep (a : AM) (s : Sw) : Prop := s.1 = lI a.1 ∧ s.2.1 = lI a.2.1 ∧ VRep a.2.2 s.2.2.1 s.2.2.2.1 s.2.2.2.2.1 s.2.2.2.2.2.1
def AB (q : AC) (a : AM) (M N : Nat) : Prop := a.1.natAbs ≤ M ∧ 1 ≤ a.2.1 ∧ a.2.1.natAbs ≤ N ∧ VB q a.2.2 M N
theorem isp_ok {q : AC} {a : AM} {c : Ci} {s : Sw} (hQ : QOK q) (hC : CRep q c) (hS : SRep a s) (hB : AB q a MN MD) : f_X1_isSpent s c = some (aSpent q a) := by
  have hC4 := hQ.1
  obtain ⟨e1, e2, hV⟩ := hS
  obtain ⟨b1, b2, b3, hB⟩ := hB
  unfold f_X1_isSpent
  unfold MN at b1
  unfold MD at b3
  rw [e1, e2, itl_ok (by omega) (by omega)]
  show (if b2i (big a.1 a.2.1) = 0 then f_X1_isSpent_L18 s c fuel 0 else some true) = _
  unfold aSpent
  cases big a.1 a.2.1 with
  | true => rfl
  | false =>
    rw [if_pos (by rfl), show (0 : Int32) = nI 0 from rfl, isp_L hQ hC hV hB (aC q) fuel 0 (by omega) (by unfold fuel; omega)]
    rfl
theorem aAct_hi {q : AC} {v : AV} {k i : Nat} (h : aTo q k < i) : vN (aAct q k v) i = vN v i ∧ vD (aAct q k v) i = vD v i := by
  have e : i ≠ aTo q k := by omega
  unfold aAct
  split
  · split
    · exact ⟨up_n e, up_n e⟩
    · split
      · exact ⟨up_n e, up_n e⟩
      · exact ⟨up_n e, rfl⟩
  · split <;> exact ⟨rfl, rfl⟩
theorem aLinks_hi {q : AC} (hQ : QOK q) {b z : Nat} : ∀ (n k : Nat) (v : AV) (i : Nat), k + n = aL q → aC q ≤ i → vN (aLinks q b z n k v) i = vN v i ∧ vD (aLinks q b z n k v) i = vD v i := by
  intro n
  induction n with
  | zero => intro k v i _ _; exact ⟨rfl, rfl⟩
  | succ n ih =>
    intro k v i hk hi
    obtain ⟨-, -, -, -, q5, -⟩ := hQ.2.2.2.2 k (by omega)
    unfold aLinks
    obtain ⟨h1, h2⟩ := ih (k + 1) (aLink q b z k v) i (by omega) hi
    rw [h1, h2]
    unfold aLink
    split
    · split
      · exact aAct_hi (v := (vN v, vD v, vF v, up (vK v) k 0)) (by omega)
      · exact ⟨rfl, rfl⟩
    · exact ⟨rfl, rfl⟩
theorem pass_VB {q : AC} {v : AV} (hQ : QOK q) (hB : VB q v 1000000 1000000) {wN wD : Int} (hwN : wN.natAbs ≤ 51000000) (hwD : 1 ≤ wD) (hwD2 : wD.natAbs ≤ 60000000) (f : Nat → Bool) : VB q (aPassN q v wN wD, aPassD q v wN wD, f, vK v) MN MD := by
  refine ⟨fun i hi => ?_, hB.2⟩
  obtain ⟨h1, h2, h3, h4⟩ := hB.1 i hi
  show (aPassN q v wN wD i).natAbs ≤ MN ∧ 1 ≤ aPassD q v wN wD i ∧ (aPassD q v wN wD i).natAbs ≤ MD ∧ Int.gcd (aPassN q v wN wD i) (aPassD q v wN wD i) = 1
  unfold aPassN aPassD
  by_cases hc : i < aC q
  · rw [if_pos hc, if_pos hc]
    obtain ⟨p1, p2, p3⟩ := pass_b hQ hB hwN hwD hwD2 hi
    have r1 := natAbs_rN (vN v i * wD + aRt q v i * wN * vD v i) (vD v i * wD)
    have r2 := rD_pos (a := vN v i * wD + aRt q v i * wN * vD v i) p2
    have r3 := rD_le (a := vN v i * wD + aRt q v i * wN * vD v i) p2
    refine ⟨by unfold MN; omega, by omega, by unfold MD; omega, red_cop p2⟩
  · rw [if_neg hc, if_neg hc]
    exact ⟨by unfold MN; omega, h2, by unfold MD; omega, h4⟩
theorem aSp_no {v : AV} : ∀ (n i : Nat), aSp v n i = false → ∀ j, i ≤ j → j < i + n → big (vN v j) (vD v j) = false := by
  intro n
  induction n with
  | zero => intro i _ j h1 h2; omega
  | succ n ih =>
    intro i h j h1 h2
    unfold aSp at h
    rw [Bool.or_eq_false_iff] at h
    by_cases e : j = i
    · rw [e]; exact h.1
    · exact ih (i + 1) h.2 j (by omega) (by omega)
theorem big_no {n d : Int} (h : big n d = false) : -1000000 ≤ n ∧ n ≤ 1000000 ∧ d ≤ 1000000 := by
  unfold big at h
  rw [Bool.or_eq_false_iff, Bool.or_eq_false_iff, decide_eq_false_iff_not, decide_eq_false_iff_not, decide_eq_false_iff_not] at h
  omega
theorem side_le (v : AV) (b : Nat) : aSide v b ≤ 1 := by
  unfold aSide
  split <;> omega
/-- behind an event: the wide bounds; if it isn't spent, the narrow ones -/
theorem ev_AB {q : AC} {a : AM} (hQ : QOK q) (hB : AB q a 1000000 1000000) (h0 : 0 < aC q) : AB q (aEv q a) MN MD := by
  obtain ⟨b1, b2, b3, hB⟩ := hB
  have hp := aPick_lt (v := a.2.2) h0
  have hC4 := hQ.1
  have hw := way_b hQ hB (show aPick q a.2.2 < 4 by omega)
  have hs := spd_b hQ hB hp
  obtain ⟨t1, t2, t3⟩ := time_b b1 b2 b3 hw hs.1 hs.2
  have r1 := natAbs_rN (a.1 * aSpd q a.2.2 (aPick q a.2.2) + aWay q a.2.2 (aPick q a.2.2) * a.2.1) (a.2.1 * aSpd q a.2.2 (aPick q a.2.2))
  have r2 := rD_pos (a := a.1 * aSpd q a.2.2 (aPick q a.2.2) + aWay q a.2.2 (aPick q a.2.2) * a.2.1) t2
  have r3 := rD_le (a := a.1 * aSpd q a.2.2 (aPick q a.2.2) + aWay q a.2.2 (aPick q a.2.2) * a.2.1) t2
  have hV := pass_VB hQ hB hw hs.1 hs.2 (up (vF a.2.2) (aPick q a.2.2) (!(vF a.2.2 (aPick q a.2.2))))
  have hL : ∀ (n k : Nat) (v : AV), k + n = aL q → VB q v MN MD → VB q (aLinks q (aPick q a.2.2) (aSide a.2.2 (aPick q a.2.2)) n k v) MN MD := by
    intro n
    induction n with
    | zero => intro k v _ h; exact h
    | succ n ih => intro k v hk h; exact ih (k + 1) _ (by omega) (aLink_b hQ h (by omega))
  exact ⟨by show (rN _ _).natAbs ≤ MN; unfold MN; omega, by show 1 ≤ rD _ _; omega, by show (rD _ _).natAbs ≤ MD; unfold MD; omega, hL _ 0 _ (by omega) hV⟩
theorem ev_ok {q : AC} {a : AM} (hQ : QOK q) (hB : AB q a 1000000 1000000) (h0 : 0 < aC q) (hs : aSpent q (aEv q a) = false) : AB q (aEv q a) 1000000 1000000 := by
  have hW := ev_AB hQ hB h0
  unfold aSpent at hs
  rw [Bool.or_eq_false_iff] at hs
  have h1 := big_no hs.1
  refine ⟨by omega, hW.2.1, by have := hW.2.1; omega, fun i hi => ?_, hW.2.2.2.2⟩
  obtain ⟨w1, w2, w3, w4⟩ := hW.2.2.2.1 i hi
  by_cases hc : i < aC q
  · have h2 := big_no (aSp_no _ _ hs.2 i (by omega) (by omega))
    exact ⟨by omega, w2, by omega, w4⟩
  · obtain ⟨e1, e2⟩ := aLinks_hi hQ (b := aPick q a.2.2) (z := aSide a.2.2 (aPick q a.2.2)) (aL q) 0 (aPassN q a.2.2 (aWay q a.2.2 (aPick q a.2.2)) (aSpd q a.2.2 (aPick q a.2.2)), aPassD q a.2.2 (aWay q a.2.2 (aPick q a.2.2)) (aSpd q a.2.2 (aPick q a.2.2)), up (vF a.2.2) (aPick q a.2.2) (!(vF a.2.2 (aPick q a.2.2))), vK a.2.2) i (by omega) (by omega)
    have f1 : vN (aEv q a).2.2 i = vN a.2.2 i := by
      show vN (aEvV q a.2.2) i = _
      unfold aEvV
      rw [e1]
      show aPassN q a.2.2 _ _ i = _
      unfold aPassN
      rw [if_neg hc]
    have f2 : vD (aEv q a).2.2 i = vD a.2.2 i := by
      show vD (aEvV q a.2.2) i = _
      unfold aEvV
      rw [e2]
      show aPassD q a.2.2 _ _ i = _
      unfold aPassD
      rw [if_neg hc]
    rw [f1, f2]
    exact hB.2.2.2.1 i hi
/-- the class does the event -/
theorem adv_ok {q : AC} {a : AM} {c : Ci} {s : Sw} (hQ : QOK q) (hC : CRep q c) (hS : SRep a s) (hB : AB q a 1000000 1000000) (h0 : 0 < aC q) :
    ∃ s2 : Sw, f_X1_advance s c = some (!(aSpent q (aEv q a)), s2) ∧ SRep (aEv q a) s2 ∧ s2.2.2.2.2.2.2.1 = nI (aPick q a.2.2) ∧ s2.2.2.2.2.2.2.2.1 = nI (aSide a.2.2 (aPick q a.2.2)) := by
  have hC4 := hQ.1
  obtain ⟨e1, e2, hV⟩ := hS
  obtain ⟨b1, b2, b3, hBV⟩ := id hB
  have hp := aPick_lt (v := a.2.2) h0
  have hp4 : aPick q a.2.2 < 4 := by omega
  have hw := way_b hQ hBV hp4
  have hs := spd_b hQ hBV hp
  obtain ⟨num2, den2, h1, h2⟩ := lt_ok (s := (s.1, s.2.1, s.2.2.1, s.2.2.2.1, s.2.2.2.2.1, s.2.2.2.2.2.1, nI (aPick q a.2.2), s.2.2.2.2.2.2.2.1, lI (aWay q a.2.2 (aPick q a.2.2)), lI (aSpd q a.2.2 (aPick q a.2.2)))) hQ hC hV hBV rfl rfl hw hs.1 hs.2 e1 e2 b1 b2 b3
  have hfl := (hV.1 _ hp4).2.2
  -- behind the turning
  have tail : ∀ (z : Nat) (f2 : Int32) (g2 : Bool), z = aSide a.2.2 (aPick q a.2.2) → f2 = b2i g2 → g2 = !(vF a.2.2 (aPick q a.2.2)) →
      ∃ s2 : Sw, f_X1_advance_J61 s c (nI (aPick q a.2.2), lI (aWay q a.2.2 (aPick q a.2.2)), lI (aSpd q a.2.2 (aPick q a.2.2))) (lI (rN (a.1 * aSpd q a.2.2 (aPick q a.2.2) + aWay q a.2.2 (aPick q a.2.2) * a.2.1) (a.2.1 * aSpd q a.2.2 (aPick q a.2.2))), lI (rD (a.1 * aSpd q a.2.2 (aPick q a.2.2) + aWay q a.2.2 (aPick q a.2.2) * a.2.1) (a.2.1 * aSpd q a.2.2 (aPick q a.2.2))), num2, den2) (nI z) f2 = some (!(aSpent q (aEv q a)), s2) ∧ SRep (aEv q a) s2 ∧ s2.2.2.2.2.2.2.1 = nI (aPick q a.2.2) ∧ s2.2.2.2.2.2.2.2.1 = nI (aSide a.2.2 (aPick q a.2.2)) := by
    intro z f2 g2 hz hf2 hg2
    subst hz
    have hV2 : VRep (aPassN q a.2.2 (aWay q a.2.2 (aPick q a.2.2)) (aSpd q a.2.2 (aPick q a.2.2)), aPassD q a.2.2 (aWay q a.2.2 (aPick q a.2.2)) (aSpd q a.2.2 (aPick q a.2.2)), up (vF a.2.2) (aPick q a.2.2) (!(vF a.2.2 (aPick q a.2.2))), vK a.2.2) num2 den2 (upd s.2.2.2.2.1 (aPick q a.2.2) (vp_nar .boolean f2)) s.2.2.2.2.2.1 := by
      have h3 : VRep (aPassN q a.2.2 (aWay q a.2.2 (aPick q a.2.2)) (aSpd q a.2.2 (aPick q a.2.2)), aPassD q a.2.2 (aWay q a.2.2 (aPick q a.2.2)) (aSpd q a.2.2 (aPick q a.2.2)), vF a.2.2, vK a.2.2) num2 den2 s.2.2.2.2.1 s.2.2.2.2.2.1 := ⟨fun i hi => ⟨(h2 i hi).1, (h2 i hi).2, (hV.1 i hi).2.2⟩, hV.2⟩
      rw [← hg2]
      exact h3.upF _ g2 hf2
    have hVB := pass_VB hQ hBV hw hs.1 hs.2 (up (vF a.2.2) (aPick q a.2.2) (!(vF a.2.2 (aPick q a.2.2))))
    obtain ⟨num3, den3, fil3, cnt3, g1, g3, g4⟩ := po_L (s := (lI (rN (a.1 * aSpd q a.2.2 (aPick q a.2.2) + aWay q a.2.2 (aPick q a.2.2) * a.2.1) (a.2.1 * aSpd q a.2.2 (aPick q a.2.2))), lI (rD (a.1 * aSpd q a.2.2 (aPick q a.2.2) + aWay q a.2.2 (aPick q a.2.2) * a.2.1) (a.2.1 * aSpd q a.2.2 (aPick q a.2.2))), num2, den2, upd s.2.2.2.2.1 (aPick q a.2.2) (vp_nar .boolean f2), s.2.2.2.2.2.1, nI (aPick q a.2.2), nI (aSide a.2.2 (aPick q a.2.2)), lI (aWay q a.2.2 (aPick q a.2.2)), lI (aSpd q a.2.2 (aPick q a.2.2)))) hQ hC hp4 (side_le a.2.2 _) rfl rfl (aL q) fuel 0 _ num2 den2 _ s.2.2.2.2.2.1 (by omega) (by have := hQ.2.1; unfold fuel; omega) hV2 hVB
    have hS2 : SRep (aEv q a) (lI (rN (a.1 * aSpd q a.2.2 (aPick q a.2.2) + aWay q a.2.2 (aPick q a.2.2) * a.2.1) (a.2.1 * aSpd q a.2.2 (aPick q a.2.2))), lI (rD (a.1 * aSpd q a.2.2 (aPick q a.2.2) + aWay q a.2.2 (aPick q a.2.2) * a.2.1) (a.2.1 * aSpd q a.2.2 (aPick q a.2.2))), num3, den3, fil3, cnt3, nI (aPick q a.2.2), nI (aSide a.2.2 (aPick q a.2.2)), lI (aWay q a.2.2 (aPick q a.2.2)), lI (aSpd q a.2.2 (aPick q a.2.2))) := ⟨rfl, rfl, g3⟩
    have hsp := isp_ok hQ hC hS2 (ev_AB hQ hB h0)
    refine ⟨_, ?_, hS2, rfl, rfl⟩
    unfold f_X1_advance_J61 f_X1_passOn
    rw [cl_nI (by omega)]
    rw [show (0 : Int32) = nI 0 from rfl] at *
    rw [g1]
    show ((f_X1_isSpent (lI (rN (a.1 * aSpd q a.2.2 (aPick q a.2.2) + aWay q a.2.2 (aPick q a.2.2) * a.2.1) (a.2.1 * aSpd q a.2.2 (aPick q a.2.2))), lI (rD (a.1 * aSpd q a.2.2 (aPick q a.2.2) + aWay q a.2.2 (aPick q a.2.2) * a.2.1) (a.2.1 * aSpd q a.2.2 (aPick q a.2.2))), num3, den3, fil3, cnt3, nI (aPick q a.2.2), nI (aSide a.2.2 (aPick q a.2.2)), lI (aWay q a.2.2 (aPick q a.2.2)), lI (aSpd q a.2.2 (aPick q a.2.2))) c).bind _) = _
    rw [hsp]
    cases aSpent q (aEv q a) <;> rfl
  unfold f_X1_advance
  rw [if_pos (by rw [hC.1]; exact fun h => by have := (nI_eq0 (by omega)).mp h; omega), ch_ok hQ hC hV hBV h0]
  show ∃ s2 : Sw, ((f_X1_letTimePass (s.1, s.2.1, s.2.2.1, s.2.2.2.1, s.2.2.2.2.1, s.2.2.2.2.2.1, nI (aPick q a.2.2), s.2.2.2.2.2.2.2.1, lI (aWay q a.2.2 (aPick q a.2.2)), lI (aSpd q a.2.2 (aPick q a.2.2))) c).bind _) = _ ∧ _
  rw [h1]
  show ∃ s2 : Sw, (gd (ib (nI (aPick q a.2.2)) 4) _) = _ ∧ _
  rw [gd_t _ (ib_nI hp4 (by omega))]
  dsimp only
  rw [cl_nI (show aPick q a.2.2 < 2147483648 by omega), hfl]
  cases hb : vF a.2.2 (aPick q a.2.2) with
  | true =>
    rw [if_neg (show ¬ b2i true = 0 by decide)]
    unfold f_X1_advance_J37
    rw [if_pos (show ¬ (0 : Int32) = 1 by decide)]
    exact tail 0 0 false (by unfold aSide; rw [hb]; rfl) rfl (by rw [hb]; rfl)
  | false =>
    rw [if_pos (show b2i false = 0 by decide)]
    unfold f_X1_advance_J37
    rw [if_neg (show ¬ ¬ (1 : Int32) = 1 by decide)]
    exact tail 1 1 true (by unfold aSide; rw [hb]; rfl) rfl (by rw [hb]; rfl)
end ADV
