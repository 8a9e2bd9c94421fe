section LINK
/-- a link more -/
def qLink (q : AC) (fr at' nt to ac : Nat) (b : Int) : AC := (aC q, aL q + 1, aLo q, aHi q, aRi q, aFa q, up (aFr q) (aL q) fr, up (aAt q) (aL q) at', up (aNt q) (aL q) nt, up (aTo q) (aL q) to, up (aAc q) (aL q) ac, up (aBy q) (aL q) b)
def isActP (x y : Int) : Prop := (x = 0 ∧ -20 ≤ y ∧ y ≤ 20) ∨ x = 1 ∨ (x = 2 ∧ (y = 0 ∨ y = 1))
theorem qLink_ok {q : AC} (hQ : QOK q) (hL : aL q < 8) {fr at' nt to ac : Nat} {b : Int} (h1 : fr < aC q) (h2 : at' ≤ 1) (h3 : 1 ≤ nt ∧ nt ≤ 9) (h4 : to < aC q) (h5 : isActP ac b) (hb : B31 b) : QOK (qLink q fr at' nt to ac b) := by
  obtain ⟨a1, a2, a3, a4, a5⟩ := hQ
  refine ⟨a1, show aL q + 1 ≤ 8 by omega, a3, a4, fun k hk => ?_⟩
  replace hk : k < aL q + 1 := hk
  show up (aFr q) (aL q) fr k < aC q ∧ up (aAt q) (aL q) at' k ≤ 1 ∧ 1 ≤ up (aNt q) (aL q) nt k ∧ up (aNt q) (aL q) nt k ≤ 9 ∧ up (aTo q) (aL q) to k < aC q ∧ up (aAc q) (aL q) ac k ≤ 2 ∧ (up (aAc q) (aL q) ac k = 0 → (up (aBy q) (aL q) b k).natAbs ≤ 20) ∧ (up (aAc q) (aL q) ac k = 2 → up (aBy q) (aL q) b k = 0 ∨ up (aBy q) (aL q) b k = 1) ∧ B31 (up (aBy q) (aL q) b k)
  by_cases e : k = aL q
  · subst e
    rw [up_s, up_s, up_s, up_s, up_s, up_s]
    unfold isActP at h5
    refine ⟨h1, h2, h3.1, h3.2, h4, by omega, fun hh => by omega, fun hh => by omega, hb⟩
  · rw [up_n e, up_n e, up_n e, up_n e, up_n e, up_n e]
    exact a5 k (by omega)
theorem qLink_C {q : AC} {gc : Ci} (hC : CRep q gc) {fr at' nt to ac : Nat} {b : Int} : CRep (qLink q fr at' nt to ac b) (gc.1, gc.2.1, gc.2.2.1, gc.2.2.2.1, gc.2.2.2.2.1, nI (aL q + 1), upd gc.2.2.2.2.2.2.1 (aL q) (nI fr), upd gc.2.2.2.2.2.2.2.1 (aL q) (nI at'), upd gc.2.2.2.2.2.2.2.2.1 (aL q) (nI nt), upd gc.2.2.2.2.2.2.2.2.2.1 (aL q) (nI to), upd gc.2.2.2.2.2.2.2.2.2.2.1 (aL q) (nI ac), upd gc.2.2.2.2.2.2.2.2.2.2.2 (aL q) (iI b)) := by
  obtain ⟨c1, c2, c3, c4⟩ := hC
  refine ⟨c1, rfl, c3, fun k hk => ?_⟩
  replace hk : k < aL q + 1 := hk
  show upd gc.2.2.2.2.2.2.1 (aL q) (nI fr) k = nI (up (aFr q) (aL q) fr k) ∧ upd gc.2.2.2.2.2.2.2.1 (aL q) (nI at') k = nI (up (aAt q) (aL q) at' k) ∧ upd gc.2.2.2.2.2.2.2.2.1 (aL q) (nI nt) k = nI (up (aNt q) (aL q) nt k) ∧ upd gc.2.2.2.2.2.2.2.2.2.1 (aL q) (nI to) k = nI (up (aTo q) (aL q) to k) ∧ upd gc.2.2.2.2.2.2.2.2.2.2.1 (aL q) (nI ac) k = nI (up (aAc q) (aL q) ac k) ∧ upd gc.2.2.2.2.2.2.2.2.2.2.2 (aL q) (iI b) k = iI (up (aBy q) (aL q) b k)
  by_cases e : k = aL q
  · subst e
    rw [up_s, up_s, up_s, up_s, up_s, up_s, uI_s, uI_s, uI_s, uI_s, uI_s, uI_s]
    exact ⟨rfl, rfl, rfl, rfl, rfl, rfl⟩
  · rw [up_n e, up_n e, up_n e, up_n e, up_n e, up_n e, uI_n e, uI_n e, uI_n e, uI_n e, uI_n e, uI_n e]
    exact c4 k (by omega)
def ar6 (p1 p2 p3 p4 p5 p6 : Int32) : Ar := upd (upd (upd (upd (upd (upd (fun _ => 0) (0 : Int32).toNatClampNeg p1) (1 : Int32).toNatClampNeg p2) (2 : Int32).toNatClampNeg p3) (3 : Int32).toNatClampNeg p4) (4 : Int32).toNatClampNeg p5) (5 : Int32).toNatClampNeg p6
theorem lk_L (m0 m5 : Ar) (m6 : Int32) (m7 : Al) (p1 p2 p3 p4 p5 p6 : Int32) {L : Nat} (hL : L < 8) (hm : m6 = nI L) : ∀ (n m i : Nat) (g : Ar), i + n = 6 → n < m → (∀ j, j < i → g (6 * L + j) = ar6 p1 p2 p3 p4 p5 p6 j) → (∀ j, j < 6 * L → g j = m5 j) →
    ∃ g2 : Ar, f_X3_link_L133 m0 m6 m7 p1 p2 p3 p4 p5 p6 m (nI i) g = (f_X3_resetAll m0 m7).bind (fun r20 => some (nI L, g2, nI (L + 1), r20, 0)) ∧ (∀ j, j < 6 → g2 (6 * L + j) = ar6 p1 p2 p3 p4 p5 p6 j) ∧ ∀ j, j < 6 * L → g2 j = m5 j := by
  intro n
  induction n with
  | zero =>
    intro m i g hin hmm hI hJ
    obtain ⟨m, rfl⟩ : ∃ m', m = m' + 1 := ⟨m - 1, by omega⟩
    refine ⟨g, ?_, fun j hj => hI j (by omega), hJ⟩
    show f_X3_link_B133 m0 m6 m7 p1 p2 p3 p4 p5 p6 (f_X3_link_L133 m0 m6 m7 p1 p2 p3 p4 p5 p6 m) (nI i) g = _
    unfold f_X3_link_B133
    simp only [bnd]
    have c7 : nI (L + 1) - 1 = nI L := by rw [nI_iI, show (1 : Int32) = iI 1 from rfl, iI_sub, nI_iI]; congr 1; omega
    rw [if_pos (show (6 : Int32) ≤ nI i by rw [show i = 6 by omega]; decide), hm, nI_1, c7]
  | succ n ih =>
    intro m i g hin hmm hI hJ
    obtain ⟨m, rfl⟩ : ∃ m', m = m' + 1 := ⟨m - 1, by omega⟩
    obtain ⟨g2, k1, k2, k3⟩ := ih m (i + 1) (upd g (6 * L + i) (ar6 p1 p2 p3 p4 p5 p6 i)) (by omega) (by omega) (fun j hj => by
      by_cases e : j = i
      · subst e; rw [uI_s]
      · rw [uI_n (by omega)]; exact hI j (by omega)) (fun j hj => by rw [uI_n (by omega)]; exact hJ j hj)
    refine ⟨g2, ?_, k2, k3⟩
    show f_X3_link_B133 m0 m6 m7 p1 p2 p3 p4 p5 p6 (f_X3_link_L133 m0 m6 m7 p1 p2 p3 p4 p5 p6 m) (nI i) g = _
    unfold f_X3_link_B133
    simp only [bnd]
    rw [if_neg (show ¬ (6 : Int32) ≤ nI i from nI_ge (a := i) (b := 6) (by omega) (by decide)), gd_t _ (ib_nI (show i < 6 by omega) (by omega)), hm, ix6, ixp, gd_t _ (ib_nI (show 6 * L + i < 48 by omega) (by omega)), cl_nI (show i < 2147483648 by omega), cl_nI (show 6 * L + i < 2147483648 by omega), nI_1]
    rw [hm] at k1
    exact k1
theorem act_c {x y : Int} (hx : B31 x) (hy : B31 y) : f_X2_isAct (iI x) (iI y) = some (decide ((x = 0 ∧ -20 ≤ y ∧ y ≤ 20) ∨ x = 1 ∨ (x = 2 ∧ (y = 0 ∨ y = 1)))) := by
  have e0 : (iI x = 0) = (x = 0) := eqE (b := 0) hx (by omega)
  have e1 : (iI x = 1) = (x = 1) := eqE (b := 1) hx (by omega)
  have e2 : (iI x = 2) = (x = 2) := eqE (b := 2) hx (by omega)
  have e3 : (iI y = 0) = (y = 0) := eqE (b := 0) hy (by omega)
  have e4 : (iI y = 1) = (y = 1) := eqE (b := 1) hy (by omega)
  have e5 : (iI y < -20) = (y < -20) := by rw [m20]; exact ltE hy (by omega)
  have e6 : ((20 : Int32) < iI y) = (20 < y) := ltE (a := 20) (by omega) hy
  unfold f_X2_isAct
  simp only [e0, e1, e2, e3, e4, e5, e6]
  by_cases h0 : x = 0
  · rw [if_pos h0]
    by_cases h1 : y < -20
    · rw [if_pos h1, decide_eq_false (by omega)]
    · rw [if_neg h1]
      by_cases h2 : 20 < y
      · rw [if_pos h2, decide_eq_false (by omega)]
      · rw [if_neg h2, decide_eq_true (by omega)]
  · rw [if_neg h0]
    by_cases h1 : x = 1
    · rw [if_pos h1, decide_eq_true (by omega)]
    · rw [if_neg h1]
      by_cases h2 : x = 2
      · rw [if_pos h2]
        by_cases h3 : y = 0
        · rw [if_pos h3, decide_eq_true (by omega)]
        · rw [if_neg h3]
          by_cases h4 : y = 1
          · rw [if_neg (show ¬ ¬ y = 1 from fun hh => hh h4), decide_eq_true (by omega)]
          · rw [if_pos h4, decide_eq_false (by omega)]
      · rw [if_neg h2, decide_eq_false (by omega)]
end LINK
