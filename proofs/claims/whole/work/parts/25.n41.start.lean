section START
/-- the moment at RESET -/
def aR0 (q : AC) : AM := (0, 1, aLo q, fun _ => 1, fun _ => true, fun _ => 0)
theorem rs_L52 (a b : Al) (c : Ar) : ∀ (n m i : Nat) (g : Ar), i + n = 8 → n < m → (∀ j, j < i → g j = nI 0) → ∃ g2 : Ar, f_X1_restart_L52 a b c m (nI i) g = some (0, 1, a, b, c, g2) ∧ ∀ j, j < 8 → g2 j = nI 0 := by
  intro n
  induction n with
  | zero =>
    intro m i g hin hm hI
    obtain ⟨m, rfl⟩ : ∃ m', m = m' + 1 := ⟨m - 1, by omega⟩
    refine ⟨g, ?_, fun j hj => hI j (by omega)⟩
    show f_X1_restart_B52 a b c (f_X1_restart_L52 a b c m) _ _ = _
    unfold f_X1_restart_B52
    rw [if_pos (show (8 : Int32) ≤ nI i by rw [show i = 8 by omega]; decide)]
  | succ n ih =>
    intro m i g hin hm hI
    obtain ⟨m, rfl⟩ : ∃ m', m = m' + 1 := ⟨m - 1, by omega⟩
    obtain ⟨g2, h1, h2⟩ := ih m (i + 1) (upd g i 0) (by omega) (by omega) (fun j hj => by
      by_cases e : j = i
      · subst e; rw [uI_s]; rfl
      · rw [uI_n e]; exact hI j (by omega))
    refine ⟨g2, ?_, h2⟩
    show f_X1_restart_B52 a b c (f_X1_restart_L52 a b c m) _ _ = _
    unfold f_X1_restart_B52
    rw [if_neg (show ¬ (8 : Int32) ≤ nI i from nI_ge (a := i) (b := 8) (by omega) (by decide)), gd_t _ (ib_nI (show i < 8 by omega) (by omega)), cl_nI (by omega), nI_1, h1]
theorem rs_L12 {q : AC} {c : Ci} (hQ : QOK q) (hC : CRep q c) (s : Sw) : ∀ (n m i : Nat) (a b : Al) (f : Ar), i + n = 4 → n < m → (∀ j, j < i → a j = lI (aLo q j) ∧ b j = lI 1 ∧ f j = b2i true) →
    ∃ (a2 b2 : Al) (f2 k2 : Ar), f_X1_restart_L12 s c m (nI i) a b f = some (0, 1, a2, b2, f2, k2) ∧ VRep (aR0 q).2.2 a2 b2 f2 k2 := by
  intro n
  induction n with
  | zero =>
    intro m i a b f hin hm hI
    obtain ⟨m, rfl⟩ : ∃ m', m = m' + 1 := ⟨m - 1, by omega⟩
    obtain ⟨g2, h1, h2⟩ := rs_L52 a b f 8 fuel 0 s.2.2.2.2.2.1 (by omega) (by unfold fuel; omega) (fun j hj => by omega)
    refine ⟨a, b, f, g2, ?_, fun j hj => hI j (by omega), fun k hk => h2 k hk⟩
    show f_X1_restart_B12 s c (f_X1_restart_L12 s c m) _ _ _ _ = _
    unfold f_X1_restart_B12
    rw [if_pos (show (4 : Int32) ≤ nI i by rw [show i = 4 by omega]; decide)]
    exact h1
  | succ n ih =>
    intro m i a b f hin hm hI
    obtain ⟨m, rfl⟩ : ∃ m', m = m' + 1 := ⟨m - 1, by omega⟩
    have hq := hQ.2.2.1 i (by omega)
    obtain ⟨a2, b2, f2, k2, h1, h2⟩ := ih m (i + 1) (vp_updL a i (lI (aLo q i))) (vp_updL b i 1) (upd f i (vp_nar .boolean 1)) (by omega) (by omega) (fun j hj => by
      by_cases e : j = i
      · subst e; rw [uL_s, uL_s, uI_s]; exact ⟨rfl, rfl, rfl⟩
      · rw [uL_n e, uL_n e, uI_n e]; exact hI j (by omega))
    refine ⟨a2, b2, f2, k2, ?_, h2⟩
    show f_X1_restart_B12 s c (f_X1_restart_L12 s c m) _ _ _ _ = _
    unfold f_X1_restart_B12
    simp only [bnd]
    rw [if_neg (show ¬ (4 : Int32) ≤ nI i from nI_ge (a := i) (b := 4) (by omega) (by decide)), gd_t _ (ib_nI (show i < 4 by omega) (by omega)), cl_nI (by omega), nI_1, (hC.2.2.1 i (by omega)).1, i2l_iI (show B31 (aLo q i) by omega), h1]
theorem rs_ok {q : AC} {c : Ci} (hQ : QOK q) (hC : CRep q c) (s : Sw) : ∃ (a2 b2 : Al) (f2 k2 : Ar), f_X1_restart s c = some (0, 1, a2, b2, f2, k2) ∧ VRep (aR0 q).2.2 a2 b2 f2 k2 :=
  rs_L12 hQ hC s 4 fuel 0 _ _ _ (by omega) (by unfold fuel; omega) (fun j hj => by omega)
theorem cf_L67 (o : Sw) (a b : Al) (c : Ar) : ∀ (n m i : Nat) (g : Ar), i + n = 8 → n < m → (∀ j, j < i → g j = o.2.2.2.2.2.1 j) → ∃ g2 : Ar, f_X1_copyFrom_L67 o a b c m (nI i) g = some (o.1, o.2.1, a, b, c, g2) ∧ ∀ j, j < 8 → g2 j = o.2.2.2.2.2.1 j := by
  intro n
  induction n with
  | zero =>
    intro m i g hin hm hI
    obtain ⟨m, rfl⟩ : ∃ m', m = m' + 1 := ⟨m - 1, by omega⟩
    refine ⟨g, ?_, fun j hj => hI j (by omega)⟩
    show f_X1_copyFrom_B67 o a b c (f_X1_copyFrom_L67 o a b c m) _ _ = _
    unfold f_X1_copyFrom_B67
    rw [if_pos (show (8 : Int32) ≤ nI i by rw [show i = 8 by omega]; decide)]
  | succ n ih =>
    intro m i g hin hm hI
    obtain ⟨m, rfl⟩ : ∃ m', m = m' + 1 := ⟨m - 1, by omega⟩
    obtain ⟨g2, h1, h2⟩ := ih m (i + 1) (upd g i (o.2.2.2.2.2.1 i)) (by omega) (by omega) (fun j hj => by
      by_cases e : j = i
      · subst e; rw [uI_s]
      · rw [uI_n e]; exact hI j (by omega))
    refine ⟨g2, ?_, h2⟩
    show f_X1_copyFrom_B67 o a b c (f_X1_copyFrom_L67 o a b c m) _ _ = _
    unfold f_X1_copyFrom_B67
    simp only [bnd]
    rw [if_neg (show ¬ (8 : Int32) ≤ nI i from nI_ge (a := i) (b := 8) (by omega) (by decide)), gd_t _ (ib_nI (show i < 8 by omega) (by omega)), cl_nI (by omega), nI_1, h1]
theorem nar_b (x : Bool) : vp_nar .boolean (b2i x) = b2i x := by cases x <;> rfl
theorem cf_L18 {v : AV} {o : Sw} (hV : VRep v o.2.2.1 o.2.2.2.1 o.2.2.2.2.1 o.2.2.2.2.2.1) (s : Sw) : ∀ (n m i : Nat) (a b : Al) (f : Ar), i + n = 4 → n < m → (∀ j, j < i → a j = lI (vN v j) ∧ b j = lI (vD v j) ∧ f j = b2i (vF v j)) →
    ∃ (a2 b2 : Al) (f2 k2 : Ar), f_X1_copyFrom_L18 s o m (nI i) a b f = some (o.1, o.2.1, a2, b2, f2, k2) ∧ VRep v a2 b2 f2 k2 := by
  intro n
  induction n with
  | zero =>
    intro m i a b f hin hm hI
    obtain ⟨m, rfl⟩ : ∃ m', m = m' + 1 := ⟨m - 1, by omega⟩
    obtain ⟨g2, h1, h2⟩ := cf_L67 o a b f 8 fuel 0 s.2.2.2.2.2.1 (by omega) (by unfold fuel; omega) (fun j hj => by omega)
    refine ⟨a, b, f, g2, ?_, fun j hj => hI j (by omega), fun k hk => (h2 k hk).trans (hV.2 k hk)⟩
    show f_X1_copyFrom_B18 s o (f_X1_copyFrom_L18 s o m) _ _ _ _ = _
    unfold f_X1_copyFrom_B18
    rw [if_pos (show (4 : Int32) ≤ nI i by rw [show i = 4 by omega]; decide)]
    exact h1
  | succ n ih =>
    intro m i a b f hin hm hI
    obtain ⟨m, rfl⟩ : ∃ m', m = m' + 1 := ⟨m - 1, by omega⟩
    obtain ⟨g1, g2, g3⟩ := hV.1 i (by omega)
    obtain ⟨a2, b2, f2, k2, h1, h2⟩ := ih m (i + 1) (vp_updL a i (lI (vN v i))) (vp_updL b i (lI (vD v i))) (upd f i (vp_nar .boolean (b2i (vF v i)))) (by omega) (by omega) (fun j hj => by
      by_cases e : j = i
      · subst e; rw [uL_s, uL_s, uI_s]; exact ⟨rfl, rfl, nar_b _⟩
      · rw [uL_n e, uL_n e, uI_n e]; exact hI j (by omega))
    refine ⟨a2, b2, f2, k2, ?_, h2⟩
    show f_X1_copyFrom_B18 s o (f_X1_copyFrom_L18 s o m) _ _ _ _ = _
    unfold f_X1_copyFrom_B18
    simp only [bnd]
    rw [if_neg (show ¬ (4 : Int32) ≤ nI i from nI_ge (a := i) (b := 4) (by omega) (by decide)), gd_t _ (ib_nI (show i < 4 by omega) (by omega)), cl_nI (by omega), nI_1, g1, g2, g3, h1]
theorem cf_ok {a : AM} {o : Sw} (hS : SRep a o) (s : Sw) : ∃ (a2 b2 : Al) (f2 k2 : Ar), f_X1_copyFrom s o = some (lI a.1, lI a.2.1, a2, b2, f2, k2) ∧ VRep a.2.2 a2 b2 f2 k2 := by
  obtain ⟨e1, e2, hV⟩ := hS
  obtain ⟨a2, b2, f2, k2, h1, h2⟩ := cf_L18 hV s 4 fuel 0 s.2.2.1 s.2.2.2.1 s.2.2.2.2.1 (by omega) (by unfold fuel; omega) (fun j hj => by omega)
  rw [e1, e2] at h1
  exact ⟨a2, b2, f2, k2, h1, h2⟩
theorem sa_L (r1 : Int64 × Int64 × Al × Al × Ar × Ar) : ∀ (n m i : Nat) (f g : Ar), i + n = 4 → n < m → (∀ j, j < i → f j = nI 0 ∧ g j = nI 0) →
    ∃ (f2 g2 : Ar), f_X2_startAgain_L18 r1 m (nI i) f g = some (0, f2, g2, r1.1, r1.2.1, r1.2.2.1, r1.2.2.2.1, r1.2.2.2.2.1, r1.2.2.2.2.2) ∧ ∀ j, j < 4 → f2 j = nI 0 ∧ g2 j = nI 0 := by
  intro n
  induction n with
  | zero =>
    intro m i f g hin hm hI
    obtain ⟨m, rfl⟩ : ∃ m', m = m' + 1 := ⟨m - 1, by omega⟩
    refine ⟨f, g, ?_, fun j hj => hI j (by omega)⟩
    show f_X2_startAgain_B18 r1 (f_X2_startAgain_L18 r1 m) _ _ _ = _
    unfold f_X2_startAgain_B18
    rw [if_pos (show (4 : Int32) ≤ nI i by rw [show i = 4 by omega]; decide)]
  | succ n ih =>
    intro m i f g hin hm hI
    obtain ⟨m, rfl⟩ : ∃ m', m = m' + 1 := ⟨m - 1, by omega⟩
    obtain ⟨f2, g2, h1, h2⟩ := ih m (i + 1) (upd f i 0) (upd g i 0) (by omega) (by omega) (fun j hj => by
      by_cases e : j = i
      · subst e; rw [uI_s, uI_s]; exact ⟨rfl, rfl⟩
      · rw [uI_n e, uI_n e]; exact hI j (by omega))
    refine ⟨f2, g2, ?_, h2⟩
    show f_X2_startAgain_B18 r1 (f_X2_startAgain_L18 r1 m) _ _ _ = _
    unfold f_X2_startAgain_B18
    rw [if_neg (show ¬ (4 : Int32) ≤ nI i from nI_ge (a := i) (b := 4) (by omega) (by decide)), gd_t _ (ib_nI (show i < 4 by omega) (by omega)), cl_nI (by omega), nI_1, h1]
theorem sa_ok {q : AC} {c : Ci} (hQ : QOK q) (hC : CRep q c) (x : Xo) (s : Sw) : ∃ (f2 g2 : Ar) (a2 b2 : Al) (u2 k2 : Ar), f_X2_startAgain x c s = some (0, f2, g2, 0, 1, a2, b2, u2, k2) ∧ VRep (aR0 q).2.2 a2 b2 u2 k2 ∧ ∀ j, j < 4 → f2 j = nI 0 ∧ g2 j = nI 0 := by
  obtain ⟨a2, b2, u2, k2, h1, h2⟩ := rs_ok hQ hC s
  obtain ⟨f2, g2, h3, h4⟩ := sa_L (0, 1, a2, b2, u2, k2) 4 fuel 0 x.2.1 x.2.2.1 (by omega) (by unfold fuel; omega) (fun j hj => by omega)
  refine ⟨f2, g2, a2, b2, u2, k2, ?_, h2, h4⟩
  unfold f_X2_startAgain
  rw [h1, Option.bind_some]
  rw [show (nI 0 : Int32) = 0 from rfl] at h3
  exact h3
/-- the reference's start -/
theorem ra_L31 {q : AC} {m0 : Ar} (hQ : QOK q) (hm0 : ∀ i, i < 4 → m0 i = iI (aLo q i)) : ∀ (n m i : Nat) (r : Al), i + n = 4 → n < m → (∀ j, j < i → r (2 * j) = lI (aLo q j) ∧ r (2 * j + 1) = lI 1 ∧ r (8 + j) = lI 1) → (∀ j, 12 ≤ j → j < 31 → r j = if j = 21 then 1 else 0) →
    ∃ r2 : Al, f_X3_resetAll_L31 m0 m (nI i) r = some r2 ∧ RRep (aR0 q) r2 ∧ ∀ j, 22 ≤ j → j < 31 → r2 j = 0 := by
  intro n
  induction n with
  | zero =>
    intro m i r hin hm hI hJ
    obtain ⟨m, rfl⟩ : ∃ m', m = m' + 1 := ⟨m - 1, by omega⟩
    refine ⟨r, ?_, ⟨?_, ?_, fun j hj => hI j (by omega), fun k hk => ?_⟩, fun j h1 h2 => ?_⟩
    · show f_X3_resetAll_B31 m0 (f_X3_resetAll_L31 m0 m) _ _ = _
      unfold f_X3_resetAll_B31
      rw [if_pos (show (4 : Int32) ≤ nI i by rw [show i = 4 by omega]; decide)]
    · rw [hJ 20 (by omega) (by omega), if_neg (by omega)]; rfl
    · rw [hJ 21 (by omega) (by omega), if_pos rfl]; rfl
    · rw [hJ _ (by omega) (by omega), if_neg (by omega)]; rfl
    · rw [hJ _ (by omega) (by omega), if_neg (by omega)]
  | succ n ih =>
    intro m i r hin hm hI hJ
    obtain ⟨m, rfl⟩ : ∃ m', m = m' + 1 := ⟨m - 1, by omega⟩
    have hq := hQ.2.2.1 i (by omega)
    obtain ⟨r2, h1, h2⟩ := ih m (i + 1) (vp_updL (vp_updL (vp_updL r (2 * i) (lI (aLo q i))) (2 * i + 1) 1) (8 + i) 1) (by omega) (by omega) (fun j hj => by
      by_cases e : j = i
      · subst e
        rw [uL_n (show 2 * j ≠ 8 + j by omega), uL_n (show 2 * j ≠ 2 * j + 1 by omega), uL_s, uL_n (show 2 * j + 1 ≠ 8 + j by omega), uL_s, uL_s]
        exact ⟨rfl, rfl, rfl⟩
      · rw [uL_n (show 2 * j ≠ 8 + i by omega), uL_n (show 2 * j ≠ 2 * i + 1 by omega), uL_n (show 2 * j ≠ 2 * i by omega), uL_n (show 2 * j + 1 ≠ 8 + i by omega), uL_n (show 2 * j + 1 ≠ 2 * i + 1 by omega), uL_n (show 2 * j + 1 ≠ 2 * i by omega), uL_n (show 8 + j ≠ 8 + i by omega), uL_n (show 8 + j ≠ 2 * i + 1 by omega), uL_n (show 8 + j ≠ 2 * i by omega)]
        exact hI j (by omega)) (fun j j1 j2 => by
        rw [uL_n (by omega), uL_n (by omega), uL_n (by omega)]
        exact hJ j j1 j2)
    refine ⟨r2, ?_, h2⟩
    show f_X3_resetAll_B31 m0 (f_X3_resetAll_L31 m0 m) _ _ = _
    unfold f_X3_resetAll_B31
    simp only [bnd]
    rw [if_neg (show ¬ (4 : Int32) ≤ nI i from nI_ge (a := i) (b := 4) (by omega) (by decide)), gd_t _ (ib_nI (show i < 4 by omega) (by omega)), ix0, ix1, ix8, gd_t _ (ib_nI (show 2 * i < 31 by omega) (by omega)), gd_t _ (ib_nI (show 2 * i + 1 < 31 by omega) (by omega)), gd_t _ (ib_nI (show 8 + i < 31 by omega) (by omega)), cl_nI (show i < 2147483648 by omega), cl_nI (show 2 * i < 2147483648 by omega), cl_nI (show 2 * i + 1 < 2147483648 by omega), cl_nI (show 8 + i < 2147483648 by omega), nI_1, hm0 i (by omega), i2l_iI (show B31 (aLo q i) by omega), h1]
theorem ra_L2 {q : AC} {m0 : Ar} (hQ : QOK q) (hm0 : ∀ i, i < 4 → m0 i = iI (aLo q i)) : ∀ (n m i : Nat) (r : Al), i + n = 31 → n < m → (∀ j, j < i → r j = 0) →
    ∃ r2 : Al, f_X3_resetAll_L2 m0 m (nI i) r = some r2 ∧ RRep (aR0 q) r2 ∧ ∀ j, 22 ≤ j → j < 31 → r2 j = 0 := by
  intro n
  induction n with
  | zero =>
    intro m i r hin hm hI
    obtain ⟨m, rfl⟩ : ∃ m', m = m' + 1 := ⟨m - 1, by omega⟩
    obtain ⟨r2, h1, h2⟩ := ra_L31 hQ hm0 4 fuel 0 (vp_updL r 21 1) (by omega) (by unfold fuel; omega) (fun j hj => by omega) (fun j j1 j2 => by
      rw [uL_def]
      split
      · rfl
      · exact hI j (by omega))
    refine ⟨r2, ?_, h2⟩
    show f_X3_resetAll_B2 m0 (f_X3_resetAll_L2 m0 m) _ _ = _
    unfold f_X3_resetAll_B2
    rw [if_pos (show (31 : Int32) ≤ nI i by rw [show i = 31 by omega]; decide), gd_t _ (by decide)]
    exact h1
  | succ n ih =>
    intro m i r hin hm hI
    obtain ⟨m, rfl⟩ : ∃ m', m = m' + 1 := ⟨m - 1, by omega⟩
    obtain ⟨r2, h1, h2⟩ := ih m (i + 1) (vp_updL r i 0) (by omega) (by omega) (fun j hj => by
      by_cases e : j = i
      · subst e; rw [uL_s]
      · rw [uL_n e]; exact hI j (by omega))
    refine ⟨r2, ?_, h2⟩
    show f_X3_resetAll_B2 m0 (f_X3_resetAll_L2 m0 m) _ _ = _
    unfold f_X3_resetAll_B2
    rw [if_neg (show ¬ (31 : Int32) ≤ nI i from nI_ge (a := i) (b := 31) (by omega) (by decide)), gd_t _ (ib_nI (show i < 31 by omega) (by omega)), cl_nI (by omega), nI_1, h1]
theorem ra_ok {q : AC} {m0 : Ar} (hQ : QOK q) (hm0 : ∀ i, i < 4 → m0 i = iI (aLo q i)) (m7 : Al) : ∃ r2 : Al, f_X3_resetAll m0 m7 = some r2 ∧ RRep (aR0 q) r2 ∧ ∀ j, 22 ≤ j → j < 31 → r2 j = 0 :=
  ra_L2 hQ hm0 31 fuel 0 m7 (by omega) (by unfold fuel; omega) (fun j hj => by omega)
theorem r0_AB {q : AC} (hQ : QOK q) : AB q (aR0 q) 1000000 1000000 := by
  refine ⟨show (0 : Int).natAbs ≤ 1000000 by decide, show (1 : Int) ≤ 1 by decide, show (1 : Int).natAbs ≤ 1000000 by decide, fun i hi => ?_, fun k hk => ?_, fun k hk => ?_⟩
  · have hq := hQ.2.2.1 i hi
    refine ⟨?_, ?_, ?_, ?_⟩
    · show (aLo q i).natAbs ≤ 1000000
      omega
    · show (1 : Int) ≤ 1
      omega
    · show (1 : Int).natAbs ≤ 1000000
      decide
    · show Int.gcd (aLo q i) 1 = 1
      exact Int.gcd_one
  · have hk2 := hQ.2.2.2.2 k hk
    show 0 < aNt q k
    omega
  · show 0 < 10
    decide
end START
