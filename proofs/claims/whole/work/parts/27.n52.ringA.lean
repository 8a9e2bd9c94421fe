section RINGA
theorem ltN {a b : Nat} (ha : a < 2147483648) (hb : b < 2147483648) : (nI a < nI b) = (a < b) := by
  rw [nI_iI, nI_iI]
  exact (ltE (by omega) (by omega)).trans (propext ⟨fun hh => by omega, fun hh => by omega⟩)
theorem ix6r (i : Nat) : nI i * 6 = nI (6 * i) := by rw [show (6 : Int32) = nI 6 from rfl, pk_mul, Nat.mul_comm]
theorem ix31 (i : Nat) : 31 * nI i = nI (31 * i) := pk_mul 31 i
/-- the marks, packed -/
def mF (v : AV) : Nat → Int
  | 0 => 0
  | n + 1 => mF v n * 2 + bI (vF v n)
def mK (v : AV) : Nat → Int
  | 0 => mF v 4
  | n + 1 => mK v n * 16 + (vK v n : Int)
theorem bI_b (b : Bool) : 0 ≤ bI b ∧ bI b ≤ 1 := by cases b <;> decide
theorem bI_inj {a b : Bool} (h : bI a = bI b) : a = b := by
  cases a <;> cases b <;> first | rfl | (exact absurd h (by decide))
theorem mF_b (v : AV) : 0 ≤ mF v 4 ∧ mF v 4 < 16 := by
  have h0 := bI_b (vF v 0)
  have h1 := bI_b (vF v 1)
  have h2 := bI_b (vF v 2)
  have h3 := bI_b (vF v 3)
  simp only [mF]
  omega
theorem mK_b {v : AV} (h : ∀ k, k < 8 → vK v k < 10) : B63 (mK v 8) := by
  have hf := mF_b v
  have h0 := h 0 (by omega)
  have h1 := h 1 (by omega)
  have h2 := h 2 (by omega)
  have h3 := h 3 (by omega)
  have h4 := h 4 (by omega)
  have h5 := h 5 (by omega)
  have h6 := h 6 (by omega)
  have h7 := h 7 (by omega)
  show B63 ((((((((mF v 4 * 16 + (vK v 0 : Int)) * 16 + (vK v 1 : Int)) * 16 + (vK v 2 : Int)) * 16 + (vK v 3 : Int)) * 16 + (vK v 4 : Int)) * 16 + (vK v 5 : Int)) * 16 + (vK v 6 : Int)) * 16 + (vK v 7 : Int))
  generalize mF v 4 = x at *
  omega
theorem mK_inj {v w : AV} (hv : ∀ k, k < 8 → vK v k < 10) (hw : ∀ k, k < 8 → vK w k < 10) : ∀ n, n ≤ 8 → mK v n = mK w n → (∀ k, k < n → vK v k = vK w k) ∧ mF v 4 = mF w 4 := by
  intro n
  induction n with
  | zero => intro _ h; exact ⟨fun k hk => absurd hk (Nat.not_lt_zero k), h⟩
  | succ n ih =>
    intro hn h
    have h1 := hv n (by omega)
    have h2 := hw n (by omega)
    have h3 : mK v n * 16 + (vK v n : Int) = mK w n * 16 + (vK w n : Int) := h
    obtain ⟨i1, i2⟩ := ih (by omega) (by omega)
    refine ⟨fun k hk => ?_, i2⟩
    by_cases e : k = n
    · subst e; omega
    · exact i1 k (by omega)
theorem mF_inj {v w : AV} : ∀ n, mF v n = mF w n → ∀ k, k < n → vF v k = vF w k := by
  intro n
  induction n with
  | zero => intro _ k hk; exact absurd hk (Nat.not_lt_zero k)
  | succ n ih =>
    intro h k hk
    have h1 := bI_b (vF v n)
    have h2 := bI_b (vF w n)
    have h3 : mF v n * 2 + bI (vF v n) = mF w n * 2 + bI (vF w n) := h
    by_cases e : k = n
    · subst e; exact bI_inj (by omega)
    · exact ih (by omega) k (by omega)
theorem pm_L39 {v : AV} {s : Sw} (hV : VRep v s.2.2.1 s.2.2.2.1 s.2.2.2.2.1 s.2.2.2.2.2.1) (hB : ∀ k, k < 8 → vK v k < 10) : ∀ (n m i : Nat), i + n = 8 → n < m → f_X1_packedMarks_L39 s m (lI (mK v i)) (nI i) = some (lI (mK v 8)) := by
  intro n
  induction n with
  | zero =>
    intro m i hin hm
    obtain ⟨m, rfl⟩ : ∃ m', m = m' + 1 := ⟨m - 1, by omega⟩
    obtain rfl : i = 8 := by omega
    show f_X1_packedMarks_B39 s (f_X1_packedMarks_L39 s m) _ _ = _
    unfold f_X1_packedMarks_B39
    rw [if_pos (show (8 : Int32) ≤ nI 8 by decide)]
  | succ n ih =>
    intro m i hin hm
    obtain ⟨m, rfl⟩ : ∃ m', m = m' + 1 := ⟨m - 1, by omega⟩
    have hk := hB i (by omega)
    show f_X1_packedMarks_B39 s (f_X1_packedMarks_L39 s m) _ _ = _
    unfold f_X1_packedMarks_B39
    simp only [bnd]
    rw [if_neg (show ¬ (8 : Int32) ≤ nI i from nI_ge (a := i) (b := 8) (by omega) (by decide)), gd_t _ (ib_nI (show i < 8 by omega) (by omega)), cl_nI (by omega), hV.2 i (by omega), n2l (by omega), shl_lI _ 4 _ 16 (by decide) (by decide), lI_add, nI_1]
    exact ih m (i + 1) (by omega) (by omega)
theorem pm_L4 {v : AV} {s : Sw} (hV : VRep v s.2.2.1 s.2.2.2.1 s.2.2.2.2.1 s.2.2.2.2.2.1) (hB : ∀ k, k < 8 → vK v k < 10) : ∀ (n m i : Nat), i + n = 4 → n < m → f_X1_packedMarks_L4 s m (lI (mF v i)) (nI i) = some (lI (mK v 8)) := by
  intro n
  induction n with
  | zero =>
    intro m i hin hm
    obtain ⟨m, rfl⟩ : ∃ m', m = m' + 1 := ⟨m - 1, by omega⟩
    obtain rfl : i = 4 := by omega
    show f_X1_packedMarks_B4 s (f_X1_packedMarks_L4 s m) _ _ = _
    unfold f_X1_packedMarks_B4
    rw [if_pos (show (4 : Int32) ≤ nI 4 by decide)]
    exact pm_L39 hV hB 8 fuel 0 (by omega) (by unfold fuel; omega)
  | succ n ih =>
    intro m i hin hm
    obtain ⟨m, rfl⟩ : ∃ m', m = m' + 1 := ⟨m - 1, by omega⟩
    have hI := ih m (i + 1) (by omega) (by omega)
    have hM : mF v (i + 1) = mF v i * 2 + bI (vF v i) := rfl
    rw [hM] at hI
    show f_X1_packedMarks_B4 s (f_X1_packedMarks_L4 s m) _ _ = _
    unfold f_X1_packedMarks_B4 f_X1_packedMarks_J28
    simp only [bnd]
    rw [if_neg (show ¬ (4 : Int32) ≤ nI i from nI_ge (a := i) (b := 4) (by omega) (by decide)), gd_t _ (ib_nI (show i < 4 by omega) (by omega)), cl_nI (by omega), (hV.1 i (by omega)).2.2, show (2 : Int64) = lI 2 from rfl, lI_mul, show (0 : Int32).toInt64 = lI 0 from rfl, show (1 : Int32).toInt64 = lI 1 from rfl, lI_add, lI_add, nI_1]
    cases hf : vF v i with
    | true =>
      rw [hf] at hI
      rw [if_neg (show ¬ b2i true = 0 by decide)]
      exact hI
    | false =>
      rw [hf] at hI
      rw [if_pos (show b2i false = 0 by decide)]
      exact hI
theorem pm_ok {v : AV} {s : Sw} (hV : VRep v s.2.2.1 s.2.2.2.1 s.2.2.2.2.1 s.2.2.2.2.2.1) (hB : ∀ k, k < 8 → vK v k < 10) : f_X1_packedMarks s = some (lI (mK v 8)) := pm_L4 hV hB 4 fuel 0 (by omega) (by unfold fuel; omega)
/-- a row of the trail -/
def TRow (a : AM) (p z i : Nat) (tr : Al) : Prop := (∀ c, c < 4 → tr (6 * i + c) = lI (vN a.2.2 c * 1048576 + vD a.2.2 c)) ∧ tr (6 * i + 4) = lI (mK a.2.2 8) ∧ tr (6 * i + 5) = lI (pkE a.1 a.2.1 p z)
theorem TRow.keep {a : AM} {p z i j : Nat} {tr tr2 : Al} (h : TRow a p z i tr) (hij : i < j) (hk : ∀ l, l < 6 * j → tr2 l = tr l) : TRow a p z i tr2 :=
  ⟨fun c hc => (hk _ (by omega)).trans (h.1 c hc), (hk _ (by omega)).trans h.2.1, (hk _ (by omega)).trans h.2.2⟩
theorem wt_L {a : AM} {s : Sw} {p z i : Nat} (hS : SRep a s) (hB : ∀ k, k < 8 → vK a.2.2 k < 10) (hp : p < 4) (hz : z ≤ 1) (e7 : s.2.2.2.2.2.2.1 = nI p) (e8 : s.2.2.2.2.2.2.2.1 = nI z) (hi : i ≤ 300) :
    ∀ (n m c : Nat) (tr : Al), c + n = 4 → n < m → (∀ d, d < c → tr (6 * i + d) = lI (vN a.2.2 d * 1048576 + vD a.2.2 d)) → ∃ tr2 : Al, f_X2_writeTrail_L7 s (nI (6 * i)) m (nI c) tr = some tr2 ∧ TRow a p z i tr2 ∧ ∀ j, j < 6 * i → tr2 j = tr j := by
  intro n
  induction n with
  | zero =>
    intro m c tr hin hm hI
    obtain ⟨m, rfl⟩ : ∃ m', m = m' + 1 := ⟨m - 1, by omega⟩
    refine ⟨vp_updL (vp_updL tr (6 * i + 4) (lI (mK a.2.2 8))) (6 * i + 5) (lI (pkE a.1 a.2.1 p z)), ?_, ⟨fun d hd => ?_, ?_, ?_⟩, fun j hj => ?_⟩
    · show f_X2_writeTrail_B7 s (nI (6 * i)) (f_X2_writeTrail_L7 s (nI (6 * i)) m) _ _ = _
      unfold f_X2_writeTrail_B7
      rw [if_pos (show (4 : Int32) ≤ nI c by rw [show c = 4 by omega]; decide), pm_ok hS.2.2 hB, Option.bind_some, show nI (6 * i) + 4 = nI (6 * i + 4) from ixp (6 * i) 4, show nI (6 * i) + 5 = nI (6 * i + 5) from ixp (6 * i) 5, gd_t _ (ib_nI (show 6 * i + 4 < 1806 by omega) (by omega)), pe_ok hS hp hz e7 e8, Option.bind_some, gd_t _ (ib_nI (show 6 * i + 5 < 1806 by omega) (by omega)), cl_nI (by omega), cl_nI (by omega)]
    · rw [uL_n (by omega), uL_n (by omega)]; exact hI d (by omega)
    · rw [uL_n (by omega), uL_s]
    · rw [uL_s]
    · rw [uL_n (by omega), uL_n (by omega)]
  | succ n ih =>
    intro m c tr hin hm hI
    obtain ⟨m, rfl⟩ : ∃ m', m = m' + 1 := ⟨m - 1, by omega⟩
    obtain ⟨tr2, k1, k2, k3⟩ := ih m (c + 1) (vp_updL tr (6 * i + c) (lI (vN a.2.2 c * 1048576 + vD a.2.2 c))) (by omega) (by omega) (fun d hd => by
      by_cases e : d = c
      · subst e; rw [uL_s]
      · rw [uL_n (by omega)]; exact hI d (by omega))
    refine ⟨tr2, ?_, k2, fun j hj => by rw [k3 j hj, uL_n (by omega)]⟩
    obtain ⟨v1, v2, -⟩ := hS.2.2.1 c (by omega)
    show f_X2_writeTrail_B7 s (nI (6 * i)) (f_X2_writeTrail_L7 s (nI (6 * i)) m) _ _ = _
    unfold f_X2_writeTrail_B7 f_X2_packed
    rw [if_neg (show ¬ (4 : Int32) ≤ nI c from nI_ge (a := c) (b := 4) (by omega) (by decide)), gd_t _ (ib_nI (show c < 4 by omega) (by omega)), Option.bind_some, ixp, gd_t _ (ib_nI (show 6 * i + c < 1806 by omega) (by omega)), cl_nI (show c < 2147483648 by omega), cl_nI (show 6 * i + c < 2147483648 by omega), v1, v2, shl_lI _ 20 _ 1048576 (by decide) (by decide), lI_add, nI_1]
    exact k1
theorem wt_ok {a : AM} {s : Sw} {p z i : Nat} (gx : Xo) (hS : SRep a s) (hB : ∀ k, k < 8 → vK a.2.2 k < 10) (hp : p < 4) (hz : z ≤ 1) (e7 : s.2.2.2.2.2.2.1 = nI p) (e8 : s.2.2.2.2.2.2.2.1 = nI z) (hi : i ≤ 300) :
    ∃ tr2 : Al, f_X2_writeTrail gx s (nI i) = some tr2 ∧ TRow a p z i tr2 ∧ ∀ j, j < 6 * i → tr2 j = gx.2.2.2.2.1 j := by
  obtain ⟨tr2, k1, k2, k3⟩ := wt_L hS hB hp hz e7 e8 hi 4 fuel 0 gx.2.2.2.2.1 (by omega) (by unfold fuel; omega) (fun d hd => by omega)
  refine ⟨tr2, ?_, k2, k3⟩
  unfold f_X2_writeTrail
  simp only [bnd]
  rw [ix6r]
  exact k1
/-- the reference keeps a row -/
theorem kp_L (r : Al) {i : Nat} (hi : i ≤ 300) : ∀ (n m k : Nat) (st : Al), k + n = 31 → n < m → (∀ d, d < k → st (31 * i + d) = r d) → ∃ st2 : Al, f_X3_keep_L2 r (nI i) m (nI k) st = some st2 ∧ (∀ d, d < 31 → st2 (31 * i + d) = r d) ∧ ∀ j, j < 31 * i → st2 j = st j := by
  intro n
  induction n with
  | zero =>
    intro m k st hin hm hI
    obtain ⟨m, rfl⟩ : ∃ m', m = m' + 1 := ⟨m - 1, by omega⟩
    refine ⟨st, ?_, fun d hd => hI d (by omega), fun _ _ => rfl⟩
    show f_X3_keep_B2 r (nI i) (f_X3_keep_L2 r (nI i) m) _ _ = _
    unfold f_X3_keep_B2
    rw [if_pos (show (31 : Int32) ≤ nI k by rw [show k = 31 by omega]; decide)]
  | succ n ih =>
    intro m k st hin hm hI
    obtain ⟨m, rfl⟩ : ∃ m', m = m' + 1 := ⟨m - 1, by omega⟩
    obtain ⟨st2, k1, k2, k3⟩ := ih m (k + 1) (vp_updL st (31 * i + k) (r k)) (by omega) (by omega) (fun d hd => by
      by_cases e : d = k
      · subst e; rw [uL_s]
      · rw [uL_n (by omega)]; exact hI d (by omega))
    refine ⟨st2, ?_, k2, fun j hj => by rw [k3 j hj, uL_n (by omega)]⟩
    show f_X3_keep_B2 r (nI i) (f_X3_keep_L2 r (nI i) m) _ _ = _
    unfold f_X3_keep_B2
    simp only [bnd]
    rw [if_neg (show ¬ (31 : Int32) ≤ nI k from nI_ge (a := k) (b := 31) (by omega) (by decide)), gd_t _ (ib_nI (show k < 31 by omega) (by omega)), ix31, ixp, gd_t _ (ib_nI (show 31 * i + k < 9331 by omega) (by omega)), cl_nI (show k < 2147483648 by omega), cl_nI (show 31 * i + k < 2147483648 by omega), nI_1]
    exact k1
theorem kp_ok (r st : Al) {i : Nat} (hi : i ≤ 300) : ∃ st2 : Al, f_X3_keep r st (nI i) = some st2 ∧ (∀ d, d < 31 → st2 (31 * i + d) = r d) ∧ ∀ j, j < 31 * i → st2 j = st j := kp_L r hi 31 fuel 0 st (by omega) (by unfold fuel; omega) (fun d hd => by omega)
/-! the same STATE -/
def sameV (v w : AV) : Prop := (∀ c, c < 4 → vN v c = vN w c ∧ vD v c = vD w c ∧ vF v c = vF w c) ∧ ∀ k, k < 8 → vK v k = vK w k
theorem ss_L (gx : Xo) {i j : Nat} (hi : i ≤ 300) (hj : j ≤ 300) : ∀ (n m c : Nat), c + n = 5 → n < m → ∃ b : Bool, f_X2_isSameState_L2 gx (nI (6 * i)) (nI (6 * j)) m (nI c) = some b ∧ (b = true ↔ ∀ d, c ≤ d → d < 5 → gx.2.2.2.2.1 (6 * i + d) = gx.2.2.2.2.1 (6 * j + d)) := by
  intro n
  induction n with
  | zero =>
    intro m c hin hm
    obtain ⟨m, rfl⟩ : ∃ m', m = m' + 1 := ⟨m - 1, by omega⟩
    refine ⟨true, ?_, ⟨fun _ d h1 h2 => by omega, fun _ => rfl⟩⟩
    show f_X2_isSameState_B2 gx (nI (6 * i)) (nI (6 * j)) (f_X2_isSameState_L2 gx (nI (6 * i)) (nI (6 * j)) m) _ = _
    unfold f_X2_isSameState_B2
    rw [if_pos (show (4 : Int32) < nI c by rw [show c = 5 by omega]; decide)]
  | succ n ih =>
    intro m c hin hm
    obtain ⟨m, rfl⟩ : ∃ m', m = m' + 1 := ⟨m - 1, by omega⟩
    obtain ⟨b, k1, k2⟩ := ih m (c + 1) (by omega) (by omega)
    have hlt : ¬ (4 : Int32) < nI c := by
      rw [show ((4 : Int32) < nI c) = (4 < c) from ltN (a := 4) (by omega) (by omega)]
      omega
    have eX : f_X2_isSameState_L2 gx (nI (6 * i)) (nI (6 * j)) (m + 1) (nI c) = if lg_cmp (gx.2.2.2.2.1 (6 * i + c)) (gx.2.2.2.2.1 (6 * j + c)) = 0 then some b else some false := by
      show f_X2_isSameState_B2 gx (nI (6 * i)) (nI (6 * j)) (f_X2_isSameState_L2 gx (nI (6 * i)) (nI (6 * j)) m) _ = _
      unfold f_X2_isSameState_B2
      rw [if_neg hlt, ixp, ixp, gd_t _ (ib_nI (show 6 * i + c < 1806 by omega) (by omega)), gd_t _ (ib_nI (show 6 * j + c < 1806 by omega) (by omega)), cl_nI (show 6 * i + c < 2147483648 by omega), cl_nI (show 6 * j + c < 2147483648 by omega), nI_1, k1]
    rw [eX]
    by_cases e : gx.2.2.2.2.1 (6 * i + c) = gx.2.2.2.2.1 (6 * j + c)
    · rw [if_pos ((lg_cmp_eq _ _).mpr e)]
      refine ⟨b, rfl, k2.trans ⟨fun h d h1 h2 => ?_, fun h d h1 h2 => h d (by omega) h2⟩⟩
      by_cases e2 : d = c
      · subst e2; exact e
      · exact h d (by omega) h2
    · rw [if_neg (fun h => e ((lg_cmp_eq _ _).mp h))]
      exact ⟨false, rfl, ⟨fun h => absurd h (by decide), fun h => absurd (h c (Nat.le_refl c) (by omega)) e⟩⟩
theorem al_L (st : Al) {i j : Nat} (hi : i ≤ 300) (hj : j ≤ 300) : ∀ (n m c : Nat), c + n = 20 → n < m → ∃ b : Bool, f_X3_areAlike_L2 st (nI i) (nI j) m (nI c) = some b ∧ (b = true ↔ ∀ d, c ≤ d → d < 20 → st (31 * i + d) = st (31 * j + d)) := by
  intro n
  induction n with
  | zero =>
    intro m c hin hm
    obtain ⟨m, rfl⟩ : ∃ m', m = m' + 1 := ⟨m - 1, by omega⟩
    refine ⟨true, ?_, ⟨fun _ d h1 h2 => by omega, fun _ => rfl⟩⟩
    show f_X3_areAlike_B2 st (nI i) (nI j) (f_X3_areAlike_L2 st (nI i) (nI j) m) _ = _
    unfold f_X3_areAlike_B2
    rw [if_pos (show (20 : Int32) ≤ nI c by rw [show c = 20 by omega]; decide)]
  | succ n ih =>
    intro m c hin hm
    obtain ⟨m, rfl⟩ : ∃ m', m = m' + 1 := ⟨m - 1, by omega⟩
    obtain ⟨b, k1, k2⟩ := ih m (c + 1) (by omega) (by omega)
    have eX : f_X3_areAlike_L2 st (nI i) (nI j) (m + 1) (nI c) = if lg_cmp (st (31 * i + c)) (st (31 * j + c)) = 0 then some b else some false := by
      show f_X3_areAlike_B2 st (nI i) (nI j) (f_X3_areAlike_L2 st (nI i) (nI j) m) _ = _
      unfold f_X3_areAlike_B2
      rw [if_neg (show ¬ (20 : Int32) ≤ nI c from nI_ge (a := c) (b := 20) (by omega) (by decide)), ix31, ix31, ixp, ixp, gd_t _ (ib_nI (show 31 * i + c < 9331 by omega) (by omega)), gd_t _ (ib_nI (show 31 * j + c < 9331 by omega) (by omega)), cl_nI (show 31 * i + c < 2147483648 by omega), cl_nI (show 31 * j + c < 2147483648 by omega), nI_1, k1]
    rw [eX]
    by_cases e : st (31 * i + c) = st (31 * j + c)
    · rw [if_pos ((lg_cmp_eq _ _).mpr e)]
      refine ⟨b, rfl, k2.trans ⟨fun h d h1 h2 => ?_, fun h d h1 h2 => h d (by omega) h2⟩⟩
      by_cases e2 : d = c
      · subst e2; exact e
      · exact h d (by omega) h2
    · rw [if_neg (fun h => e ((lg_cmp_eq _ _).mp h))]
      exact ⟨false, rfl, ⟨fun h => absurd h (by decide), fun h => absurd (h c (Nat.le_refl c) (by omega)) e⟩⟩
theorem cl_same {q : AC} {a a2 : AM} {p z p2 z2 i j : Nat} {tr : Al} (hB : AB q a 1000000 1000000) (hB2 : AB q a2 1000000 1000000) (h1 : TRow a p z i tr) (h2 : TRow a2 p2 z2 j tr) : (∀ d, 0 ≤ d → d < 5 → tr (6 * i + d) = tr (6 * j + d)) ↔ sameV a.2.2 a2.2.2 := by
  obtain ⟨-, -, -, hV, -, hK⟩ := hB
  obtain ⟨-, -, -, hV2, -, hK2⟩ := hB2
  constructor
  · intro h
    have hm := h 4 (by omega) (by omega)
    rw [h1.2.1, h2.2.1, lI_eq (mK_b hK) (mK_b hK2)] at hm
    obtain ⟨m1, m2⟩ := mK_inj hK hK2 8 (by omega) hm
    refine ⟨fun c hc => ?_, fun k hk => m1 k hk⟩
    obtain ⟨b1, b2, b3, -⟩ := hV c hc
    obtain ⟨c1, c2, c3, -⟩ := hV2 c hc
    have hc2 := h c (by omega) (by omega)
    rw [h1.1 c hc, h2.1 c hc, lI_eq (by omega) (by omega)] at hc2
    exact ⟨by omega, by omega, mF_inj 4 m2 c hc⟩
  · intro h d _ hd
    by_cases e : d = 4
    · subst e
      rw [h1.2.1, h2.2.1]
      have hF : mF a.2.2 4 = mF a2.2.2 4 := by
        simp only [mF]
        rw [(h.1 0 (by omega)).2.2, (h.1 1 (by omega)).2.2, (h.1 2 (by omega)).2.2, (h.1 3 (by omega)).2.2]
      have hM : mK a.2.2 8 = mK a2.2.2 8 := by
        simp only [mK]
        rw [hF, h.2 0 (by omega), h.2 1 (by omega), h.2 2 (by omega), h.2 3 (by omega), h.2 4 (by omega), h.2 5 (by omega), h.2 6 (by omega), h.2 7 (by omega)]
      rw [hM]
    · rw [h1.1 d (by omega), h2.1 d (by omega), (h.1 d (by omega)).1, (h.1 d (by omega)).2.1]
theorem rf_same {q : AC} {a a2 : AM} {i j : Nat} {st : Al} (hB : AB q a 1000000 1000000) (hB2 : AB q a2 1000000 1000000) (h1 : RRep a (fun k => st (31 * i + k))) (h2 : RRep a2 (fun k => st (31 * j + k))) : (∀ d, 0 ≤ d → d < 20 → st (31 * i + d) = st (31 * j + d)) ↔ sameV a.2.2 a2.2.2 := by
  obtain ⟨-, -, -, hV, -, hK⟩ := hB
  obtain ⟨-, -, -, hV2, -, hK2⟩ := hB2
  obtain ⟨-, -, r1, r2⟩ := h1
  obtain ⟨-, -, s1, s2⟩ := h2
  constructor
  · intro h
    refine ⟨fun c hc => ?_, fun k hk => ?_⟩
    · obtain ⟨b1, b2, b3, -⟩ := hV c hc
      obtain ⟨c1, c2, c3, -⟩ := hV2 c hc
      have u0 : st (31 * i + 2 * c) = lI (vN a.2.2 c) := (r1 c hc).1
      have u1 : st (31 * i + (2 * c + 1)) = lI (vD a.2.2 c) := (r1 c hc).2.1
      have u2 : st (31 * i + (8 + c)) = lI (bI (vF a.2.2 c)) := (r1 c hc).2.2
      have w0 : st (31 * j + 2 * c) = lI (vN a2.2.2 c) := (s1 c hc).1
      have w1 : st (31 * j + (2 * c + 1)) = lI (vD a2.2.2 c) := (s1 c hc).2.1
      have w2 : st (31 * j + (8 + c)) = lI (bI (vF a2.2.2 c)) := (s1 c hc).2.2
      have x0 := h (2 * c) (by omega) (by omega)
      have x1 := h (2 * c + 1) (by omega) (by omega)
      have x2 := h (8 + c) (by omega) (by omega)
      have y1 := bI_b (vF a.2.2 c)
      have y2 := bI_b (vF a2.2.2 c)
      rw [u0, w0, lI_eq (by omega) (by omega)] at x0
      rw [u1, w1, lI_eq (by omega) (by omega)] at x1
      rw [u2, w2, lI_eq (by omega) (by omega)] at x2
      exact ⟨x0, x1, bI_inj x2⟩
    · have u0 : st (31 * i + (12 + k)) = lI (vK a.2.2 k) := r2 k hk
      have w0 : st (31 * j + (12 + k)) = lI (vK a2.2.2 k) := s2 k hk
      have x0 := h (12 + k) (by omega) (by omega)
      have y1 := hK k hk
      have y2 := hK2 k hk
      rw [u0, w0, lI_eq (by omega) (by omega)] at x0
      omega
  · intro h d _ hd
    by_cases d1 : d < 8
    · have hc : d / 2 < 4 := by omega
      have u0 : st (31 * i + 2 * (d / 2)) = lI (vN a.2.2 (d / 2)) := (r1 _ hc).1
      have u1 : st (31 * i + (2 * (d / 2) + 1)) = lI (vD a.2.2 (d / 2)) := (r1 _ hc).2.1
      have w0 : st (31 * j + 2 * (d / 2)) = lI (vN a2.2.2 (d / 2)) := (s1 _ hc).1
      have w1 : st (31 * j + (2 * (d / 2) + 1)) = lI (vD a2.2.2 (d / 2)) := (s1 _ hc).2.1
      by_cases e : d % 2 = 0
      · rw [show d = 2 * (d / 2) by omega, u0, w0, (h.1 _ hc).1]
      · rw [show d = 2 * (d / 2) + 1 by omega, u1, w1, (h.1 _ hc).2.1]
    · by_cases d2 : d < 12
      · have u2 : st (31 * i + (8 + (d - 8))) = lI (bI (vF a.2.2 (d - 8))) := (r1 _ (by omega)).2.2
        have w2 : st (31 * j + (8 + (d - 8))) = lI (bI (vF a2.2.2 (d - 8))) := (s1 _ (by omega)).2.2
        rw [show d = 8 + (d - 8) by omega, u2, w2, (h.1 (d - 8) (by omega)).2.2]
      · have u2 : st (31 * i + (12 + (d - 12))) = lI (vK a.2.2 (d - 12)) := r2 _ (by omega)
        have w2 : st (31 * j + (12 + (d - 12))) = lI (vK a2.2.2 (d - 12)) := s2 _ (by omega)
        rw [show d = 12 + (d - 12) by omega, u2, w2, h.2 (d - 12) (by omega)]
end RINGA
