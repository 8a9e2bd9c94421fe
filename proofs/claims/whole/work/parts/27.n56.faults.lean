section FAULTS
/-- what the rest of both searches gives: class and reference, from F found on -/
def GF (q : AC) (z : Int) (R : Al) (gc : Ci) (m0 m1 : Ar) (m4 : Int32) (m5 : Ar) (m6 : Int32) (m10 m11 : Ar) (m12 m13 : Al) (F : Nat) (x13 : Ar) (cl : Option (Int32 × Ar × Ar × Ar × Int64 × Int64 × Al × Al × Ar × Ar × Int32 × Int32 × Int64 × Int64)) (rf : Option (Int32 × Ar × Ar × Al × Al × Al × Ar × Ar × Al × Al × Int32 × Int64 × Int64 × Int32 × Int32)) : Prop :=
  ∃ (T : Nat) (fin c3 c4 : Ar) (ht : Sw), cl = some (nI T, fin, c3, c4, ht.1, ht.2.1, ht.2.2.1, ht.2.2.2.1, ht.2.2.2.2.1, ht.2.2.2.2.2.1, ht.2.2.2.2.2.2.1, ht.2.2.2.2.2.2.2.1, ht.2.2.2.2.2.2.2.2.1, ht.2.2.2.2.2.2.2.2.2) ∧ F ≤ T ∧ T ≤ 80 ∧ (∀ k, k < F → fin k = x13 k) ∧ CRep q (gc.1, gc.2.1, gc.2.2.1, c3, c4, gc.2.2.2.2.2) ∧ TOK ht ∧
    ((z < 0 ∨ (F : Int) ≤ z) → ∃ (k2 k3 : Ar) (k7 k8 k9 : Al) (k24 k25 : Int64) (k26 k27 : Int32), rf = some (if z < 0 then nI T else if z < (T : Int) then fin z.toNat else (-1), k2, k3, k7, k8, k9, m10, m11, m12, m13, 1, k24, k25, k26, k27) ∧ MRep q m0 m1 k2 k3 m4 m5 m6 ∧ ∀ j, j < 31 → k7 j = R j)
def FS (q : AC) (R : Al) (gc : Ci) (m0 m1 : Ar) (m4 : Int32) (m5 : Ar) (m6 : Int32) (c3 c4 : Ar) (s : Sw) (m2 m3 : Ar) (m7 : Al) : Prop := CRep q (gc.1, gc.2.1, gc.2.2.1, c3, c4, gc.2.2.2.2.2) ∧ TOK s ∧ MRep q m0 m1 m2 m3 m4 m5 m6 ∧ ∀ j, j < 31 → m7 j = R j
def KR (q : AC) (z : Int) (R : Al) (gc : Ci) (m0 m1 : Ar) (m4 : Int32) (m5 : Ar) (m6 : Int32) (m10 m11 : Ar) (m12 m13 : Al) (B : Nat) (i : Int32) (rc : Int32 → Int32 → Ar → Ar → Ar → Int64 → Int64 → Al → Al → Ar → Ar → Int32 → Int32 → Int64 → Int64 → Option (Int32 × Ar × Ar × Ar × Int64 × Int64 × Al × Al × Ar × Ar × Int32 × Int32 × Int64 × Int64)) (rr : Int32 → Int32 → Ar → Ar → Al → Al → Al → Ar → Ar → Al → Al → Int32 → Int64 → Int64 → Int32 → Int32 → Option (Int32 × Ar × Ar × Al × Al × Al × Ar × Ar × Al × Al × Int32 × Int64 × Int64 × Int32 × Int32)) : Prop :=
  ∀ (F : Nat) (x13 c3 c4 : Ar) (s : Sw) (m2 m3 : Ar) (m7 m8 m9 : Al) (m24 m25 : Int64) (m26 m27 : Int32), F ≤ B → FS q R gc m0 m1 m4 m5 m6 c3 c4 s m2 m3 m7 → GF q z R gc m0 m1 m4 m5 m6 m10 m11 m12 m13 F x13 (rc (nI F) i x13 c3 c4 s.1 s.2.1 s.2.2.1 s.2.2.2.1 s.2.2.2.2.1 s.2.2.2.2.2.1 s.2.2.2.2.2.2.1 s.2.2.2.2.2.2.2.1 s.2.2.2.2.2.2.2.2.1 s.2.2.2.2.2.2.2.2.2) (rr (nI F) i m2 m3 m7 m8 m9 m10 m11 m12 m13 1 m24 m25 m26 m27)
theorem upd_upd (f : Ar) (k : Nat) (x y : Int32) : upd (upd f k x) k y = upd f k y := by
  funext j
  rw [upd_I, upd_I, upd_I]
  split
  · rfl
  · rfl
theorem upd_same (f : Ar) (k : Nat) : upd f k (f k) = f := by
  funext j
  rw [upd_I]
  split
  · next e => rw [e]
  · rfl
theorem fuel3 : fuel = 997 + 3 := by decide
theorem kv_X (w b v : Nat) : nI w * 1000 + nI b * 100 + nI v = nI (1000 * w + 100 * b + v) := by
  rw [nI_iI w, nI_iI b, nI_iI v, show (1000 : Int32) = iI 1000 from rfl, show (100 : Int32) = iI 100 from rfl, iI_mul, iI_mul, iI_add, iI_add, nI_iI]
  congr 1
  omega
theorem kv_M (w b v : Nat) : 1000 * nI w + 100 * nI b + nI v = nI (1000 * w + 100 * b + v) := by
  rw [nI_iI w, nI_iI b, nI_iI v, show (1000 : Int32) = iI 1000 from rfl, show (100 : Int32) = iI 100 from rfl, iI_mul, iI_mul, iI_add, iI_add, nI_iI]
  congr 1
theorem ex_r {q : AC} {m0 m1 m2 m3 m5 : Ar} {m4 m6 : Int32} {w v c : Nat} (hw : w < 4) (m7 m8 m9 : Al) (m10 m11 : Ar) (m12 m13 : Al) (m20 m21 : Al) (m22 : Int32) (m24 m25 : Int64) (m26 m27 : Int32)
    {b : Bool} {k7 k8 k9 : Al} {k24 k25 : Int64} {k26 k27 : Int32} (hso : f_X3_isSo m0 m1 (upd m2 w (nI v)) m3 m4 m5 m6 m7 m8 m9 m10 m11 m12 m13 1 m20 m21 m22 m24 m25 m26 m27 (nI c) = some (b, k7, k8, k9, m10, m11, m12, m13, 1, k24, k25, k26, k27)) :
    f_X3_explains m0 m1 m2 m3 m4 m5 m6 m7 m8 m9 m10 m11 m12 m13 1 m20 m21 m22 m24 m25 m26 m27 (nI c) (nI w) (nI 0) (nI v) = if ¬ nI v = m2 w then some (b, m2, m3, k7, k8, k9, m10, m11, m12, m13, 1, k24, k25, k26, k27) else some (false, m2, m3, m7, m8, m9, m10, m11, m12, m13, 1, m24, m25, m26, m27) := by
  unfold f_X3_explains f_X3_explains_J19 f_X3_explains_J53
  rw [if_neg (show ¬ ¬ nI 0 = 0 by decide), gd_t _ (ib_nI hw (by omega)), cl_nI (by omega), if_neg (show ¬ ¬ nI 0 = 0 by decide), gd_t _ (ib_nI hw (by omega)), hso, Option.bind_some, if_neg (show ¬ ¬ nI 0 = 0 by decide), gd_t _ (ib_nI hw (by omega)), upd_upd, upd_same]
theorem ff_r {q : AC} {z : Int} {R : Al} {gx : Xo} {gc : Ci} {m0 m1 : Ar} {m4 : Int32} {m5 : Ar} {m6 : Int32} {m10 m11 : Ar} {m12 m13 : Al} {m18 : Ar} {m19 : Int32} {m20 m21 : Al} {m22 : Int32} {S N c : Nat} (hQ : QOK q) (hD : DRep S gx.2.2.2.2.2.2.2.1 gx.2.2.2.2.2.2.2.2.1 m18 m19) (hE : ERep N gx.2.2.2.2.2.2.2.2.2.1 gx.2.2.2.2.2.2.2.2.2.2.1 gx.2.2.2.2.2.2.2.2.2.2.2.1 m20 m21 m22) (hc : c < aC q) (hz : B31 z) {w : Nat} (hw : w < aC q) {v4 : Int32} (hv4 : v4 = iI (aRi q w)) (rec18 : Int32 → Int32 → Ar → Ar → Ar → Int64 → Int64 → Al → Al → Ar → Ar → Int32 → Int32 → Int64 → Int64 → Option (Int32 × Ar × Ar × Ar × Int64 × Int64 × Al × Al × Ar × Ar × Int32 × Int32 × Int64 × Int64)) (rec17 : Int32 → Int32 → Ar → Ar → Al → Al → Al → Ar → Ar → Al → Al → Int32 → Int64 → Int64 → Int32 → Int32 → Option (Int32 × Ar × Ar × Al × Al × Al × Ar × Ar × Al × Al × Int32 × Int64 × Int64 × Int32 × Int32)) (hrec : KR q z R gc m0 m1 m4 m5 m6 m10 m11 m12 m13 (20 * w + 10) (nI 1) rec18 rec17) :
    ∀ (t m k j F : Nat) (x13 c3 c4 : Ar) (s : Sw) (m2 m3 : Ar) (m7 m8 m9 : Al) (m24 m25 : Int64) (m26 m27 : Int32), j + t = S → t < m → t < k → F ≤ 20 * w + 0 + j → FS q R gc m0 m1 m4 m5 m6 (upd c3 w v4) c4 s m2 m3 m7 → GF q z R gc m0 m1 m4 m5 m6 m10 m11 m12 m13 F x13 (f_X2_findFaults_L44r gx gc (nI c) (nI w) (nI 0) rec18 v4 m (nI F) (nI j) x13 c3 c4 s.1 s.2.1 s.2.2.1 s.2.2.2.1 s.2.2.2.2.1 s.2.2.2.2.2.1 s.2.2.2.2.2.2.1 s.2.2.2.2.2.2.2.1 s.2.2.2.2.2.2.2.2.1 s.2.2.2.2.2.2.2.2.2) (f_X3_explaining_L26 m0 m1 m4 m5 m6 m18 m19 m20 m21 m22 (nI c) (iI z) (nI w) (nI 0) rec17 k (nI F) (nI j) m2 m3 m7 m8 m9 m10 m11 m12 m13 1 m24 m25 m26 m27) := by
  have hD0 := hD
  obtain ⟨d1, d2, d3, d4⟩ := hD
  have hC4 := hQ.1
  intro t
  induction t with
  | zero =>
    intro m k j F x13 c3 c4 s m2 m3 m7 m8 m9 m24 m25 m26 m27 hj hm hk hF hS
    obtain ⟨m, rfl⟩ : ∃ m', m = m' + 1 := ⟨m - 1, by omega⟩
    obtain ⟨k, rfl⟩ : ∃ k', k = k' + 1 := ⟨k - 1, by omega⟩
    have hr := hrec F x13 (upd c3 w v4) c4 s m2 m3 m7 m8 m9 m24 m25 m26 m27 (by omega) hS
    have eX : f_X2_findFaults_L44r gx gc (nI c) (nI w) (nI 0) rec18 v4 (m + 1) (nI F) (nI j) x13 c3 c4 s.1 s.2.1 s.2.2.1 s.2.2.2.1 s.2.2.2.2.1 s.2.2.2.2.2.1 s.2.2.2.2.2.2.1 s.2.2.2.2.2.2.2.1 s.2.2.2.2.2.2.2.2.1 s.2.2.2.2.2.2.2.2.2 = rec18 (nI F) (nI 1) x13 (upd c3 w v4) c4 s.1 s.2.1 s.2.2.1 s.2.2.2.1 s.2.2.2.2.1 s.2.2.2.2.2.1 s.2.2.2.2.2.2.1 s.2.2.2.2.2.2.2.1 s.2.2.2.2.2.2.2.2.1 s.2.2.2.2.2.2.2.2.2 := by
      show f_X2_findFaults_B44r gx gc (nI c) (nI w) (nI 0) rec18 v4 (f_X2_findFaults_L44r gx gc (nI c) (nI w) (nI 0) rec18 v4 m) (nI F) (nI j) x13 c3 c4 s.1 s.2.1 s.2.2.1 s.2.2.2.1 s.2.2.2.2.1 s.2.2.2.2.2.1 s.2.2.2.2.2.2.1 s.2.2.2.2.2.2.2.1 s.2.2.2.2.2.2.2.2.1 s.2.2.2.2.2.2.2.2.2 = _
      unfold f_X2_findFaults_B44r
      rw [if_pos (show gx.2.2.2.2.2.2.2.2.1 ≤ nI j by rw [d2]; exact nI_le (by omega) (by omega)), cl_nI (show w < 2147483648 by omega), nI_1]
    have eM : f_X3_explaining_L26 m0 m1 m4 m5 m6 m18 m19 m20 m21 m22 (nI c) (iI z) (nI w) (nI 0) rec17 (k + 1) (nI F) (nI j) m2 m3 m7 m8 m9 m10 m11 m12 m13 1 m24 m25 m26 m27 = rec17 (nI F) (nI 1) m2 m3 m7 m8 m9 m10 m11 m12 m13 1 m24 m25 m26 m27 := by
      show f_X3_explaining_B26 m0 m1 m4 m5 m6 m18 m19 m20 m21 m22 (nI c) (iI z) (nI w) (nI 0) rec17 (f_X3_explaining_L26 m0 m1 m4 m5 m6 m18 m19 m20 m21 m22 (nI c) (iI z) (nI w) (nI 0) rec17 k) (nI F) (nI j) m2 m3 m7 m8 m9 m10 m11 m12 m13 1 m24 m25 m26 m27 = _
      unfold f_X3_explaining_B26
      rw [if_pos (show m19 ≤ nI j by rw [d3]; exact nI_le (by omega) (by omega)), nI_1]
    rw [eX, eM]
    exact hr
  | succ t ih =>
    intro m k j F x13 c3 c4 s m2 m3 m7 m8 m9 m24 m25 m26 m27 hj hm hk hF hS
    obtain ⟨m, rfl⟩ : ∃ m', m = m' + 1 := ⟨m - 1, by omega⟩
    obtain ⟨k, rfl⟩ : ∃ k', k = k' + 1 := ⟨k - 1, by omega⟩
    obtain ⟨v, v1, v2, v3, v5⟩ := d4 j (by omega)
    obtain ⟨hC, hT, hM, hR⟩ := hS
    have hQ2 : QOK (qRise q w v) := qRise_ok hQ (by omega)
    have hC2 : CRep (qRise q w v) (gc.1, gc.2.1, gc.2.2.1, upd c3 w (nI v), c4, gc.2.2.2.2.2) := by
      have h1 := qRise_C hC (i := w) (v := (v : Int))
      have h2 : upd (upd c3 w v4) w (iI v) = upd c3 w (nI v) := by rw [upd_upd, nI_iI]
      rw [← h2]
      exact h1
    have hM2 : MRep (qRise q w v) m0 m1 (upd m2 w (nI v)) m3 m4 m5 m6 := by
      have h1 := qRise_M hM (i := w) (v := (v : Int))
      rw [nI_iI v]
      exact h1
    have hmw : m2 w = v4 := by rw [hv4]; exact (hM.2.2.1 w (by omega)).2.2.1
    obtain ⟨b, hh, k7, k8, k9, k24, k25, k26, k27, w1, w2, w3, w4⟩ := so_ok (gx := (gx.1, gx.2.1, gx.2.2.1, gx.2.2.2.1, gx.2.2.2.2.1, gx.2.2.2.2.2.1, gx.2.2.2.2.2.2.1, gx.2.2.2.2.2.2.2.1, gx.2.2.2.2.2.2.2.2.1, gx.2.2.2.2.2.2.2.2.2.1, gx.2.2.2.2.2.2.2.2.2.2.1, gx.2.2.2.2.2.2.2.2.2.2.2.1, gx.2.2.2.2.2.2.2.2.2.2.2.2.1, x13)) (gt := s) hQ2 hC2 hM2 hE (show c < aC (qRise q w v) from hc) hT m7 m8 m9 m10 m11 m12 m13 m24 m25 m26 m27
    have he := ex_r (q := q) (m2 := m2) (m3 := m3) (show w < 4 by omega) m7 m8 m9 m10 m11 m12 m13 m20 m21 m22 m24 m25 m26 m27 w2
    have cz : (nI F = iI z) = ((F : Int) = z) := by rw [nI_iI]; exact eqE (by omega) hz
    have eX : ∀ Y : Option (Int32 × Ar × Ar × Ar × Int64 × Int64 × Al × Al × Ar × Ar × Int32 × Int32 × Int64 × Int64), (if nI v = v4 then f_X2_findFaults_L44r gx gc (nI c) (nI w) (nI 0) rec18 v4 m (nI F) (nI (j + 1)) x13 (upd c3 w (nI v)) c4 s.1 s.2.1 s.2.2.1 s.2.2.2.1 s.2.2.2.2.1 s.2.2.2.2.2.1 s.2.2.2.2.2.2.1 s.2.2.2.2.2.2.2.1 s.2.2.2.2.2.2.2.2.1 s.2.2.2.2.2.2.2.2.2 else (f_X2_isMeasuredSo (gx.1, gx.2.1, gx.2.2.1, gx.2.2.2.1, gx.2.2.2.2.1, gx.2.2.2.2.2.1, gx.2.2.2.2.2.2.1, gx.2.2.2.2.2.2.2.1, gx.2.2.2.2.2.2.2.2.1, gx.2.2.2.2.2.2.2.2.2.1, gx.2.2.2.2.2.2.2.2.2.2.1, gx.2.2.2.2.2.2.2.2.2.2.2.1, gx.2.2.2.2.2.2.2.2.2.2.2.2.1, x13) (gc.1, gc.2.1, gc.2.2.1, upd c3 w (nI v), c4, gc.2.2.2.2.2) s (nI c)).bind (fun r9 => if b2i r9.1 = 0 then f_X2_findFaults_L44r gx gc (nI c) (nI w) (nI 0) rec18 v4 m (nI F) (nI (j + 1)) x13 (upd c3 w (nI v)) c4 r9.2.1 r9.2.2.1 r9.2.2.2.1 r9.2.2.2.2.1 r9.2.2.2.2.2.1 r9.2.2.2.2.2.2.1 r9.2.2.2.2.2.2.2.1 r9.2.2.2.2.2.2.2.2.1 r9.2.2.2.2.2.2.2.2.2.1 r9.2.2.2.2.2.2.2.2.2.2 else gd (ib (nI F) 80) (f_X2_findFaults_L44r gx gc (nI c) (nI w) (nI 0) rec18 v4 m (nI (F + 1)) (nI (j + 1)) (upd x13 F (nI (1000 * w + 100 * 0 + v))) (upd c3 w (nI v)) c4 r9.2.1 r9.2.2.1 r9.2.2.2.1 r9.2.2.2.2.1 r9.2.2.2.2.2.1 r9.2.2.2.2.2.2.1 r9.2.2.2.2.2.2.2.1 r9.2.2.2.2.2.2.2.2.1 r9.2.2.2.2.2.2.2.2.2.1 r9.2.2.2.2.2.2.2.2.2.2))) = Y → f_X2_findFaults_L44r gx gc (nI c) (nI w) (nI 0) rec18 v4 (m + 1) (nI F) (nI j) x13 c3 c4 s.1 s.2.1 s.2.2.1 s.2.2.2.1 s.2.2.2.2.1 s.2.2.2.2.2.1 s.2.2.2.2.2.2.1 s.2.2.2.2.2.2.2.1 s.2.2.2.2.2.2.2.2.1 s.2.2.2.2.2.2.2.2.2 = Y := by
      intro Y hY
      show f_X2_findFaults_B44r gx gc (nI c) (nI w) (nI 0) rec18 v4 (f_X2_findFaults_L44r gx gc (nI c) (nI w) (nI 0) rec18 v4 m) (nI F) (nI j) x13 c3 c4 s.1 s.2.1 s.2.2.1 s.2.2.2.1 s.2.2.2.2.1 s.2.2.2.2.2.1 s.2.2.2.2.2.2.1 s.2.2.2.2.2.2.2.1 s.2.2.2.2.2.2.2.2.1 s.2.2.2.2.2.2.2.2.2 = _
      unfold f_X2_findFaults_B44r f_X2_findFaults_J112r
      simp only [bnd]
      rw [if_neg (show ¬ gx.2.2.2.2.2.2.2.2.1 ≤ nI j by rw [d2]; exact nI_ge (a := j) (b := S) (by omega) (by omega)), gd_t _ (ib_nI (show j < 10 by omega) (by omega)), cl_nI (show j < 2147483648 by omega), cl_nI (show w < 2147483648 by omega), cl_nI (show F < 2147483648 by omega), v3, kv_X, nI_1, nI_1]
      exact hY
    have eM : ∀ Y : Option (Int32 × Ar × Ar × Al × Al × Al × Ar × Ar × Al × Al × Int32 × Int64 × Int64 × Int32 × Int32), ((f_X3_explains m0 m1 m2 m3 m4 m5 m6 m7 m8 m9 m10 m11 m12 m13 1 m20 m21 m22 m24 m25 m26 m27 (nI c) (nI w) (nI 0) (nI v)).bind (fun r6 => if ¬ b2i r6.1 = 0 then (if ¬ nI F = iI z then f_X3_explaining_L26 m0 m1 m4 m5 m6 m18 m19 m20 m21 m22 (nI c) (iI z) (nI w) (nI 0) rec17 k (nI (F + 1)) (nI (j + 1)) r6.2.1 r6.2.2.1 r6.2.2.2.1 r6.2.2.2.2.1 r6.2.2.2.2.2.1 r6.2.2.2.2.2.2.1 r6.2.2.2.2.2.2.2.1 r6.2.2.2.2.2.2.2.2.1 r6.2.2.2.2.2.2.2.2.2.1 r6.2.2.2.2.2.2.2.2.2.2.1 r6.2.2.2.2.2.2.2.2.2.2.2.1 r6.2.2.2.2.2.2.2.2.2.2.2.2.1 r6.2.2.2.2.2.2.2.2.2.2.2.2.2.1 r6.2.2.2.2.2.2.2.2.2.2.2.2.2.2 else some (nI (1000 * w + 100 * 0 + v), r6.2.1, r6.2.2.1, r6.2.2.2.1, r6.2.2.2.2.1, r6.2.2.2.2.2.1, r6.2.2.2.2.2.2.1, r6.2.2.2.2.2.2.2.1, r6.2.2.2.2.2.2.2.2.1, r6.2.2.2.2.2.2.2.2.2.1, r6.2.2.2.2.2.2.2.2.2.2.1, r6.2.2.2.2.2.2.2.2.2.2.2.1, r6.2.2.2.2.2.2.2.2.2.2.2.2.1, r6.2.2.2.2.2.2.2.2.2.2.2.2.2.1, r6.2.2.2.2.2.2.2.2.2.2.2.2.2.2)) else f_X3_explaining_L26 m0 m1 m4 m5 m6 m18 m19 m20 m21 m22 (nI c) (iI z) (nI w) (nI 0) rec17 k (nI F) (nI (j + 1)) r6.2.1 r6.2.2.1 r6.2.2.2.1 r6.2.2.2.2.1 r6.2.2.2.2.2.1 r6.2.2.2.2.2.2.1 r6.2.2.2.2.2.2.2.1 r6.2.2.2.2.2.2.2.2.1 r6.2.2.2.2.2.2.2.2.2.1 r6.2.2.2.2.2.2.2.2.2.2.1 r6.2.2.2.2.2.2.2.2.2.2.2.1 r6.2.2.2.2.2.2.2.2.2.2.2.2.1 r6.2.2.2.2.2.2.2.2.2.2.2.2.2.1 r6.2.2.2.2.2.2.2.2.2.2.2.2.2.2)) = Y → f_X3_explaining_L26 m0 m1 m4 m5 m6 m18 m19 m20 m21 m22 (nI c) (iI z) (nI w) (nI 0) rec17 (k + 1) (nI F) (nI j) m2 m3 m7 m8 m9 m10 m11 m12 m13 1 m24 m25 m26 m27 = Y := by
      intro Y hY
      show f_X3_explaining_B26 m0 m1 m4 m5 m6 m18 m19 m20 m21 m22 (nI c) (iI z) (nI w) (nI 0) rec17 (f_X3_explaining_L26 m0 m1 m4 m5 m6 m18 m19 m20 m21 m22 (nI c) (iI z) (nI w) (nI 0) rec17 k) (nI F) (nI j) m2 m3 m7 m8 m9 m10 m11 m12 m13 1 m24 m25 m26 m27 = _
      unfold f_X3_explaining_B26 f_X3_explaining_J86
      rw [if_neg (show ¬ m19 ≤ nI j by rw [d3]; exact nI_ge (a := j) (b := S) (by omega) (by omega)), gd_t _ (ib_nI (show j < 10 by omega) (by omega)), cl_nI (show j < 2147483648 by omega), v5, kv_M, nI_1, nI_1]
      exact hY
    by_cases hv : nI v = v4
    · obtain ⟨T, fin, a3, a4, ht, g1, g2, g3, g4, g5, g6, g7⟩ := ih m k (j + 1) F x13 (upd c3 w (nI v)) c4 s m2 m3 m7 m8 m9 m24 m25 m26 m27 (by omega) (by omega) (by omega) (by omega) ⟨by rw [upd_upd]; exact hC, hT, hM, hR⟩
      refine ⟨T, fin, a3, a4, ht, eX _ ?_, g2, g3, g4, g5, g6, fun hh2 => ?_⟩
      · rw [if_pos hv]
        exact g1
      · obtain ⟨k2', k3', k7', k8', k9', k24', k25', k26', k27', g8, g9⟩ := g7 hh2
        refine ⟨k2', k3', k7', k8', k9', k24', k25', k26', k27', eM _ ?_, g9⟩
        rw [he, if_neg (show ¬ ¬ nI v = m2 w by rw [hmw]; exact fun h3 => h3 hv), Option.bind_some, if_neg (show ¬ ¬ b2i false = 0 by decide)]
        exact g8
    · have hv2 : ¬ nI v = m2 w := by rw [hmw]; exact hv
      cases b with
      | false =>
        obtain ⟨T, fin, a3, a4, ht, g1, g2, g3, g4, g5, g6, g7⟩ := ih m k (j + 1) F x13 (upd c3 w (nI v)) c4 hh m2 m3 k7 k8 k9 k24 k25 k26 k27 (by omega) (by omega) (by omega) (by omega) ⟨by rw [upd_upd]; exact hC, w4, hM, fun l hl => (w3 l hl).trans (hR l hl)⟩
        refine ⟨T, fin, a3, a4, ht, eX _ ?_, g2, g3, g4, g5, g6, fun hh2 => ?_⟩
        · rw [if_neg hv, w1, Option.bind_some, if_pos (show b2i false = 0 by decide)]
          exact g1
        · obtain ⟨k2', k3', k7', k8', k9', k24', k25', k26', k27', g8, g9⟩ := g7 hh2
          refine ⟨k2', k3', k7', k8', k9', k24', k25', k26', k27', eM _ ?_, g9⟩
          rw [he, if_pos hv2, Option.bind_some, if_neg (show ¬ ¬ b2i false = 0 by decide)]
          exact g8
      | true =>
        obtain ⟨T, fin, a3, a4, ht, g1, g2, g3, g4, g5, g6, g7⟩ := ih m k (j + 1) (F + 1) (upd x13 F (nI (1000 * w + 100 * 0 + v))) (upd c3 w (nI v)) c4 hh m2 m3 k7 k8 k9 k24 k25 k26 k27 (by omega) (by omega) (by omega) (by omega) ⟨by rw [upd_upd]; exact hC, w4, hM, fun l hl => (w3 l hl).trans (hR l hl)⟩
        refine ⟨T, fin, a3, a4, ht, eX _ ?_, by omega, g3, fun l hl => by rw [g4 l (by omega), uI_n (by omega)], g5, g6, fun hh2 => ?_⟩
        · rw [if_neg hv, w1, Option.bind_some, if_neg (show ¬ b2i true = 0 by decide), gd_t _ (ib_nI (show F < 80 by omega) (by omega))]
          exact g1
        · by_cases e : (F : Int) = z
          · refine ⟨m2, m3, k7, k8, k9, k24, k25, k26, k27, eM _ ?_, hM, fun l hl => (w3 l hl).trans (hR l hl)⟩
            rw [he, if_pos hv2, Option.bind_some, if_pos (show ¬ b2i true = 0 by decide), if_neg (show ¬ ¬ nI F = iI z by rw [cz]; exact fun h3 => h3 e), if_neg (show ¬ z < 0 by omega), if_pos (show z < (T : Int) by omega), show z.toNat = F by omega, g4 F (by omega), uI_s]
          · obtain ⟨k2', k3', k7', k8', k9', k24', k25', k26', k27', g8, g9⟩ := g7 (by omega)
            refine ⟨k2', k3', k7', k8', k9', k24', k25', k26', k27', eM _ ?_, g9⟩
            rw [he, if_pos hv2, Option.bind_some, if_pos (show ¬ b2i true = 0 by decide), if_pos (show ¬ nI F = iI z by rw [cz]; exact e)]
            exact g8
theorem ex_f {q : AC} {m0 m1 m2 m3 m5 : Ar} {m4 m6 : Int32} {w v c : Nat} (hw : w < 4) (m7 m8 m9 : Al) (m10 m11 : Ar) (m12 m13 : Al) (m20 m21 : Al) (m22 : Int32) (m24 m25 : Int64) (m26 m27 : Int32)
    {b : Bool} {k7 k8 k9 : Al} {k24 k25 : Int64} {k26 k27 : Int32} (hso : f_X3_isSo m0 m1 m2 (upd m3 w (nI v)) m4 m5 m6 m7 m8 m9 m10 m11 m12 m13 1 m20 m21 m22 m24 m25 m26 m27 (nI c) = some (b, k7, k8, k9, m10, m11, m12, m13, 1, k24, k25, k26, k27)) :
    f_X3_explains m0 m1 m2 m3 m4 m5 m6 m7 m8 m9 m10 m11 m12 m13 1 m20 m21 m22 m24 m25 m26 m27 (nI c) (nI w) (nI 1) (nI v) = if ¬ nI v = m3 w then some (b, m2, m3, k7, k8, k9, m10, m11, m12, m13, 1, k24, k25, k26, k27) else some (false, m2, m3, m7, m8, m9, m10, m11, m12, m13, 1, m24, m25, m26, m27) := by
  unfold f_X3_explains f_X3_explains_J19 f_X3_explains_J53
  rw [if_pos (show ¬ nI 1 = 0 by decide), gd_t _ (ib_nI hw (by omega)), cl_nI (by omega), if_pos (show ¬ nI 1 = 0 by decide), gd_t _ (ib_nI hw (by omega)), hso, Option.bind_some, if_pos (show ¬ nI 1 = 0 by decide), gd_t _ (ib_nI hw (by omega)), upd_upd, upd_same]
theorem ff_f {q : AC} {z : Int} {R : Al} {gx : Xo} {gc : Ci} {m0 m1 : Ar} {m4 : Int32} {m5 : Ar} {m6 : Int32} {m10 m11 : Ar} {m12 m13 : Al} {m18 : Ar} {m19 : Int32} {m20 m21 : Al} {m22 : Int32} {S N c : Nat} (hQ : QOK q) (hD : DRep S gx.2.2.2.2.2.2.2.1 gx.2.2.2.2.2.2.2.2.1 m18 m19) (hE : ERep N gx.2.2.2.2.2.2.2.2.2.1 gx.2.2.2.2.2.2.2.2.2.2.1 gx.2.2.2.2.2.2.2.2.2.2.2.1 m20 m21 m22) (hc : c < aC q) (hz : B31 z) {w : Nat} (hw : w < aC q) {v4 : Int32} (hv4 : v4 = iI (aFa q w)) (rec18 : Int32 → Int32 → Ar → Ar → Ar → Int64 → Int64 → Al → Al → Ar → Ar → Int32 → Int32 → Int64 → Int64 → Option (Int32 × Ar × Ar × Ar × Int64 × Int64 × Al × Al × Ar × Ar × Int32 × Int32 × Int64 × Int64)) (rec17 : Int32 → Int32 → Ar → Ar → Al → Al → Al → Ar → Ar → Al → Al → Int32 → Int64 → Int64 → Int32 → Int32 → Option (Int32 × Ar × Ar × Al × Al × Al × Ar × Ar × Al × Al × Int32 × Int64 × Int64 × Int32 × Int32)) (hrec : KR q z R gc m0 m1 m4 m5 m6 m10 m11 m12 m13 (20 * w + 20) (nI 2) rec18 rec17) :
    ∀ (t m k j F : Nat) (x13 c3 c4 : Ar) (s : Sw) (m2 m3 : Ar) (m7 m8 m9 : Al) (m24 m25 : Int64) (m26 m27 : Int32), j + t = S → t < m → t < k → F ≤ 20 * w + 10 + j → FS q R gc m0 m1 m4 m5 m6 c3 (upd c4 w v4) s m2 m3 m7 → GF q z R gc m0 m1 m4 m5 m6 m10 m11 m12 m13 F x13 (f_X2_findFaults_L44f gx gc (nI c) (nI w) (nI 1) rec18 v4 m (nI F) (nI j) x13 c3 c4 s.1 s.2.1 s.2.2.1 s.2.2.2.1 s.2.2.2.2.1 s.2.2.2.2.2.1 s.2.2.2.2.2.2.1 s.2.2.2.2.2.2.2.1 s.2.2.2.2.2.2.2.2.1 s.2.2.2.2.2.2.2.2.2) (f_X3_explaining_L26 m0 m1 m4 m5 m6 m18 m19 m20 m21 m22 (nI c) (iI z) (nI w) (nI 1) rec17 k (nI F) (nI j) m2 m3 m7 m8 m9 m10 m11 m12 m13 1 m24 m25 m26 m27) := by
  have hD0 := hD
  obtain ⟨d1, d2, d3, d4⟩ := hD
  have hC4 := hQ.1
  intro t
  induction t with
  | zero =>
    intro m k j F x13 c3 c4 s m2 m3 m7 m8 m9 m24 m25 m26 m27 hj hm hk hF hS
    obtain ⟨m, rfl⟩ : ∃ m', m = m' + 1 := ⟨m - 1, by omega⟩
    obtain ⟨k, rfl⟩ : ∃ k', k = k' + 1 := ⟨k - 1, by omega⟩
    have hr := hrec F x13 c3 (upd c4 w v4) s m2 m3 m7 m8 m9 m24 m25 m26 m27 (by omega) hS
    have eX : f_X2_findFaults_L44f gx gc (nI c) (nI w) (nI 1) rec18 v4 (m + 1) (nI F) (nI j) x13 c3 c4 s.1 s.2.1 s.2.2.1 s.2.2.2.1 s.2.2.2.2.1 s.2.2.2.2.2.1 s.2.2.2.2.2.2.1 s.2.2.2.2.2.2.2.1 s.2.2.2.2.2.2.2.2.1 s.2.2.2.2.2.2.2.2.2 = rec18 (nI F) (nI 2) x13 c3 (upd c4 w v4) s.1 s.2.1 s.2.2.1 s.2.2.2.1 s.2.2.2.2.1 s.2.2.2.2.2.1 s.2.2.2.2.2.2.1 s.2.2.2.2.2.2.2.1 s.2.2.2.2.2.2.2.2.1 s.2.2.2.2.2.2.2.2.2 := by
      show f_X2_findFaults_B44f gx gc (nI c) (nI w) (nI 1) rec18 v4 (f_X2_findFaults_L44f gx gc (nI c) (nI w) (nI 1) rec18 v4 m) (nI F) (nI j) x13 c3 c4 s.1 s.2.1 s.2.2.1 s.2.2.2.1 s.2.2.2.2.1 s.2.2.2.2.2.1 s.2.2.2.2.2.2.1 s.2.2.2.2.2.2.2.1 s.2.2.2.2.2.2.2.2.1 s.2.2.2.2.2.2.2.2.2 = _
      unfold f_X2_findFaults_B44f
      rw [if_pos (show gx.2.2.2.2.2.2.2.2.1 ≤ nI j by rw [d2]; exact nI_le (by omega) (by omega)), cl_nI (show w < 2147483648 by omega), nI_1]
    have eM : f_X3_explaining_L26 m0 m1 m4 m5 m6 m18 m19 m20 m21 m22 (nI c) (iI z) (nI w) (nI 1) rec17 (k + 1) (nI F) (nI j) m2 m3 m7 m8 m9 m10 m11 m12 m13 1 m24 m25 m26 m27 = rec17 (nI F) (nI 2) m2 m3 m7 m8 m9 m10 m11 m12 m13 1 m24 m25 m26 m27 := by
      show f_X3_explaining_B26 m0 m1 m4 m5 m6 m18 m19 m20 m21 m22 (nI c) (iI z) (nI w) (nI 1) rec17 (f_X3_explaining_L26 m0 m1 m4 m5 m6 m18 m19 m20 m21 m22 (nI c) (iI z) (nI w) (nI 1) rec17 k) (nI F) (nI j) m2 m3 m7 m8 m9 m10 m11 m12 m13 1 m24 m25 m26 m27 = _
      unfold f_X3_explaining_B26
      rw [if_pos (show m19 ≤ nI j by rw [d3]; exact nI_le (by omega) (by omega)), nI_1]
    rw [eX, eM]
    exact hr
  | succ t ih =>
    intro m k j F x13 c3 c4 s m2 m3 m7 m8 m9 m24 m25 m26 m27 hj hm hk hF hS
    obtain ⟨m, rfl⟩ : ∃ m', m = m' + 1 := ⟨m - 1, by omega⟩
    obtain ⟨k, rfl⟩ : ∃ k', k = k' + 1 := ⟨k - 1, by omega⟩
    obtain ⟨v, v1, v2, v3, v5⟩ := d4 j (by omega)
    obtain ⟨hC, hT, hM, hR⟩ := hS
    have hQ2 : QOK (qFall q w v) := qFall_ok hQ (by omega)
    have hC2 : CRep (qFall q w v) (gc.1, gc.2.1, gc.2.2.1, c3, upd c4 w (nI v), gc.2.2.2.2.2) := by
      have h1 := qFall_C hC (i := w) (v := (v : Int))
      have h2 : upd (upd c4 w v4) w (iI v) = upd c4 w (nI v) := by rw [upd_upd, nI_iI]
      rw [← h2]
      exact h1
    have hM2 : MRep (qFall q w v) m0 m1 m2 (upd m3 w (nI v)) m4 m5 m6 := by
      have h1 := qFall_M hM (i := w) (v := (v : Int))
      rw [nI_iI v]
      exact h1
    have hmw : m3 w = v4 := by rw [hv4]; exact (hM.2.2.1 w (by omega)).2.2.2
    obtain ⟨b, hh, k7, k8, k9, k24, k25, k26, k27, w1, w2, w3, w4⟩ := so_ok (gx := (gx.1, gx.2.1, gx.2.2.1, gx.2.2.2.1, gx.2.2.2.2.1, gx.2.2.2.2.2.1, gx.2.2.2.2.2.2.1, gx.2.2.2.2.2.2.2.1, gx.2.2.2.2.2.2.2.2.1, gx.2.2.2.2.2.2.2.2.2.1, gx.2.2.2.2.2.2.2.2.2.2.1, gx.2.2.2.2.2.2.2.2.2.2.2.1, gx.2.2.2.2.2.2.2.2.2.2.2.2.1, x13)) (gt := s) hQ2 hC2 hM2 hE (show c < aC (qFall q w v) from hc) hT m7 m8 m9 m10 m11 m12 m13 m24 m25 m26 m27
    have he := ex_f (q := q) (m2 := m2) (m3 := m3) (show w < 4 by omega) m7 m8 m9 m10 m11 m12 m13 m20 m21 m22 m24 m25 m26 m27 w2
    have cz : (nI F = iI z) = ((F : Int) = z) := by rw [nI_iI]; exact eqE (by omega) hz
    have eX : ∀ Y : Option (Int32 × Ar × Ar × Ar × Int64 × Int64 × Al × Al × Ar × Ar × Int32 × Int32 × Int64 × Int64), (if nI v = v4 then f_X2_findFaults_L44f gx gc (nI c) (nI w) (nI 1) rec18 v4 m (nI F) (nI (j + 1)) x13 c3 (upd c4 w (nI v)) s.1 s.2.1 s.2.2.1 s.2.2.2.1 s.2.2.2.2.1 s.2.2.2.2.2.1 s.2.2.2.2.2.2.1 s.2.2.2.2.2.2.2.1 s.2.2.2.2.2.2.2.2.1 s.2.2.2.2.2.2.2.2.2 else (f_X2_isMeasuredSo (gx.1, gx.2.1, gx.2.2.1, gx.2.2.2.1, gx.2.2.2.2.1, gx.2.2.2.2.2.1, gx.2.2.2.2.2.2.1, gx.2.2.2.2.2.2.2.1, gx.2.2.2.2.2.2.2.2.1, gx.2.2.2.2.2.2.2.2.2.1, gx.2.2.2.2.2.2.2.2.2.2.1, gx.2.2.2.2.2.2.2.2.2.2.2.1, gx.2.2.2.2.2.2.2.2.2.2.2.2.1, x13) (gc.1, gc.2.1, gc.2.2.1, c3, upd c4 w (nI v), gc.2.2.2.2.2) s (nI c)).bind (fun r9 => if b2i r9.1 = 0 then f_X2_findFaults_L44f gx gc (nI c) (nI w) (nI 1) rec18 v4 m (nI F) (nI (j + 1)) x13 c3 (upd c4 w (nI v)) r9.2.1 r9.2.2.1 r9.2.2.2.1 r9.2.2.2.2.1 r9.2.2.2.2.2.1 r9.2.2.2.2.2.2.1 r9.2.2.2.2.2.2.2.1 r9.2.2.2.2.2.2.2.2.1 r9.2.2.2.2.2.2.2.2.2.1 r9.2.2.2.2.2.2.2.2.2.2 else gd (ib (nI F) 80) (f_X2_findFaults_L44f gx gc (nI c) (nI w) (nI 1) rec18 v4 m (nI (F + 1)) (nI (j + 1)) (upd x13 F (nI (1000 * w + 100 * 1 + v))) c3 (upd c4 w (nI v)) r9.2.1 r9.2.2.1 r9.2.2.2.1 r9.2.2.2.2.1 r9.2.2.2.2.2.1 r9.2.2.2.2.2.2.1 r9.2.2.2.2.2.2.2.1 r9.2.2.2.2.2.2.2.2.1 r9.2.2.2.2.2.2.2.2.2.1 r9.2.2.2.2.2.2.2.2.2.2))) = Y → f_X2_findFaults_L44f gx gc (nI c) (nI w) (nI 1) rec18 v4 (m + 1) (nI F) (nI j) x13 c3 c4 s.1 s.2.1 s.2.2.1 s.2.2.2.1 s.2.2.2.2.1 s.2.2.2.2.2.1 s.2.2.2.2.2.2.1 s.2.2.2.2.2.2.2.1 s.2.2.2.2.2.2.2.2.1 s.2.2.2.2.2.2.2.2.2 = Y := by
      intro Y hY
      show f_X2_findFaults_B44f gx gc (nI c) (nI w) (nI 1) rec18 v4 (f_X2_findFaults_L44f gx gc (nI c) (nI w) (nI 1) rec18 v4 m) (nI F) (nI j) x13 c3 c4 s.1 s.2.1 s.2.2.1 s.2.2.2.1 s.2.2.2.2.1 s.2.2.2.2.2.1 s.2.2.2.2.2.2.1 s.2.2.2.2.2.2.2.1 s.2.2.2.2.2.2.2.2.1 s.2.2.2.2.2.2.2.2.2 = _
      unfold f_X2_findFaults_B44f f_X2_findFaults_J112f
      simp only [bnd]
      rw [if_neg (show ¬ gx.2.2.2.2.2.2.2.2.1 ≤ nI j by rw [d2]; exact nI_ge (a := j) (b := S) (by omega) (by omega)), gd_t _ (ib_nI (show j < 10 by omega) (by omega)), cl_nI (show j < 2147483648 by omega), cl_nI (show w < 2147483648 by omega), cl_nI (show F < 2147483648 by omega), v3, kv_X, nI_1, nI_1]
      exact hY
    have eM : ∀ Y : Option (Int32 × Ar × Ar × Al × Al × Al × Ar × Ar × Al × Al × Int32 × Int64 × Int64 × Int32 × Int32), ((f_X3_explains m0 m1 m2 m3 m4 m5 m6 m7 m8 m9 m10 m11 m12 m13 1 m20 m21 m22 m24 m25 m26 m27 (nI c) (nI w) (nI 1) (nI v)).bind (fun r6 => if ¬ b2i r6.1 = 0 then (if ¬ nI F = iI z then f_X3_explaining_L26 m0 m1 m4 m5 m6 m18 m19 m20 m21 m22 (nI c) (iI z) (nI w) (nI 1) rec17 k (nI (F + 1)) (nI (j + 1)) r6.2.1 r6.2.2.1 r6.2.2.2.1 r6.2.2.2.2.1 r6.2.2.2.2.2.1 r6.2.2.2.2.2.2.1 r6.2.2.2.2.2.2.2.1 r6.2.2.2.2.2.2.2.2.1 r6.2.2.2.2.2.2.2.2.2.1 r6.2.2.2.2.2.2.2.2.2.2.1 r6.2.2.2.2.2.2.2.2.2.2.2.1 r6.2.2.2.2.2.2.2.2.2.2.2.2.1 r6.2.2.2.2.2.2.2.2.2.2.2.2.2.1 r6.2.2.2.2.2.2.2.2.2.2.2.2.2.2 else some (nI (1000 * w + 100 * 1 + v), r6.2.1, r6.2.2.1, r6.2.2.2.1, r6.2.2.2.2.1, r6.2.2.2.2.2.1, r6.2.2.2.2.2.2.1, r6.2.2.2.2.2.2.2.1, r6.2.2.2.2.2.2.2.2.1, r6.2.2.2.2.2.2.2.2.2.1, r6.2.2.2.2.2.2.2.2.2.2.1, r6.2.2.2.2.2.2.2.2.2.2.2.1, r6.2.2.2.2.2.2.2.2.2.2.2.2.1, r6.2.2.2.2.2.2.2.2.2.2.2.2.2.1, r6.2.2.2.2.2.2.2.2.2.2.2.2.2.2)) else f_X3_explaining_L26 m0 m1 m4 m5 m6 m18 m19 m20 m21 m22 (nI c) (iI z) (nI w) (nI 1) rec17 k (nI F) (nI (j + 1)) r6.2.1 r6.2.2.1 r6.2.2.2.1 r6.2.2.2.2.1 r6.2.2.2.2.2.1 r6.2.2.2.2.2.2.1 r6.2.2.2.2.2.2.2.1 r6.2.2.2.2.2.2.2.2.1 r6.2.2.2.2.2.2.2.2.2.1 r6.2.2.2.2.2.2.2.2.2.2.1 r6.2.2.2.2.2.2.2.2.2.2.2.1 r6.2.2.2.2.2.2.2.2.2.2.2.2.1 r6.2.2.2.2.2.2.2.2.2.2.2.2.2.1 r6.2.2.2.2.2.2.2.2.2.2.2.2.2.2)) = Y → f_X3_explaining_L26 m0 m1 m4 m5 m6 m18 m19 m20 m21 m22 (nI c) (iI z) (nI w) (nI 1) rec17 (k + 1) (nI F) (nI j) m2 m3 m7 m8 m9 m10 m11 m12 m13 1 m24 m25 m26 m27 = Y := by
      intro Y hY
      show f_X3_explaining_B26 m0 m1 m4 m5 m6 m18 m19 m20 m21 m22 (nI c) (iI z) (nI w) (nI 1) rec17 (f_X3_explaining_L26 m0 m1 m4 m5 m6 m18 m19 m20 m21 m22 (nI c) (iI z) (nI w) (nI 1) rec17 k) (nI F) (nI j) m2 m3 m7 m8 m9 m10 m11 m12 m13 1 m24 m25 m26 m27 = _
      unfold f_X3_explaining_B26 f_X3_explaining_J86
      rw [if_neg (show ¬ m19 ≤ nI j by rw [d3]; exact nI_ge (a := j) (b := S) (by omega) (by omega)), gd_t _ (ib_nI (show j < 10 by omega) (by omega)), cl_nI (show j < 2147483648 by omega), v5, kv_M, nI_1, nI_1]
      exact hY
    by_cases hv : nI v = v4
    · obtain ⟨T, fin, a3, a4, ht, g1, g2, g3, g4, g5, g6, g7⟩ := ih m k (j + 1) F x13 c3 (upd c4 w (nI v)) s m2 m3 m7 m8 m9 m24 m25 m26 m27 (by omega) (by omega) (by omega) (by omega) ⟨by rw [upd_upd]; exact hC, hT, hM, hR⟩
      refine ⟨T, fin, a3, a4, ht, eX _ ?_, g2, g3, g4, g5, g6, fun hh2 => ?_⟩
      · rw [if_pos hv]
        exact g1
      · obtain ⟨k2', k3', k7', k8', k9', k24', k25', k26', k27', g8, g9⟩ := g7 hh2
        refine ⟨k2', k3', k7', k8', k9', k24', k25', k26', k27', eM _ ?_, g9⟩
        rw [he, if_neg (show ¬ ¬ nI v = m3 w by rw [hmw]; exact fun h3 => h3 hv), Option.bind_some, if_neg (show ¬ ¬ b2i false = 0 by decide)]
        exact g8
    · have hv2 : ¬ nI v = m3 w := by rw [hmw]; exact hv
      cases b with
      | false =>
        obtain ⟨T, fin, a3, a4, ht, g1, g2, g3, g4, g5, g6, g7⟩ := ih m k (j + 1) F x13 c3 (upd c4 w (nI v)) hh m2 m3 k7 k8 k9 k24 k25 k26 k27 (by omega) (by omega) (by omega) (by omega) ⟨by rw [upd_upd]; exact hC, w4, hM, fun l hl => (w3 l hl).trans (hR l hl)⟩
        refine ⟨T, fin, a3, a4, ht, eX _ ?_, g2, g3, g4, g5, g6, fun hh2 => ?_⟩
        · rw [if_neg hv, w1, Option.bind_some, if_pos (show b2i false = 0 by decide)]
          exact g1
        · obtain ⟨k2', k3', k7', k8', k9', k24', k25', k26', k27', g8, g9⟩ := g7 hh2
          refine ⟨k2', k3', k7', k8', k9', k24', k25', k26', k27', eM _ ?_, g9⟩
          rw [he, if_pos hv2, Option.bind_some, if_neg (show ¬ ¬ b2i false = 0 by decide)]
          exact g8
      | true =>
        obtain ⟨T, fin, a3, a4, ht, g1, g2, g3, g4, g5, g6, g7⟩ := ih m k (j + 1) (F + 1) (upd x13 F (nI (1000 * w + 100 * 1 + v))) c3 (upd c4 w (nI v)) hh m2 m3 k7 k8 k9 k24 k25 k26 k27 (by omega) (by omega) (by omega) (by omega) ⟨by rw [upd_upd]; exact hC, w4, hM, fun l hl => (w3 l hl).trans (hR l hl)⟩
        refine ⟨T, fin, a3, a4, ht, eX _ ?_, by omega, g3, fun l hl => by rw [g4 l (by omega), uI_n (by omega)], g5, g6, fun hh2 => ?_⟩
        · rw [if_neg hv, w1, Option.bind_some, if_neg (show ¬ b2i true = 0 by decide), gd_t _ (ib_nI (show F < 80 by omega) (by omega))]
          exact g1
        · by_cases e : (F : Int) = z
          · refine ⟨m2, m3, k7, k8, k9, k24, k25, k26, k27, eM _ ?_, hM, fun l hl => (w3 l hl).trans (hR l hl)⟩
            rw [he, if_pos hv2, Option.bind_some, if_pos (show ¬ b2i true = 0 by decide), if_neg (show ¬ ¬ nI F = iI z by rw [cz]; exact fun h3 => h3 e), if_neg (show ¬ z < 0 by omega), if_pos (show z < (T : Int) by omega), show z.toNat = F by omega, g4 F (by omega), uI_s]
          · obtain ⟨k2', k3', k7', k8', k9', k24', k25', k26', k27', g8, g9⟩ := g7 (by omega)
            refine ⟨k2', k3', k7', k8', k9', k24', k25', k26', k27', eM _ ?_, g9⟩
            rw [he, if_pos hv2, Option.bind_some, if_pos (show ¬ b2i true = 0 by decide), if_pos (show ¬ nI F = iI z by rw [cz]; exact e)]
            exact g8
theorem fw2 {q : AC} {z : Int} {R : Al} {gx : Xo} {gc : Ci} {m0 m1 : Ar} {m4 : Int32} {m5 : Ar} {m6 : Int32} {m10 m11 : Ar} {m12 m13 : Al} {m18 : Ar} {m19 : Int32} {m20 m21 : Al} {m22 : Int32} {S N c : Nat} (hQ : QOK q) (hD : DRep S gx.2.2.2.2.2.2.2.1 gx.2.2.2.2.2.2.2.2.1 m18 m19) (hE : ERep N gx.2.2.2.2.2.2.2.2.2.1 gx.2.2.2.2.2.2.2.2.2.2.1 gx.2.2.2.2.2.2.2.2.2.2.2.1 m20 m21 m22) (hc : c < aC q) (hz : B31 z) {w : Nat} (hw : w < aC q) (rec4 : Int32 → Int32 → Ar → Ar → Ar → Int64 → Int64 → Al → Al → Ar → Ar → Int32 → Int32 → Int64 → Int64 → Option (Int32 × Ar × Ar × Ar × Int64 × Int64 × Al × Al × Ar × Ar × Int32 × Int32 × Int64 × Int64)) (rec5 : Int32 → Int32 → Ar → Ar → Al → Al → Al → Ar → Ar → Al → Al → Int32 → Int64 → Int64 → Int32 → Int32 → Option (Int32 × Ar × Ar × Al × Al × Al × Ar × Ar × Al × Al × Int32 × Int64 × Int64 × Int32 × Int32)) (hrec : KR q z R gc m0 m1 m4 m5 m6 m10 m11 m12 m13 (20 * w + 20) (nI (w + 1)) rec4 rec5) (m k : Nat) : KR q z R gc m0 m1 m4 m5 m6 m10 m11 m12 m13 (20 * w + 20) (nI 2) (f_X2_findFaults_L18 gx gc (nI c) (nI w) rec4 (m + 1)) (f_X3_explaining_L17 m0 m1 m4 m5 m6 m18 m19 m20 m21 m22 (nI c) (iI z) (nI w) rec5 (k + 1)) := by
  intro F x13 c3 c4 s m2 m3 m7 m8 m9 m24 m25 m26 m27 hF hS
  have hC4 := hQ.1
  have hr := hrec F x13 c3 c4 s m2 m3 m7 m8 m9 m24 m25 m26 m27 (by omega) hS
  have eX : f_X2_findFaults_L18 gx gc (nI c) (nI w) rec4 (m + 1) (nI F) (nI 2) x13 c3 c4 s.1 s.2.1 s.2.2.1 s.2.2.2.1 s.2.2.2.2.1 s.2.2.2.2.2.1 s.2.2.2.2.2.2.1 s.2.2.2.2.2.2.2.1 s.2.2.2.2.2.2.2.2.1 s.2.2.2.2.2.2.2.2.2 = rec4 (nI F) (nI (w + 1)) x13 c3 c4 s.1 s.2.1 s.2.2.1 s.2.2.2.1 s.2.2.2.2.1 s.2.2.2.2.2.1 s.2.2.2.2.2.2.1 s.2.2.2.2.2.2.2.1 s.2.2.2.2.2.2.2.2.1 s.2.2.2.2.2.2.2.2.2 := by
    show f_X2_findFaults_B18 gx gc (nI c) (nI w) rec4 (f_X2_findFaults_L18 gx gc (nI c) (nI w) rec4 m) (nI F) (nI 2) x13 c3 c4 s.1 s.2.1 s.2.2.1 s.2.2.2.1 s.2.2.2.2.1 s.2.2.2.2.2.1 s.2.2.2.2.2.2.1 s.2.2.2.2.2.2.2.1 s.2.2.2.2.2.2.2.2.1 s.2.2.2.2.2.2.2.2.2 = _
    unfold f_X2_findFaults_B18
    rw [if_pos (show (1 : Int32) < nI 2 by decide), nI_1]
  have eM : f_X3_explaining_L17 m0 m1 m4 m5 m6 m18 m19 m20 m21 m22 (nI c) (iI z) (nI w) rec5 (k + 1) (nI F) (nI 2) m2 m3 m7 m8 m9 m10 m11 m12 m13 1 m24 m25 m26 m27 = rec5 (nI F) (nI (w + 1)) m2 m3 m7 m8 m9 m10 m11 m12 m13 1 m24 m25 m26 m27 := by
    show f_X3_explaining_B17 m0 m1 m4 m5 m6 m18 m19 m20 m21 m22 (nI c) (iI z) (nI w) rec5 (f_X3_explaining_L17 m0 m1 m4 m5 m6 m18 m19 m20 m21 m22 (nI c) (iI z) (nI w) rec5 k) (nI F) (nI 2) m2 m3 m7 m8 m9 m10 m11 m12 m13 1 m24 m25 m26 m27 = _
    unfold f_X3_explaining_B17
    rw [if_pos (show (2 : Int32) ≤ nI 2 by decide), nI_1]
  rw [eX, eM]
  exact hr
theorem fw1 {q : AC} {z : Int} {R : Al} {gx : Xo} {gc : Ci} {m0 m1 : Ar} {m4 : Int32} {m5 : Ar} {m6 : Int32} {m10 m11 : Ar} {m12 m13 : Al} {m18 : Ar} {m19 : Int32} {m20 m21 : Al} {m22 : Int32} {S N c : Nat} (hQ : QOK q) (hD : DRep S gx.2.2.2.2.2.2.2.1 gx.2.2.2.2.2.2.2.2.1 m18 m19) (hE : ERep N gx.2.2.2.2.2.2.2.2.2.1 gx.2.2.2.2.2.2.2.2.2.2.1 gx.2.2.2.2.2.2.2.2.2.2.2.1 m20 m21 m22) (hc : c < aC q) (hz : B31 z) {w : Nat} (hw : w < aC q) (rec4 : Int32 → Int32 → Ar → Ar → Ar → Int64 → Int64 → Al → Al → Ar → Ar → Int32 → Int32 → Int64 → Int64 → Option (Int32 × Ar × Ar × Ar × Int64 × Int64 × Al × Al × Ar × Ar × Int32 × Int32 × Int64 × Int64)) (rec5 : Int32 → Int32 → Ar → Ar → Al → Al → Al → Ar → Ar → Al → Al → Int32 → Int64 → Int64 → Int32 → Int32 → Option (Int32 × Ar × Ar × Al × Al × Al × Ar × Ar × Al × Al × Int32 × Int64 × Int64 × Int32 × Int32)) (hrec : KR q z R gc m0 m1 m4 m5 m6 m10 m11 m12 m13 (20 * w + 20) (nI (w + 1)) rec4 rec5) (m k : Nat) : KR q z R gc m0 m1 m4 m5 m6 m10 m11 m12 m13 (20 * w + 10) (nI 1) (f_X2_findFaults_L18 gx gc (nI c) (nI w) rec4 (m + 2)) (f_X3_explaining_L17 m0 m1 m4 m5 m6 m18 m19 m20 m21 m22 (nI c) (iI z) (nI w) rec5 (k + 2)) := by
  intro F x13 c3 c4 s m2 m3 m7 m8 m9 m24 m25 m26 m27 hF hS
  have hC4 := hQ.1
  have hrec2 := fw2 hQ hD hE hc hz hw rec4 rec5 hrec m k
  have hcw : c4 w = iI (aFa q w) := (hS.1.2.2.1 w (by omega)).2.2.2
  have hS2 : FS q R gc m0 m1 m4 m5 m6 c3 (upd c4 w (c4 w)) s m2 m3 m7 := by rw [upd_same]; exact hS
  have hS10 := hD.1
  have hr := ff_f hQ hD hE hc hz hw hcw (f_X2_findFaults_L18 gx gc (nI c) (nI w) rec4 (m + 1)) (f_X3_explaining_L17 m0 m1 m4 m5 m6 m18 m19 m20 m21 m22 (nI c) (iI z) (nI w) rec5 (k + 1)) hrec2 S fuel fuel 0 F x13 c3 c4 s m2 m3 m7 m8 m9 m24 m25 m26 m27 (by omega) (by unfold fuel; omega) (by unfold fuel; omega) (by omega) hS2
  have eX : f_X2_findFaults_L18 gx gc (nI c) (nI w) rec4 (m + 2) (nI F) (nI 1) x13 c3 c4 s.1 s.2.1 s.2.2.1 s.2.2.2.1 s.2.2.2.2.1 s.2.2.2.2.2.1 s.2.2.2.2.2.2.1 s.2.2.2.2.2.2.2.1 s.2.2.2.2.2.2.2.2.1 s.2.2.2.2.2.2.2.2.2 = f_X2_findFaults_L44f gx gc (nI c) (nI w) (nI 1) (f_X2_findFaults_L18 gx gc (nI c) (nI w) rec4 (m + 1)) (c4 w) fuel (nI F) (nI 0) x13 c3 c4 s.1 s.2.1 s.2.2.1 s.2.2.2.1 s.2.2.2.2.1 s.2.2.2.2.2.1 s.2.2.2.2.2.2.1 s.2.2.2.2.2.2.2.1 s.2.2.2.2.2.2.2.2.1 s.2.2.2.2.2.2.2.2.2 := by
    show f_X2_findFaults_B18 gx gc (nI c) (nI w) rec4 (f_X2_findFaults_L18 gx gc (nI c) (nI w) rec4 (m + 1)) (nI F) (nI 1) x13 c3 c4 s.1 s.2.1 s.2.2.1 s.2.2.2.1 s.2.2.2.2.1 s.2.2.2.2.2.1 s.2.2.2.2.2.2.1 s.2.2.2.2.2.2.2.1 s.2.2.2.2.2.2.2.2.1 s.2.2.2.2.2.2.2.2.2 = _
    unfold f_X2_findFaults_B18
    rw [if_neg (show ¬ (1 : Int32) < nI 1 by decide), if_neg (show ¬ nI 1 = 0 by decide), gd_t _ (ib_nI (show w < 4 by omega) (by omega)), bnd_e, cl_nI (show w < 2147483648 by omega), n00]
  have eM : f_X3_explaining_L17 m0 m1 m4 m5 m6 m18 m19 m20 m21 m22 (nI c) (iI z) (nI w) rec5 (k + 2) (nI F) (nI 1) m2 m3 m7 m8 m9 m10 m11 m12 m13 1 m24 m25 m26 m27 = f_X3_explaining_L26 m0 m1 m4 m5 m6 m18 m19 m20 m21 m22 (nI c) (iI z) (nI w) (nI 1) (f_X3_explaining_L17 m0 m1 m4 m5 m6 m18 m19 m20 m21 m22 (nI c) (iI z) (nI w) rec5 (k + 1)) fuel (nI F) (nI 0) m2 m3 m7 m8 m9 m10 m11 m12 m13 1 m24 m25 m26 m27 := by
    show f_X3_explaining_B17 m0 m1 m4 m5 m6 m18 m19 m20 m21 m22 (nI c) (iI z) (nI w) rec5 (f_X3_explaining_L17 m0 m1 m4 m5 m6 m18 m19 m20 m21 m22 (nI c) (iI z) (nI w) rec5 (k + 1)) (nI F) (nI 1) m2 m3 m7 m8 m9 m10 m11 m12 m13 1 m24 m25 m26 m27 = _
    unfold f_X3_explaining_B17
    rw [if_neg (show ¬ (2 : Int32) ≤ nI 1 by decide), n00]
  rw [eX, eM]
  exact hr
theorem fw0 {q : AC} {z : Int} {R : Al} {gx : Xo} {gc : Ci} {m0 m1 : Ar} {m4 : Int32} {m5 : Ar} {m6 : Int32} {m10 m11 : Ar} {m12 m13 : Al} {m18 : Ar} {m19 : Int32} {m20 m21 : Al} {m22 : Int32} {S N c : Nat} (hQ : QOK q) (hD : DRep S gx.2.2.2.2.2.2.2.1 gx.2.2.2.2.2.2.2.2.1 m18 m19) (hE : ERep N gx.2.2.2.2.2.2.2.2.2.1 gx.2.2.2.2.2.2.2.2.2.2.1 gx.2.2.2.2.2.2.2.2.2.2.2.1 m20 m21 m22) (hc : c < aC q) (hz : B31 z) {w : Nat} (hw : w < aC q) (rec4 : Int32 → Int32 → Ar → Ar → Ar → Int64 → Int64 → Al → Al → Ar → Ar → Int32 → Int32 → Int64 → Int64 → Option (Int32 × Ar × Ar × Ar × Int64 × Int64 × Al × Al × Ar × Ar × Int32 × Int32 × Int64 × Int64)) (rec5 : Int32 → Int32 → Ar → Ar → Al → Al → Al → Ar → Ar → Al → Al → Int32 → Int64 → Int64 → Int32 → Int32 → Option (Int32 × Ar × Ar × Al × Al × Al × Ar × Ar × Al × Al × Int32 × Int64 × Int64 × Int32 × Int32)) (hrec : KR q z R gc m0 m1 m4 m5 m6 m10 m11 m12 m13 (20 * w + 20) (nI (w + 1)) rec4 rec5) (m k : Nat) : KR q z R gc m0 m1 m4 m5 m6 m10 m11 m12 m13 (20 * w + 0) (nI 0) (f_X2_findFaults_L18 gx gc (nI c) (nI w) rec4 (m + 3)) (f_X3_explaining_L17 m0 m1 m4 m5 m6 m18 m19 m20 m21 m22 (nI c) (iI z) (nI w) rec5 (k + 3)) := by
  intro F x13 c3 c4 s m2 m3 m7 m8 m9 m24 m25 m26 m27 hF hS
  have hC4 := hQ.1
  have hrec2 := fw1 hQ hD hE hc hz hw rec4 rec5 hrec m k
  have hcw : c3 w = iI (aRi q w) := (hS.1.2.2.1 w (by omega)).2.2.1
  have hS2 : FS q R gc m0 m1 m4 m5 m6 (upd c3 w (c3 w)) c4 s m2 m3 m7 := by rw [upd_same]; exact hS
  have hS10 := hD.1
  have hr := ff_r hQ hD hE hc hz hw hcw (f_X2_findFaults_L18 gx gc (nI c) (nI w) rec4 (m + 2)) (f_X3_explaining_L17 m0 m1 m4 m5 m6 m18 m19 m20 m21 m22 (nI c) (iI z) (nI w) rec5 (k + 2)) hrec2 S fuel fuel 0 F x13 c3 c4 s m2 m3 m7 m8 m9 m24 m25 m26 m27 (by omega) (by unfold fuel; omega) (by unfold fuel; omega) (by omega) hS2
  have eX : f_X2_findFaults_L18 gx gc (nI c) (nI w) rec4 (m + 3) (nI F) (nI 0) x13 c3 c4 s.1 s.2.1 s.2.2.1 s.2.2.2.1 s.2.2.2.2.1 s.2.2.2.2.2.1 s.2.2.2.2.2.2.1 s.2.2.2.2.2.2.2.1 s.2.2.2.2.2.2.2.2.1 s.2.2.2.2.2.2.2.2.2 = f_X2_findFaults_L44r gx gc (nI c) (nI w) (nI 0) (f_X2_findFaults_L18 gx gc (nI c) (nI w) rec4 (m + 2)) (c3 w) fuel (nI F) (nI 0) x13 c3 c4 s.1 s.2.1 s.2.2.1 s.2.2.2.1 s.2.2.2.2.1 s.2.2.2.2.2.1 s.2.2.2.2.2.2.1 s.2.2.2.2.2.2.2.1 s.2.2.2.2.2.2.2.2.1 s.2.2.2.2.2.2.2.2.2 := by
    show f_X2_findFaults_B18 gx gc (nI c) (nI w) rec4 (f_X2_findFaults_L18 gx gc (nI c) (nI w) rec4 (m + 2)) (nI F) (nI 0) x13 c3 c4 s.1 s.2.1 s.2.2.1 s.2.2.2.1 s.2.2.2.2.1 s.2.2.2.2.2.1 s.2.2.2.2.2.2.1 s.2.2.2.2.2.2.2.1 s.2.2.2.2.2.2.2.2.1 s.2.2.2.2.2.2.2.2.2 = _
    unfold f_X2_findFaults_B18
    rw [if_neg (show ¬ (1 : Int32) < nI 0 by decide), if_pos (show nI 0 = 0 by decide), gd_t _ (ib_nI (show w < 4 by omega) (by omega)), bnd_e, cl_nI (show w < 2147483648 by omega), n00]
  have eM : f_X3_explaining_L17 m0 m1 m4 m5 m6 m18 m19 m20 m21 m22 (nI c) (iI z) (nI w) rec5 (k + 3) (nI F) (nI 0) m2 m3 m7 m8 m9 m10 m11 m12 m13 1 m24 m25 m26 m27 = f_X3_explaining_L26 m0 m1 m4 m5 m6 m18 m19 m20 m21 m22 (nI c) (iI z) (nI w) (nI 0) (f_X3_explaining_L17 m0 m1 m4 m5 m6 m18 m19 m20 m21 m22 (nI c) (iI z) (nI w) rec5 (k + 2)) fuel (nI F) (nI 0) m2 m3 m7 m8 m9 m10 m11 m12 m13 1 m24 m25 m26 m27 := by
    show f_X3_explaining_B17 m0 m1 m4 m5 m6 m18 m19 m20 m21 m22 (nI c) (iI z) (nI w) rec5 (f_X3_explaining_L17 m0 m1 m4 m5 m6 m18 m19 m20 m21 m22 (nI c) (iI z) (nI w) rec5 (k + 2)) (nI F) (nI 0) m2 m3 m7 m8 m9 m10 m11 m12 m13 1 m24 m25 m26 m27 = _
    unfold f_X3_explaining_B17
    rw [if_neg (show ¬ (2 : Int32) ≤ nI 0 by decide), n00]
  rw [eX, eM]
  exact hr
theorem fa_all {q : AC} {z : Int} {R : Al} {gx : Xo} {gc : Ci} {m0 m1 : Ar} {m4 : Int32} {m5 : Ar} {m6 : Int32} {m10 m11 : Ar} {m12 m13 : Al} {m18 : Ar} {m19 : Int32} {m20 m21 : Al} {m22 : Int32} {S N c : Nat} (hQ : QOK q) (hD : DRep S gx.2.2.2.2.2.2.2.1 gx.2.2.2.2.2.2.2.2.1 m18 m19) (hE : ERep N gx.2.2.2.2.2.2.2.2.2.1 gx.2.2.2.2.2.2.2.2.2.2.1 gx.2.2.2.2.2.2.2.2.2.2.2.1 m20 m21 m22) (hc : c < aC q) (hz : B31 z) (hz1 : -1 ≤ z) (hg : gc.1 = nI (aC q)) (h4 : m4 = nI (aC q)) : ∀ (t m k i : Nat), i + t = aC q → t < m → t < k → KR q z R gc m0 m1 m4 m5 m6 m10 m11 m12 m13 (20 * i) (nI i) (f_X2_findFaults_L4 gx gc (nI c) m) (f_X3_explaining_L5 m0 m1 m4 m5 m6 m18 m19 m20 m21 m22 (nI c) (iI z) k) := by
  have hC4 := hQ.1
  intro t
  induction t with
  | zero =>
    intro m k i hi hm hk F x13 c3 c4 s m2 m3 m7 m8 m9 m24 m25 m26 m27 hF hS
    obtain ⟨m, rfl⟩ : ∃ m', m = m' + 1 := ⟨m - 1, by omega⟩
    obtain ⟨k, rfl⟩ : ∃ k', k = k' + 1 := ⟨k - 1, by omega⟩
    have cz : (iI z = (-1)) = (z = -1) := by rw [mI1]; exact eqE hz (by omega)
    have eX : f_X2_findFaults_L4 gx gc (nI c) (m + 1) (nI F) (nI i) x13 c3 c4 s.1 s.2.1 s.2.2.1 s.2.2.2.1 s.2.2.2.2.1 s.2.2.2.2.2.1 s.2.2.2.2.2.2.1 s.2.2.2.2.2.2.2.1 s.2.2.2.2.2.2.2.2.1 s.2.2.2.2.2.2.2.2.2 = some (nI F, x13, c3, c4, s.1, s.2.1, s.2.2.1, s.2.2.2.1, s.2.2.2.2.1, s.2.2.2.2.2.1, s.2.2.2.2.2.2.1, s.2.2.2.2.2.2.2.1, s.2.2.2.2.2.2.2.2.1, s.2.2.2.2.2.2.2.2.2) := by
      show f_X2_findFaults_B4 gx gc (nI c) (f_X2_findFaults_L4 gx gc (nI c) m) (nI F) (nI i) x13 c3 c4 s.1 s.2.1 s.2.2.1 s.2.2.2.1 s.2.2.2.2.1 s.2.2.2.2.2.1 s.2.2.2.2.2.2.1 s.2.2.2.2.2.2.2.1 s.2.2.2.2.2.2.2.2.1 s.2.2.2.2.2.2.2.2.2 = _
      unfold f_X2_findFaults_B4
      rw [if_pos (show gc.1 ≤ nI i by rw [hg]; exact nI_le (by omega) (by omega))]
    have eM : f_X3_explaining_L5 m0 m1 m4 m5 m6 m18 m19 m20 m21 m22 (nI c) (iI z) (k + 1) (nI F) (nI i) m2 m3 m7 m8 m9 m10 m11 m12 m13 1 m24 m25 m26 m27 = if ¬ z = -1 then some ((-1), m2, m3, m7, m8, m9, m10, m11, m12, m13, 1, m24, m25, m26, m27) else some (nI F, m2, m3, m7, m8, m9, m10, m11, m12, m13, 1, m24, m25, m26, m27) := by
      show f_X3_explaining_B5 m0 m1 m4 m5 m6 m18 m19 m20 m21 m22 (nI c) (iI z) (f_X3_explaining_L5 m0 m1 m4 m5 m6 m18 m19 m20 m21 m22 (nI c) (iI z) k) (nI F) (nI i) m2 m3 m7 m8 m9 m10 m11 m12 m13 1 m24 m25 m26 m27 = _
      unfold f_X3_explaining_B5
      rw [if_pos (show m4 ≤ nI i by rw [h4]; exact nI_le (by omega) (by omega))]
      simp only [cz]
    rw [eX, eM]
    refine ⟨F, x13, c3, c4, s, rfl, Nat.le_refl F, by omega, fun _ _ => rfl, hS.1, hS.2.1, fun hh => ⟨m2, m3, m7, m8, m9, m24, m25, m26, m27, ?_, hS.2.2.1, hS.2.2.2⟩⟩
    by_cases e : z = -1
    · rw [if_neg (show ¬ ¬ z = -1 from fun h2 => h2 e), if_pos (show z < 0 by omega)]
    · rw [if_pos e, if_neg (show ¬ z < 0 by omega), if_neg (show ¬ z < (F : Int) by omega)]
  | succ t ih =>
    intro m k i hi hm hk F x13 c3 c4 s m2 m3 m7 m8 m9 m24 m25 m26 m27 hF hS
    obtain ⟨m, rfl⟩ : ∃ m', m = m' + 1 := ⟨m - 1, by omega⟩
    obtain ⟨k, rfl⟩ : ∃ k', k = k' + 1 := ⟨k - 1, by omega⟩
    have hr := fw0 hQ hD hE hc hz (show i < aC q by omega) (f_X2_findFaults_L4 gx gc (nI c) m) (f_X3_explaining_L5 m0 m1 m4 m5 m6 m18 m19 m20 m21 m22 (nI c) (iI z) k) (ih m k (i + 1) (by omega) (by omega) (by omega)) 997 997 F x13 c3 c4 s m2 m3 m7 m8 m9 m24 m25 m26 m27 (by omega) hS
    have eX : f_X2_findFaults_L4 gx gc (nI c) (m + 1) (nI F) (nI i) x13 c3 c4 s.1 s.2.1 s.2.2.1 s.2.2.2.1 s.2.2.2.2.1 s.2.2.2.2.2.1 s.2.2.2.2.2.2.1 s.2.2.2.2.2.2.2.1 s.2.2.2.2.2.2.2.2.1 s.2.2.2.2.2.2.2.2.2 = f_X2_findFaults_L18 gx gc (nI c) (nI i) (f_X2_findFaults_L4 gx gc (nI c) m) (997 + 3) (nI F) (nI 0) x13 c3 c4 s.1 s.2.1 s.2.2.1 s.2.2.2.1 s.2.2.2.2.1 s.2.2.2.2.2.1 s.2.2.2.2.2.2.1 s.2.2.2.2.2.2.2.1 s.2.2.2.2.2.2.2.2.1 s.2.2.2.2.2.2.2.2.2 := by
      show f_X2_findFaults_B4 gx gc (nI c) (f_X2_findFaults_L4 gx gc (nI c) m) (nI F) (nI i) x13 c3 c4 s.1 s.2.1 s.2.2.1 s.2.2.2.1 s.2.2.2.2.1 s.2.2.2.2.2.1 s.2.2.2.2.2.2.1 s.2.2.2.2.2.2.2.1 s.2.2.2.2.2.2.2.2.1 s.2.2.2.2.2.2.2.2.2 = _
      unfold f_X2_findFaults_B4
      rw [if_neg (show ¬ gc.1 ≤ nI i by rw [hg]; exact nI_ge (a := i) (b := aC q) (by omega) (by omega)), n00, fuel3]
    have eM : f_X3_explaining_L5 m0 m1 m4 m5 m6 m18 m19 m20 m21 m22 (nI c) (iI z) (k + 1) (nI F) (nI i) m2 m3 m7 m8 m9 m10 m11 m12 m13 1 m24 m25 m26 m27 = f_X3_explaining_L17 m0 m1 m4 m5 m6 m18 m19 m20 m21 m22 (nI c) (iI z) (nI i) (f_X3_explaining_L5 m0 m1 m4 m5 m6 m18 m19 m20 m21 m22 (nI c) (iI z) k) (997 + 3) (nI F) (nI 0) m2 m3 m7 m8 m9 m10 m11 m12 m13 1 m24 m25 m26 m27 := by
      show f_X3_explaining_B5 m0 m1 m4 m5 m6 m18 m19 m20 m21 m22 (nI c) (iI z) (f_X3_explaining_L5 m0 m1 m4 m5 m6 m18 m19 m20 m21 m22 (nI c) (iI z) k) (nI F) (nI i) m2 m3 m7 m8 m9 m10 m11 m12 m13 1 m24 m25 m26 m27 = _
      unfold f_X3_explaining_B5
      rw [if_neg (show ¬ m4 ≤ nI i by rw [h4]; exact nI_ge (a := i) (b := aC q) (by omega) (by omega)), n00, fuel3]
    rw [eX, eM]
    exact hr
end FAULTS
