section PACK
theorem shl_lI (z : Int) (k : Nat) (s : Int64) (c : Int) (hs : (s.toBitVec.smod 64#64).toNat = k) (hc : BitVec.twoPow 64 k = BitVec.ofInt 64 c) : lI z <<< s = lI (z * c) := by
  apply Int64.toBitVec.inj
  rw [Int64.toBitVec_shiftLeft]
  show (BitVec.ofInt 64 z) <<< (s.toBitVec.smod 64#64) = BitVec.ofInt 64 (z * c)
  rw [BitVec.shiftLeft_eq', hs, BitVec.shiftLeft_eq_mul_twoPow, BitVec.ofInt_mul, hc]
theorem shr_lI {z : Int} (hz : B63 z) (k : Nat) (s : Int64) (hs : (s.toBitVec.smod 64#64).toNat = k) : lI z >>> s = lI (z / ((2 ^ k : Nat) : Int)) := by
  have h : (lI z >>> s).toInt = z / ((2 ^ k : Nat) : Int) := by
    show ((lI z >>> s).toBitVec).toInt = _
    rw [Int64.toBitVec_shiftRight]
    show ((lI z).toBitVec.sshiftRight' (s.toBitVec.smod 64#64)).toInt = _
    rw [BitVec.sshiftRight_eq', hs, BitVec.toInt_sshiftRight, Int.shiftRight_eq_div_pow]
    show (lI z).toInt / _ = _
    rw [lI_t hz]
  rw [← h]
  exact (Int64.ofInt_toInt _).symm
theorem and_lI (z : Int) : lI z &&& 1048575 = lI (z % 1048576) := by
  apply Int64.toBitVec.inj
  rw [Int64.toBitVec_and]
  show (BitVec.ofInt 64 z) &&& 1048575#64 = BitVec.ofInt 64 (z % 1048576)
  apply BitVec.eq_of_toNat_eq
  rw [BitVec.toNat_and, BitVec.toNat_ofInt, BitVec.toNat_ofInt, show (1048575#64).toNat = 2 ^ 20 - 1 from rfl, Nat.and_two_pow_sub_one_eq_mod]
  show (z % 18446744073709551616).toNat % 1048576 = (z % 1048576 % 18446744073709551616).toNat
  omega
theorem and_iI3 (z : Int) : iI z &&& 3 = iI (z % 4) := by
  apply Int32.toBitVec.inj
  rw [Int32.toBitVec_and]
  show (BitVec.ofInt 32 z) &&& 3#32 = BitVec.ofInt 32 (z % 4)
  apply BitVec.eq_of_toNat_eq
  rw [BitVec.toNat_and, BitVec.toNat_ofInt, BitVec.toNat_ofInt, show (3#32).toNat = 2 ^ 2 - 1 from rfl, Nat.and_two_pow_sub_one_eq_mod]
  show (z % 4294967296).toNat % 4 = (z % 4 % 4294967296).toNat
  omega
theorem and_iI1 (z : Int) : iI z &&& 1 = iI (z % 2) := by
  apply Int32.toBitVec.inj
  rw [Int32.toBitVec_and]
  show (BitVec.ofInt 32 z) &&& 1#32 = BitVec.ofInt 32 (z % 2)
  apply BitVec.eq_of_toNat_eq
  rw [BitVec.toNat_and, BitVec.toNat_ofInt, BitVec.toNat_ofInt, show (1#32).toNat = 2 ^ 1 - 1 from rfl, Nat.and_two_pow_sub_one_eq_mod]
  show (z % 4294967296).toNat % 2 = (z % 2 % 4294967296).toNat
  omega
/-- an EVENT, packed -/
def pkE (n d : Int) (p z : Nat) : Int := (n * 1048576 + d) * 8 + (2 * p + z)
theorem pkE_b {n d : Int} {p z : Nat} (hn : n.natAbs ≤ 1000000) (hd : 1 ≤ d) (hd2 : d.natAbs ≤ 1000000) (hp : p < 4) (hz : z ≤ 1) : B63 (pkE n d p z) := by
  unfold pkE; omega
theorem pk_turn {n d : Int} {p z : Nat} (hn : n.natAbs ≤ 1000000) (hd : 1 ≤ d) (hd2 : d.natAbs ≤ 1000000) (hp : p < 4) (hz : z ≤ 1) : (lI (pkE n d p z) >>> ((1 : Int32).toInt64 &&& 63)).toInt32 &&& 3 = iI p := by
  rw [shr_lI (pkE_b hn hd hd2 hp hz) 1 _ (by decide), l2i_lI, and_iI3]
  congr 1
  unfold pkE
  omega
theorem pk_side {n d : Int} {p z : Nat} (hz : z ≤ 1) : (lI (pkE n d p z)).toInt32 &&& 1 = iI z := by
  rw [l2i_lI, and_iI1]
  congr 1
  unfold pkE
  omega
theorem pk_num {n d : Int} {p z : Nat} (hn : n.natAbs ≤ 1000000) (hd : 1 ≤ d) (hd2 : d.natAbs ≤ 1000000) (hp : p < 4) (hz : z ≤ 1) : lI (pkE n d p z) >>> ((23 : Int32).toInt64 &&& 63) = lI n := by
  rw [shr_lI (pkE_b hn hd hd2 hp hz) 23 _ (by decide)]
  congr 1
  unfold pkE
  omega
theorem pk_den {n d : Int} {p z : Nat} (hn : n.natAbs ≤ 1000000) (hd : 1 ≤ d) (hd2 : d.natAbs ≤ 1000000) (hp : p < 4) (hz : z ≤ 1) : (lI (pkE n d p z) >>> ((3 : Int32).toInt64 &&& 63)) &&& 1048575 = lI d := by
  rw [shr_lI (pkE_b hn hd hd2 hp hz) 3 _ (by decide), and_lI]
  congr 1
  unfold pkE
  omega
theorem n2l {n : Nat} (h : n < 2147483648) : (nI n).toInt64 = lI n := by rw [nI_iI, i2l_iI (by omega)]
theorem pe_ok {a : AM} {s : Sw} (hS : SRep a s) {p z : Nat} (hp : p < 4) (hz : z ≤ 1) (e7 : s.2.2.2.2.2.2.1 = nI p) (e8 : s.2.2.2.2.2.2.2.1 = nI z) : f_X1_packedEvent s = some (lI (pkE a.1 a.2.1 p z)) := by
  unfold f_X1_packedEvent f_X2_packed
  rw [Option.bind_some, hS.1, hS.2.1, e7, e8, shl_lI _ 20 _ 1048576 (by decide) (by decide), lI_add, shl_lI _ 3 _ 8 (by decide) (by decide), show nI p * 2 = nI (p * 2) from pk_mul p 2, n2l (by omega), n2l (by omega), lI_add, lI_add]
  congr 2
  unfold pkE
  omega
/-- what is kept of the events -/
def KRep (H : Nat) (kp : Al) (m10 m11 : Ar) (m12 m13 : Al) : Prop := ∀ i, i < H → i < 500 → ∃ (n d : Int) (p z : Nat), n.natAbs ≤ 1000000 ∧ 1 ≤ d ∧ d.natAbs ≤ 1000000 ∧ p < 4 ∧ z ≤ 1 ∧ kp i = lI (pkE n d p z) ∧ m10 i = nI p ∧ m11 i = nI z ∧ m12 i = lI n ∧ m13 i = lI d
/-- how often each turned at its top, at its bottom -/
def TRep (H : Nat) (tp bt : Ar) (r : Al) : Prop := ∀ i, i < 4 → ∃ x y : Nat, x ≤ H ∧ y ≤ H ∧ tp i = nI x ∧ bt i = nI y ∧ r (22 + i) = lI x ∧ r (26 + i) = lI y
def TOK (s : Sw) : Prop := ∃ p z : Nat, p < 4 ∧ z ≤ 1 ∧ s.2.2.2.2.2.2.1 = nI p ∧ s.2.2.2.2.2.2.2.1 = nI z
theorem kept_nI {H : Nat} (hH : H < 1000000000) : f_X2_isKept (nI H) = some (decide (H < 500)) := by
  unfold f_X2_isKept
  have h0 : ¬ nI H < 0 := by
    rw [nI_iI]
    exact fun h => absurd ((iI_lt (a := (H : Int)) (b := 0) (by omega) (by omega)).mp h) (by omega)
  rw [if_neg h0]
  by_cases h5 : H < 500
  · rw [if_neg (show ¬ (500 : Int32) ≤ nI H from nI_ge (a := H) (b := 500) h5 (by decide)), decide_eq_true h5]
  · rw [if_pos (show (500 : Int32) ≤ nI H from nI_le (a := 500) (b := H) (by omega) (by omega)), decide_eq_false h5]
theorem ne_ok {a : AM} {x : Xo} {s : Sw} {H p z : Nat} (hH : H < 1000000000) (hx : x.1 = nI H) (hS : SRep a s) (hp : p < 4) (hz : z ≤ 1) (e7 : s.2.2.2.2.2.2.1 = nI p) (e8 : s.2.2.2.2.2.2.2.1 = nI z) :
    f_X2_noteEvent x s = some (nI (H + 1), if z = 0 then upd x.2.1 p (x.2.1 p + 1) else x.2.1, if z = 0 then x.2.2.1 else upd x.2.2.1 p (x.2.2.1 p + 1), if H < 500 then vp_updL x.2.2.2.1 H (lI (pkE a.1 a.2.1 p z)) else x.2.2.2.1) := by
  have hJ : ∀ k : Al, f_X2_noteEvent_J26 x s k = some (nI (H + 1), if z = 0 then upd x.2.1 p (x.2.1 p + 1) else x.2.1, if z = 0 then x.2.2.1 else upd x.2.2.1 p (x.2.2.1 p + 1), k) := by
    intro k
    unfold f_X2_noteEvent_J26
    simp only [bnd]
    rw [e7, e8, gd_t _ (ib_nI (show p < 4 by omega) (by omega)), gd_t _ (ib_nI (show p < 4 by omega) (by omega)), cl_nI (by omega), hx, nI_1]
    by_cases hz0 : z = 0
    · rw [if_neg (show ¬ ¬ nI z = 0 by rw [hz0]; decide), if_pos hz0, if_pos hz0]
    · rw [if_pos (show ¬ nI z = 0 from fun h => hz0 ((nI_eq0 (by omega)).mp h)), if_neg hz0, if_neg hz0]
  unfold f_X2_noteEvent
  rw [hx, kept_nI hH, Option.bind_some]
  by_cases h5 : H < 500
  · rw [decide_eq_true h5, if_neg (show ¬ b2i true = 0 by decide), pe_ok hS hp hz e7 e8, Option.bind_some, gd_t _ (ib_nI h5 (by omega)), cl_nI (by omega), hJ, if_pos h5]
  · rw [decide_eq_false h5, if_pos (show b2i false = 0 by decide), hJ, if_neg h5]
theorem TRep.step {H p z : Nat} {tp bt : Ar} {r r3 : Al} (h : TRep H tp bt r) (hz : z ≤ 1) (hp : p < 4) (hr : ∀ j, 22 ≤ j → j < 30 → r3 j = r j + (if j = upC z p then 1 else 0)) : TRep (H + 1) (if z = 0 then upd tp p (tp p + 1) else tp) (if z = 0 then bt else upd bt p (bt p + 1)) r3 := by
  intro i hi
  obtain ⟨x, y, hx, hy, e1, e2, e3, e4⟩ := h i hi
  have u0 : z = 0 → upC z p = 22 + p := fun h0 => by unfold upC; rw [if_pos h0]
  have u1 : ¬ z = 0 → upC z p = 26 + p := fun h0 => by unfold upC; rw [if_neg h0]
  by_cases hz0 : z = 0
  · rw [if_pos hz0, if_pos hz0]
    have hu := u0 hz0
    by_cases e : i = p
    · subst e
      refine ⟨x + 1, y, by omega, by omega, ?_, e2, ?_, ?_⟩
      · rw [uI_s, e1, nI_1]
      · rw [hr _ (by omega) (by omega), hu, if_pos rfl, e3]; exact lI_add x 1
      · rw [hr _ (by omega) (by omega), hu, if_neg (by omega), e4, Int64.add_zero]
    · refine ⟨x, y, by omega, by omega, ?_, e2, ?_, ?_⟩
      · rw [uI_n e, e1]
      · rw [hr _ (by omega) (by omega), hu, if_neg (by omega), e3, Int64.add_zero]
      · rw [hr _ (by omega) (by omega), hu, if_neg (by omega), e4, Int64.add_zero]
  · rw [if_neg hz0, if_neg hz0]
    have hu := u1 hz0
    by_cases e : i = p
    · subst e
      refine ⟨x, y + 1, by omega, by omega, e1, ?_, ?_, ?_⟩
      · rw [uI_s, e2, nI_1]
      · rw [hr _ (by omega) (by omega), hu, if_neg (by omega), e3, Int64.add_zero]
      · rw [hr _ (by omega) (by omega), hu, if_pos rfl, e4]; exact lI_add y 1
    · refine ⟨x, y, by omega, by omega, e1, ?_, ?_, ?_⟩
      · rw [uI_n e, e2]
      · rw [hr _ (by omega) (by omega), hu, if_neg (by omega), e3, Int64.add_zero]
      · rw [hr _ (by omega) (by omega), hu, if_neg (by omega), e4, Int64.add_zero]
/-- the reference keeps an event -/
theorem lg_ok {H : Nat} (hH : H < 1000000000) (m10 m11 : Ar) (m12 m13 : Al) (r2 r3 : Al) (x y : Int64) (p z : Int32) (h30 : r3 30 = lI (H + 1)) :
    logd m10 m11 m12 m13 1 r2 r3 x y p z = if H < 500 then some (true, r3, r2, upd m10 H p, upd m11 H z, vp_updL m12 H (r3 20), vp_updL m13 H (r3 21), x, y, p, z) else some (true, r3, r2, m10, m11, m12, m13, x, y, p, z) := by
  unfold logd
  rw [if_neg (show ¬ (1 : Int32) = 0 by decide), h30]
  have hb : B63 ((H : Int) + 1) := by omega
  have hc : (0 : Int32) < lg_cmp (lI ((H : Int) + 1)) 500 ↔ 500 < (H : Int) + 1 := by
    rw [lg_cmp_gt, show (500 : Int64) = lI 500 from rfl, lI_lt (by omega) hb]
  by_cases h5 : H < 500
  · rw [if_neg (fun h => by have := hc.mp h; omega), if_pos h5, l2i_lI, show iI ((H : Int) + 1) - 1 = nI H by rw [show (1 : Int32) = iI 1 from rfl, iI_sub, nI_iI]; congr 1; omega, gd_t _ (ib_nI h5 (by omega)), cl_nI (by omega)]
  · rw [if_pos (hc.mpr (by omega)), if_neg h5]
theorem KRep.step {H p z : Nat} {kp m12 m13 : Al} {m10 m11 : Ar} {n d : Int} (h : KRep H kp m10 m11 m12 m13) (hn : n.natAbs ≤ 1000000) (hd : 1 ≤ d) (hd2 : d.natAbs ≤ 1000000) (hp : p < 4) (hz : z ≤ 1) : KRep (H + 1) (vp_updL kp H (lI (pkE n d p z))) (upd m10 H (nI p)) (upd m11 H (nI z)) (vp_updL m12 H (lI n)) (vp_updL m13 H (lI d)) := by
  intro i hi h5
  by_cases e : i = H
  · subst e
    refine ⟨n, d, p, z, hn, hd, hd2, hp, hz, ?_, ?_, ?_, ?_, ?_⟩
    · rw [uL_s]
    · rw [uI_s]
    · rw [uI_s]
    · rw [uL_s]
    · rw [uL_s]
  · rw [uL_n e, uI_n e, uI_n e, uL_n e, uL_n e]
    exact h i (by omega) h5
theorem KRep.more {H : Nat} {kp m12 m13 : Al} {m10 m11 : Ar} (h : KRep H kp m10 m11 m12 m13) (h5 : ¬ H < 500) : KRep (H + 1) kp m10 m11 m12 m13 := fun i hi h6 => h i (by omega) h6
end PACK
