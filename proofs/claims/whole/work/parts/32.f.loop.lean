set_option maxHeartbeats 40000000 in
set_option maxRecDepth 100000 in
theorem law_next {p : Program} {l : Launch} {e : Env} {s : State} {m : MethodId} {below : List Frame} {meth : Method} {c : Code} {b : Nat} {D : va_G} {cI cJ cZ : ClassId} {adx adc adm : Nat → Nat} {qo : Nat} {L : Nat} {xs : Nat → Int32} {sa sb : Nat} (hC : LCx p l s m meth c b D cI cJ cZ L xs sa sb) {K i : Nat} (hi : i + 7 ≤ L) (ih : LI p l e s m below meth c b D cI cJ cZ adx adc adm qo 23 K (nI (i + 7))) : LI p l e s m below meth c b D cI cJ cZ adx adc adm qo 862 K (nI i) := by
  obtain ⟨hx, hb, hr, hml, hown, hts, hX, hbl, hlocks, hK, hTw, hU, hN, hst, hL⟩ := hC
  intro adn adt gx gc gn gt m0 m1 m2 m3 m4 m5 m6 m7 m8 m9 m10 m11 m12 m13 m14 m15 m16 m17 m18 m19 m20 m21 m22 m23 m24 m25 m26 m27 u H locs ls hRR hP hD hS hl
  refine lv_iinc (v := nI (i + 7)) (lv' := [(4, .int (nI (i + 7))), (0, .ref b), (1, .ref (adx 0)), (2, .ref (adm 0)), (3, .ref qo)]) hx hb dL_law_862 hl (k := 4) rfl (ixp i 7) (by decide) rfl (fun ls hl => ?_)
  refine lv_goto (tgt := 23) hx hb dL_law_865 (by decide) ?_
  exact ih _ _ _ _ _ _ _ _ _ _ _ _ _ _ _ _ _ _ _ _ _ _ _ _ _ _ _ _ _ _ _ _ _ _ _ _ _ _ hRR hP hD hS (lv_sub hl [1, 2, 3, 4, 0] rfl)
theorem LI.more {p : Program} {l : Launch} {e : Env} {s : State} {m : MethodId} {below : List Frame} {meth : Method} {c : Code} {b : Nat} {D : va_G} {cI cJ cZ : ClassId} {adx adc adm : Nat → Nat} {qo : Nat} {pc K : Nat} {x4 : Int32} (h : LI p l e s m below meth c b D cI cJ cZ adx adc adm qo pc (K + 1) x4) : LI p l e s m below meth c b D cI cJ cZ adx adc adm qo pc K x4 := by
  intro adn adt gx gc gn gt m0 m1 m2 m3 m4 m5 m6 m7 m8 m9 m10 m11 m12 m13 m14 m15 m16 m17 m18 m19 m20 m21 m22 m23 m24 m25 m26 m27 u H locs ls hRR hP hD hS hl
  refine W.widen (k := 100 + 2 * (K + 1)) (n := 20000 + 12 * (K + 1)) (by omega) (by omega) ?_
  exact h _ _ _ _ _ _ _ _ _ _ _ _ _ _ _ _ _ _ _ _ _ _ _ _ _ _ _ _ _ _ _ _ _ _ _ _ _ _ hRR.mono hP hD hS hl
set_option maxHeartbeats 40000000 in
set_option maxRecDepth 100000 in
theorem law_loop {p : Program} {l : Launch} {e : Env} {s : State} {m : MethodId} {below : List Frame} {meth : Method} {c : Code} {b : Nat} {D : va_G} {cI cJ cZ : ClassId} {adx adc adm : Nat → Nat} {qo : Nat} {L : Nat} {xs : Nat → Int32} {sa sb : Nat} (hC : LCx p l s m meth c b D cI cJ cZ L xs sa sb) : ∀ (n K : Nat), K + n = 513 → 7 * K ≤ L → LI p l e s m below meth c b D cI cJ cZ adx adc adm qo 23 K (nI (7 * K)) := by
  intro n
  induction n with
  | zero =>
    intro K h1 h2
    have hL := hC.2.2.2.2.2.2.2.2.2.2.2.2.2.2
    exact absurd h2 (by omega)
  | succ n ih =>
    intro K h1 h2 adn adt gx gc gn gt m0 m1 m2 m3 m4 m5 m6 m7 m8 m9 m10 m11 m12 m13 m14 m15 m16 m17 m18 m19 m20 m21 m22 m23 m24 m25 m26 m27 u H locs ls hRR hP hD hS hl
    have hC0 := hC
    obtain ⟨hx, hb, hr, hml, hown, hts, hX, hbl, hlocks, hK, hTw, hU, hN, hst, hL⟩ := hC
    have hA : ∀ q : Nat, s.heap.size ≤ q → (fun q : Nat => s.heap.size ≤ q) q := fun _ h => h
    have hbA : ¬ (fun q : Nat => s.heap.size ≤ q) b := Nat.not_le.mpr hbl
    refine lv_iload hx hb dL_law_23 (lv_at hl 4 rfl) ?_
    refine lv_aload_n hx hb dL_law_25 rfl (lv_at hl 0 rfl) ?_
    refine va_slen hx hb hX hbl hbA hS dL_law_26 ?_
    refine lv_bipush (v := nI 7) hx hb dL_law_27 (by decide) ?_
    refine lv_isub hx hb dL_law_29 ?_
    have hcmp : (nI L - nI 7 < nI (7 * K)) = ((L : Int) - 7 < (7 * K : Nat)) := by
      rw [nI_iI, nI_iI, nI_iI, iI_sub, ltE (by omega) (by omega)]
      exact propext ⟨fun h => by omega, fun h => by omega⟩
    refine lv_icmp_gt (tgt := 868) hx hb dL_law_30 (by decide) (fun q => ?_) (fun q => ?_)
    · refine lv_iconst (v := 1) hx hb dL_law_868 (by decide) ?_
      refine va_forget (fun q hq => hS.2.2 q hq) ?_
      refine W.widen (k := 601024) (n := 7293034) (by omega) (by omega) ?_
      exact lw_ret hx hb hr hlocks dL_law_869
    · have hi : 7 * K + 7 ≤ L := by
        have h9 : ¬ ((L : Int) - 7 < (7 * K : Nat)) := fun h => q (by rw [← hcmp] at h; exact h)
        omega
      have hK9 : K ≤ 511 := by omega
      have next : LI p l e s m below meth c b D cI cJ cZ adx adc adm qo 862 (K + 1) (nI (7 * K)) := law_next hC0 hi (by
        have h9 := ih (K + 1) (by omega) (by omega)
        rw [show 7 * (K + 1) = 7 * K + 7 by omega] at h9
        exact h9)
      refine lv_aload_n hx hb dL_law_33 rfl (lv_at hl 0 rfl) ?_
      refine lv_iload hx hb dL_law_34 (lv_at hl 4 rfl) ?_
      refine va_sld hx hb hX hbl hbA hS (li_in0 hi hL) dL_law_36 ?_
      refine lv_bipush (v := 31) hx hb dL_law_37 (by decide) ?_
      refine lv_iand hx hb dL_law_39 ?_
      refine lv_topi (fun z ez => ?_)
      by_cases q0 : z = 0
      · refine lv_tableIn (off := 96) (tgt := 136) hx hb dL_law_40 (by rw [q0]; decide) (by rw [q0]; decide) (by rw [q0]; rfl) (by decide) ?_
        exact law_c0 hC0 hK9 hi next _ _ _ _ _ _ _ _ _ _ _ _ _ _ _ _ _ _ _ _ _ _ _ _ _ _ _ _ _ _ _ _ _ _ _ _ _ _ hRR hP hD hS hl
      by_cases q1 : z = 1
      · refine lv_tableIn (off := 157) (tgt := 197) hx hb dL_law_40 (by rw [q1]; decide) (by rw [q1]; decide) (by rw [q1]; rfl) (by decide) ?_
        exact law_c1 hC0 hK9 hi next _ _ _ _ _ _ _ _ _ _ _ _ _ _ _ _ _ _ _ _ _ _ _ _ _ _ _ _ _ _ _ _ _ _ _ _ _ _ hRR hP hD hS hl
      by_cases q2 : z = 2
      · refine lv_tableIn (off := 244) (tgt := 284) hx hb dL_law_40 (by rw [q2]; decide) (by rw [q2]; decide) (by rw [q2]; rfl) (by decide) ?_
        exact law_c2 hC0 hK9 hi next _ _ _ _ _ _ _ _ _ _ _ _ _ _ _ _ _ _ _ _ _ _ _ _ _ _ _ _ _ _ _ _ _ _ _ _ _ _ hRR hP hD hS hl
      by_cases q3 : z = 3
      · refine lv_tableIn (off := 257) (tgt := 297) hx hb dL_law_40 (by rw [q3]; decide) (by rw [q3]; decide) (by rw [q3]; rfl) (by decide) ?_
        exact law_c3 hC0 hK9 hi next _ _ _ _ _ _ _ _ _ _ _ _ _ _ _ _ _ _ _ _ _ _ _ _ _ _ _ _ _ _ _ _ _ _ _ _ _ _ hRR hP hD hS hl
      by_cases q4 : z = 4
      · refine lv_tableIn (off := 270) (tgt := 310) hx hb dL_law_40 (by rw [q4]; decide) (by rw [q4]; decide) (by rw [q4]; rfl) (by decide) ?_
        exact law_c4 hC0 hK9 hi next _ _ _ _ _ _ _ _ _ _ _ _ _ _ _ _ _ _ _ _ _ _ _ _ _ _ _ _ _ _ _ _ _ _ _ _ _ _ hRR hP hD hS hl
      by_cases q5 : z = 5
      · refine lv_tableIn (off := 319) (tgt := 359) hx hb dL_law_40 (by rw [q5]; decide) (by rw [q5]; decide) (by rw [q5]; rfl) (by decide) ?_
        exact law_c5 hC0 hK9 hi next _ _ _ _ _ _ _ _ _ _ _ _ _ _ _ _ _ _ _ _ _ _ _ _ _ _ _ _ _ _ _ _ _ _ _ _ _ _ hRR hP hD hS hl
      by_cases q6 : z = 6
      · refine lv_tableIn (off := 344) (tgt := 384) hx hb dL_law_40 (by rw [q6]; decide) (by rw [q6]; decide) (by rw [q6]; rfl) (by decide) ?_
        exact law_c6 hC0 hK9 hi next _ _ _ _ _ _ _ _ _ _ _ _ _ _ _ _ _ _ _ _ _ _ _ _ _ _ _ _ _ _ _ _ _ _ _ _ _ _ hRR hP hD hS hl
      by_cases q7 : z = 7
      · refine lv_tableIn (off := 369) (tgt := 409) hx hb dL_law_40 (by rw [q7]; decide) (by rw [q7]; decide) (by rw [q7]; rfl) (by decide) ?_
        exact law_c7 hC0 hK9 hi next _ _ _ _ _ _ _ _ _ _ _ _ _ _ _ _ _ _ _ _ _ _ _ _ _ _ _ _ _ _ _ _ _ _ _ _ _ _ hRR hP hD hS hl
      by_cases q8 : z = 8
      · refine lv_tableIn (off := 437) (tgt := 477) hx hb dL_law_40 (by rw [q8]; decide) (by rw [q8]; decide) (by rw [q8]; rfl) (by decide) ?_
        exact law_c8 hC0 hK9 hi next _ _ _ _ _ _ _ _ _ _ _ _ _ _ _ _ _ _ _ _ _ _ _ _ _ _ _ _ _ _ _ _ _ _ _ _ _ _ hRR hP hD hS hl
      by_cases q9 : z = 9
      · refine lv_tableIn (off := 462) (tgt := 502) hx hb dL_law_40 (by rw [q9]; decide) (by rw [q9]; decide) (by rw [q9]; rfl) (by decide) ?_
        exact law_c9 hC0 hK9 hi next _ _ _ _ _ _ _ _ _ _ _ _ _ _ _ _ _ _ _ _ _ _ _ _ _ _ _ _ _ _ _ _ _ _ _ _ _ _ hRR hP hD hS hl
      by_cases q10 : z = 10
      · refine lv_tableIn (off := 499) (tgt := 539) hx hb dL_law_40 (by rw [q10]; decide) (by rw [q10]; decide) (by rw [q10]; rfl) (by decide) ?_
        exact law_c10 hC0 hK9 hi next _ _ _ _ _ _ _ _ _ _ _ _ _ _ _ _ _ _ _ _ _ _ _ _ _ _ _ _ _ _ _ _ _ _ _ _ _ _ hRR hP hD hS hl
      by_cases q11 : z = 11
      · refine lv_tableIn (off := 524) (tgt := 564) hx hb dL_law_40 (by rw [q11]; decide) (by rw [q11]; decide) (by rw [q11]; rfl) (by decide) ?_
        exact law_c11 hC0 hK9 hi next _ _ _ _ _ _ _ _ _ _ _ _ _ _ _ _ _ _ _ _ _ _ _ _ _ _ _ _ _ _ _ _ _ _ _ _ _ _ hRR hP hD hS hl
      by_cases q12 : z = 12
      · refine lv_tableIn (off := 550) (tgt := 590) hx hb dL_law_40 (by rw [q12]; decide) (by rw [q12]; decide) (by rw [q12]; rfl) (by decide) ?_
        exact law_c12 hC0 hK9 hi next _ _ _ _ _ _ _ _ _ _ _ _ _ _ _ _ _ _ _ _ _ _ _ _ _ _ _ _ _ _ _ _ _ _ _ _ _ _ hRR hP hD hS hl
      by_cases q13 : z = 13
      · refine lv_tableIn (off := 575) (tgt := 615) hx hb dL_law_40 (by rw [q13]; decide) (by rw [q13]; decide) (by rw [q13]; rfl) (by decide) ?_
        exact law_c13 hC0 hK9 hi next _ _ _ _ _ _ _ _ _ _ _ _ _ _ _ _ _ _ _ _ _ _ _ _ _ _ _ _ _ _ _ _ _ _ _ _ _ _ hRR hP hD hS hl
      by_cases q14 : z = 14
      · refine lv_tableIn (off := 624) (tgt := 664) hx hb dL_law_40 (by rw [q14]; decide) (by rw [q14]; decide) (by rw [q14]; rfl) (by decide) ?_
        exact law_c14 hC0 hK9 hi next _ _ _ _ _ _ _ _ _ _ _ _ _ _ _ _ _ _ _ _ _ _ _ _ _ _ _ _ _ _ _ _ _ _ _ _ _ _ hRR hP hD hS hl
      by_cases q15 : z = 15
      · refine lv_tableIn (off := 685) (tgt := 725) hx hb dL_law_40 (by rw [q15]; decide) (by rw [q15]; decide) (by rw [q15]; rfl) (by decide) ?_
        exact law_c15 hC0 hK9 hi next _ _ _ _ _ _ _ _ _ _ _ _ _ _ _ _ _ _ _ _ _ _ _ _ _ _ _ _ _ _ _ _ _ _ _ _ _ _ hRR hP hD hS hl
      by_cases q16 : z = 16
      · refine lv_tableIn (off := 722) (tgt := 762) hx hb dL_law_40 (by rw [q16]; decide) (by rw [q16]; decide) (by rw [q16]; rfl) (by decide) ?_
        exact law_c16 hC0 hK9 hi next _ _ _ _ _ _ _ _ _ _ _ _ _ _ _ _ _ _ _ _ _ _ _ _ _ _ _ _ _ _ _ _ _ _ _ _ _ _ hRR hP hD hS hl
      by_cases q17 : z = 17
      · refine lv_tableIn (off := 735) (tgt := 775) hx hb dL_law_40 (by rw [q17]; decide) (by rw [q17]; decide) (by rw [q17]; rfl) (by decide) ?_
        exact law_c17 hC0 hK9 hi next _ _ _ _ _ _ _ _ _ _ _ _ _ _ _ _ _ _ _ _ _ _ _ _ _ _ _ _ _ _ _ _ _ _ _ _ _ _ hRR hP hD hS hl
      by_cases q18 : z = 18
      · refine lv_tableIn (off := 760) (tgt := 800) hx hb dL_law_40 (by rw [q18]; decide) (by rw [q18]; decide) (by rw [q18]; rfl) (by decide) ?_
        exact law_c18 hC0 hK9 hi next _ _ _ _ _ _ _ _ _ _ _ _ _ _ _ _ _ _ _ _ _ _ _ _ _ _ _ _ _ _ _ _ _ _ _ _ _ _ hRR hP hD hS hl
      by_cases q19 : z = 19
      · refine lv_tableIn (off := 797) (tgt := 837) hx hb dL_law_40 (by rw [q19]; decide) (by rw [q19]; decide) (by rw [q19]; rfl) (by decide) ?_
        exact law_c19 hC0 hK9 hi next _ _ _ _ _ _ _ _ _ _ _ _ _ _ _ _ _ _ _ _ _ _ _ _ _ _ _ _ _ _ _ _ _ _ _ _ _ _ hRR hP hD hS hl
      refine lv_tableOut (tgt := 862) hx hb dL_law_40 (by have n0 := lv_neT q0 (a := 0) (by decide); have n1 := lv_neT q1 (a := 1) (by decide); have n2 := lv_neT q2 (a := 2) (by decide); have n3 := lv_neT q3 (a := 3) (by decide); have n4 := lv_neT q4 (a := 4) (by decide); have n5 := lv_neT q5 (a := 5) (by decide); have n6 := lv_neT q6 (a := 6) (by decide); have n7 := lv_neT q7 (a := 7) (by decide); have n8 := lv_neT q8 (a := 8) (by decide); have n9 := lv_neT q9 (a := 9) (by decide); have n10 := lv_neT q10 (a := 10) (by decide); have n11 := lv_neT q11 (a := 11) (by decide); have n12 := lv_neT q12 (a := 12) (by decide); have n13 := lv_neT q13 (a := 13) (by decide); have n14 := lv_neT q14 (a := 14) (by decide); have n15 := lv_neT q15 (a := 15) (by decide); have n16 := lv_neT q16 (a := 16) (by decide); have n17 := lv_neT q17 (a := 17) (by decide); have n18 := lv_neT q18 (a := 18) (by decide); have n19 := lv_neT q19 (a := 19) (by decide); omega) (by decide) ?_
      exact (LI.more next) _ _ _ _ _ _ _ _ _ _ _ _ _ _ _ _ _ _ _ _ _ _ _ _ _ _ _ _ _ _ _ _ _ _ _ _ _ _ hRR hP hD hS hl
