section
-- ===== PART A: goes FIRST, ahead of the names: the tables' words, and 'selects' of the private methods out of them =====
/-- a private method of a class that the tables say can be made, by its rows of tables_1 -/
def lw_okq (q : MethodName × Nat) : Prop := (q.1.cls ≠ "java/lang/invoke/MethodHandle" ∧ q.1.cls ≠ "java/lang/invoke/VarHandle") ∧ Cond.instantiable q.1.cls q.2 ∈ tables_1 ∧ Cond.privateMethod q.1 ∈ tables_1 ∧ Cond.instanceMethod q.1 ∈ tables_1
theorem lw_p0 : lw_okq (⟨"SwingCircuits", "startAgain", "()V"⟩, 17) := ⟨⟨by decide +kernel, by decide +kernel⟩, List.mem_of_getElem? (i := 11) (by decide +kernel), List.mem_of_getElem? (i := 193) (by decide +kernel), List.mem_of_getElem? (i := 194) (by decide +kernel)⟩
theorem lw_p1 : lw_okq (⟨"SwingCircuits", "isCell", "(I)Z"⟩, 17) := ⟨⟨by decide +kernel, by decide +kernel⟩, List.mem_of_getElem? (i := 11) (by decide +kernel), List.mem_of_getElem? (i := 205) (by decide +kernel), List.mem_of_getElem? (i := 206) (by decide +kernel)⟩
theorem lw_p2 : lw_okq (⟨"SwingCircuits$Swing", "chooseTurning", "(LSwingCircuits$Circuit;)V"⟩, 10) := ⟨⟨by decide +kernel, by decide +kernel⟩, List.mem_of_getElem? (i := 87) (by decide +kernel), List.mem_of_getElem? (i := 240) (by decide +kernel), List.mem_of_getElem? (i := 241) (by decide +kernel)⟩
theorem lw_p3 : lw_okq (⟨"SwingCircuits$Swing", "letTimePass", "(LSwingCircuits$Circuit;)V"⟩, 10) := ⟨⟨by decide +kernel, by decide +kernel⟩, List.mem_of_getElem? (i := 87) (by decide +kernel), List.mem_of_getElem? (i := 244) (by decide +kernel), List.mem_of_getElem? (i := 245) (by decide +kernel)⟩
theorem lw_p4 : lw_okq (⟨"SwingCircuits$Swing", "passOn", "(LSwingCircuits$Circuit;)V"⟩, 10) := ⟨⟨by decide +kernel, by decide +kernel⟩, List.mem_of_getElem? (i := 87) (by decide +kernel), List.mem_of_getElem? (i := 251) (by decide +kernel), List.mem_of_getElem? (i := 252) (by decide +kernel)⟩
theorem lw_p5 : lw_okq (⟨"SwingCircuits$Swing", "doAct", "(LSwingCircuits$Circuit;I)V"⟩, 10) := ⟨⟨by decide +kernel, by decide +kernel⟩, List.mem_of_getElem? (i := 87) (by decide +kernel), List.mem_of_getElem? (i := 255) (by decide +kernel), List.mem_of_getElem? (i := 256) (by decide +kernel)⟩
theorem lw_p6 : lw_okq (⟨"SwingCircuits$Swing", "keepBetweenBars", "(LSwingCircuits$Circuit;I)V"⟩, 10) := ⟨⟨by decide +kernel, by decide +kernel⟩, List.mem_of_getElem? (i := 87) (by decide +kernel), List.mem_of_getElem? (i := 259) (by decide +kernel), List.mem_of_getElem? (i := 260) (by decide +kernel)⟩
theorem lw_p7 : lw_okq (⟨"SwingCircuits$Swing", "isSpent", "(LSwingCircuits$Circuit;)Z"⟩, 10) := ⟨⟨by decide +kernel, by decide +kernel⟩, List.mem_of_getElem? (i := 87) (by decide +kernel), List.mem_of_getElem? (i := 263) (by decide +kernel), List.mem_of_getElem? (i := 264) (by decide +kernel)⟩
theorem lw_p8 : lw_okq (⟨"SwingCircuits", "noteEvent", "()V"⟩, 17) := ⟨⟨by decide +kernel, by decide +kernel⟩, List.mem_of_getElem? (i := 11) (by decide +kernel), List.mem_of_getElem? (i := 272) (by decide +kernel), List.mem_of_getElem? (i := 273) (by decide +kernel)⟩
theorem lw_p9 : lw_okq (⟨"SwingCircuits", "isNextSpent", "()Z"⟩, 17) := ⟨⟨by decide +kernel, by decide +kernel⟩, List.mem_of_getElem? (i := 11) (by decide +kernel), List.mem_of_getElem? (i := 287) (by decide +kernel), List.mem_of_getElem? (i := 288) (by decide +kernel)⟩
theorem lw_p10 : lw_okq (⟨"SwingCircuits", "writeTrail", "(I)V"⟩, 17) := ⟨⟨by decide +kernel, by decide +kernel⟩, List.mem_of_getElem? (i := 11) (by decide +kernel), List.mem_of_getElem? (i := 316) (by decide +kernel), List.mem_of_getElem? (i := 317) (by decide +kernel)⟩
theorem lw_p11 : lw_okq (⟨"SwingCircuits", "sameAhead", "(I)I"⟩, 17) := ⟨⟨by decide +kernel, by decide +kernel⟩, List.mem_of_getElem? (i := 11) (by decide +kernel), List.mem_of_getElem? (i := 326) (by decide +kernel), List.mem_of_getElem? (i := 327) (by decide +kernel)⟩
theorem lw_p12 : lw_okq (⟨"SwingCircuits", "isSameState", "(II)Z"⟩, 17) := ⟨⟨by decide +kernel, by decide +kernel⟩, List.mem_of_getElem? (i := 11) (by decide +kernel), List.mem_of_getElem? (i := 330) (by decide +kernel), List.mem_of_getElem? (i := 331) (by decide +kernel)⟩
theorem lw_p13 : lw_okq (⟨"SwingCircuits", "keepRing", "(II)V"⟩, 17) := ⟨⟨by decide +kernel, by decide +kernel⟩, List.mem_of_getElem? (i := 11) (by decide +kernel), List.mem_of_getElem? (i := 334) (by decide +kernel), List.mem_of_getElem? (i := 335) (by decide +kernel)⟩
theorem lw_p14 : lw_okq (⟨"SwingCircuits", "eventInRow", "(I)J"⟩, 17) := ⟨⟨by decide +kernel, by decide +kernel⟩, List.mem_of_getElem? (i := 11) (by decide +kernel), List.mem_of_getElem? (i := 338) (by decide +kernel), List.mem_of_getElem? (i := 339) (by decide +kernel)⟩
theorem lw_p15 : lw_okq (⟨"SwingCircuits", "isStocked", "(I)Z"⟩, 17) := ⟨⟨by decide +kernel, by decide +kernel⟩, List.mem_of_getElem? (i := 11) (by decide +kernel), List.mem_of_getElem? (i := 358) (by decide +kernel), List.mem_of_getElem? (i := 359) (by decide +kernel)⟩
def lw_privs_1 : List (MethodName × Nat) := [(⟨"SwingCircuits", "startAgain", "()V"⟩, 17), (⟨"SwingCircuits", "isCell", "(I)Z"⟩, 17), (⟨"SwingCircuits$Swing", "chooseTurning", "(LSwingCircuits$Circuit;)V"⟩, 10), (⟨"SwingCircuits$Swing", "letTimePass", "(LSwingCircuits$Circuit;)V"⟩, 10), (⟨"SwingCircuits$Swing", "passOn", "(LSwingCircuits$Circuit;)V"⟩, 10), (⟨"SwingCircuits$Swing", "doAct", "(LSwingCircuits$Circuit;I)V"⟩, 10), (⟨"SwingCircuits$Swing", "keepBetweenBars", "(LSwingCircuits$Circuit;I)V"⟩, 10), (⟨"SwingCircuits$Swing", "isSpent", "(LSwingCircuits$Circuit;)Z"⟩, 10), (⟨"SwingCircuits", "noteEvent", "()V"⟩, 17), (⟨"SwingCircuits", "isNextSpent", "()Z"⟩, 17), (⟨"SwingCircuits", "writeTrail", "(I)V"⟩, 17), (⟨"SwingCircuits", "sameAhead", "(I)I"⟩, 17), (⟨"SwingCircuits", "isSameState", "(II)Z"⟩, 17), (⟨"SwingCircuits", "keepRing", "(II)V"⟩, 17), (⟨"SwingCircuits", "eventInRow", "(I)J"⟩, 17), (⟨"SwingCircuits", "isStocked", "(I)Z"⟩, 17)]
theorem lw_r1 : ∀ q ∈ lw_privs_1, lw_okq q := List.forall_mem_cons.mpr ⟨lw_p0, List.forall_mem_cons.mpr ⟨lw_p1, List.forall_mem_cons.mpr ⟨lw_p2, List.forall_mem_cons.mpr ⟨lw_p3, List.forall_mem_cons.mpr ⟨lw_p4, List.forall_mem_cons.mpr ⟨lw_p5, List.forall_mem_cons.mpr ⟨lw_p6, List.forall_mem_cons.mpr ⟨lw_p7, List.forall_mem_cons.mpr ⟨lw_p8, List.forall_mem_cons.mpr ⟨lw_p9, List.forall_mem_cons.mpr ⟨lw_p10, List.forall_mem_cons.mpr ⟨lw_p11, List.forall_mem_cons.mpr ⟨lw_p12, List.forall_mem_cons.mpr ⟨lw_p13, List.forall_mem_cons.mpr ⟨lw_p14, List.forall_mem_cons.mpr ⟨lw_p15, fun _ h => absurd h List.not_mem_nil⟩⟩⟩⟩⟩⟩⟩⟩⟩⟩⟩⟩⟩⟩⟩⟩
theorem lw_p16 : lw_okq (⟨"SwingCircuits", "findWays", "(IJJ)I"⟩, 17) := ⟨⟨by decide +kernel, by decide +kernel⟩, List.mem_of_getElem? (i := 11) (by decide +kernel), List.mem_of_getElem? (i := 370) (by decide +kernel), List.mem_of_getElem? (i := 371) (by decide +kernel)⟩
theorem lw_p17 : lw_okq (⟨"SwingCircuits", "findFaults", "(I)I"⟩, 17) := ⟨⟨by decide +kernel, by decide +kernel⟩, List.mem_of_getElem? (i := 11) (by decide +kernel), List.mem_of_getElem? (i := 395) (by decide +kernel), List.mem_of_getElem? (i := 396) (by decide +kernel)⟩
theorem lw_p18 : lw_okq (⟨"SwingCircuits", "isMeasuredSo", "(I)Z"⟩, 17) := ⟨⟨by decide +kernel, by decide +kernel⟩, List.mem_of_getElem? (i := 11) (by decide +kernel), List.mem_of_getElem? (i := 399) (by decide +kernel), List.mem_of_getElem? (i := 400) (by decide +kernel)⟩
theorem lw_p19 : lw_okq (⟨"SwingCircuits", "isMeasure", "(IJJ)Z"⟩, 17) := ⟨⟨by decide +kernel, by decide +kernel⟩, List.mem_of_getElem? (i := 11) (by decide +kernel), List.mem_of_getElem? (i := 403) (by decide +kernel), List.mem_of_getElem? (i := 404) (by decide +kernel)⟩
theorem lw_p20 : lw_okq (⟨"java/lang/Throwable", "fillInStackTrace", "(I)Ljava/lang/Throwable;"⟩, 6) := ⟨⟨by decide +kernel, by decide +kernel⟩, List.mem_of_getElem? (i := 459) (by decide +kernel), List.mem_of_getElem? (i := 457) (by decide +kernel), List.mem_of_getElem? (i := 458) (by decide +kernel)⟩
theorem lw_p21 : lw_okq (⟨"SwingCircuits", "beatTerm", "(IZ)I"⟩, 17) := ⟨⟨by decide +kernel, by decide +kernel⟩, List.mem_of_getElem? (i := 11) (by decide +kernel), List.mem_of_getElem? (i := 489) (by decide +kernel), List.mem_of_getElem? (i := 490) (by decide +kernel)⟩
theorem lw_p22 : lw_okq (⟨"SwingCircuitsModel", "resetAll", "()V"⟩, 28) := ⟨⟨by decide +kernel, by decide +kernel⟩, List.mem_of_getElem? (i := 494) (by decide +kernel), List.mem_of_getElem? (i := 500) (by decide +kernel), List.mem_of_getElem? (i := 501) (by decide +kernel)⟩
theorem lw_p23 : lw_okq (⟨"SwingCircuitsModel", "isCell", "(I)Z"⟩, 28) := ⟨⟨by decide +kernel, by decide +kernel⟩, List.mem_of_getElem? (i := 494) (by decide +kernel), List.mem_of_getElem? (i := 604) (by decide +kernel), List.mem_of_getElem? (i := 605) (by decide +kernel)⟩
theorem lw_p24 : lw_okq (⟨"SwingCircuitsModel", "step", "()Z"⟩, 28) := ⟨⟨by decide +kernel, by decide +kernel⟩, List.mem_of_getElem? (i := 494) (by decide +kernel), List.mem_of_getElem? (i := 624) (by decide +kernel), List.mem_of_getElem? (i := 625) (by decide +kernel)⟩
theorem lw_p25 : lw_okq (⟨"SwingCircuitsModel", "waitOf", "(I)V"⟩, 28) := ⟨⟨by decide +kernel, by decide +kernel⟩, List.mem_of_getElem? (i := 494) (by decide +kernel), List.mem_of_getElem? (i := 631) (by decide +kernel), List.mem_of_getElem? (i := 632) (by decide +kernel)⟩
theorem lw_p26 : lw_okq (⟨"SwingCircuitsModel", "isFilling", "(I)Z"⟩, 28) := ⟨⟨by decide +kernel, by decide +kernel⟩, List.mem_of_getElem? (i := 494) (by decide +kernel), List.mem_of_getElem? (i := 635) (by decide +kernel), List.mem_of_getElem? (i := 636) (by decide +kernel)⟩
theorem lw_p27 : lw_okq (⟨"SwingCircuitsModel", "make", "(JJ)V"⟩, 28) := ⟨⟨by decide +kernel, by decide +kernel⟩, List.mem_of_getElem? (i := 494) (by decide +kernel), List.mem_of_getElem? (i := 639) (by decide +kernel), List.mem_of_getElem? (i := 640) (by decide +kernel)⟩
theorem lw_p28 : lw_okq (⟨"SwingCircuitsModel", "store", "(I)V"⟩, 28) := ⟨⟨by decide +kernel, by decide +kernel⟩, List.mem_of_getElem? (i := 494) (by decide +kernel), List.mem_of_getElem? (i := 649) (by decide +kernel), List.mem_of_getElem? (i := 650) (by decide +kernel)⟩
theorem lw_p29 : lw_okq (⟨"SwingCircuitsModel", "act", "(I)V"⟩, 28) := ⟨⟨by decide +kernel, by decide +kernel⟩, List.mem_of_getElem? (i := 494) (by decide +kernel), List.mem_of_getElem? (i := 653) (by decide +kernel), List.mem_of_getElem? (i := 654) (by decide +kernel)⟩
theorem lw_p30 : lw_okq (⟨"SwingCircuitsModel", "isSpent", "()Z"⟩, 28) := ⟨⟨by decide +kernel, by decide +kernel⟩, List.mem_of_getElem? (i := 494) (by decide +kernel), List.mem_of_getElem? (i := 657) (by decide +kernel), List.mem_of_getElem? (i := 658) (by decide +kernel)⟩
theorem lw_p31 : lw_okq (⟨"SwingCircuitsModel", "wouldBeSpent", "()Z"⟩, 28) := ⟨⟨by decide +kernel, by decide +kernel⟩, List.mem_of_getElem? (i := 494) (by decide +kernel), List.mem_of_getElem? (i := 670) (by decide +kernel), List.mem_of_getElem? (i := 671) (by decide +kernel)⟩
def lw_privs_2 : List (MethodName × Nat) := [(⟨"SwingCircuits", "findWays", "(IJJ)I"⟩, 17), (⟨"SwingCircuits", "findFaults", "(I)I"⟩, 17), (⟨"SwingCircuits", "isMeasuredSo", "(I)Z"⟩, 17), (⟨"SwingCircuits", "isMeasure", "(IJJ)Z"⟩, 17), (⟨"java/lang/Throwable", "fillInStackTrace", "(I)Ljava/lang/Throwable;"⟩, 6), (⟨"SwingCircuits", "beatTerm", "(IZ)I"⟩, 17), (⟨"SwingCircuitsModel", "resetAll", "()V"⟩, 28), (⟨"SwingCircuitsModel", "isCell", "(I)Z"⟩, 28), (⟨"SwingCircuitsModel", "step", "()Z"⟩, 28), (⟨"SwingCircuitsModel", "waitOf", "(I)V"⟩, 28), (⟨"SwingCircuitsModel", "isFilling", "(I)Z"⟩, 28), (⟨"SwingCircuitsModel", "make", "(JJ)V"⟩, 28), (⟨"SwingCircuitsModel", "store", "(I)V"⟩, 28), (⟨"SwingCircuitsModel", "act", "(I)V"⟩, 28), (⟨"SwingCircuitsModel", "isSpent", "()Z"⟩, 28), (⟨"SwingCircuitsModel", "wouldBeSpent", "()Z"⟩, 28)]
theorem lw_r2 : ∀ q ∈ lw_privs_2, lw_okq q := List.forall_mem_cons.mpr ⟨lw_p16, List.forall_mem_cons.mpr ⟨lw_p17, List.forall_mem_cons.mpr ⟨lw_p18, List.forall_mem_cons.mpr ⟨lw_p19, List.forall_mem_cons.mpr ⟨lw_p20, List.forall_mem_cons.mpr ⟨lw_p21, List.forall_mem_cons.mpr ⟨lw_p22, List.forall_mem_cons.mpr ⟨lw_p23, List.forall_mem_cons.mpr ⟨lw_p24, List.forall_mem_cons.mpr ⟨lw_p25, List.forall_mem_cons.mpr ⟨lw_p26, List.forall_mem_cons.mpr ⟨lw_p27, List.forall_mem_cons.mpr ⟨lw_p28, List.forall_mem_cons.mpr ⟨lw_p29, List.forall_mem_cons.mpr ⟨lw_p30, List.forall_mem_cons.mpr ⟨lw_p31, fun _ h => absurd h List.not_mem_nil⟩⟩⟩⟩⟩⟩⟩⟩⟩⟩⟩⟩⟩⟩⟩⟩
theorem lw_p32 : lw_okq (⟨"SwingCircuitsModel", "beat", "(III)V"⟩, 28) := ⟨⟨by decide +kernel, by decide +kernel⟩, List.mem_of_getElem? (i := 494) (by decide +kernel), List.mem_of_getElem? (i := 678) (by decide +kernel), List.mem_of_getElem? (i := 679) (by decide +kernel)⟩
theorem lw_p33 : lw_okq (⟨"SwingCircuitsModel", "seek", "(I)I"⟩, 28) := ⟨⟨by decide +kernel, by decide +kernel⟩, List.mem_of_getElem? (i := 494) (by decide +kernel), List.mem_of_getElem? (i := 694) (by decide +kernel), List.mem_of_getElem? (i := 695) (by decide +kernel)⟩
theorem lw_p34 : lw_okq (⟨"SwingCircuitsModel", "keep", "(I)V"⟩, 28) := ⟨⟨by decide +kernel, by decide +kernel⟩, List.mem_of_getElem? (i := 494) (by decide +kernel), List.mem_of_getElem? (i := 698) (by decide +kernel), List.mem_of_getElem? (i := 699) (by decide +kernel)⟩
theorem lw_p35 : lw_okq (⟨"SwingCircuitsModel", "areAlike", "(II)Z"⟩, 28) := ⟨⟨by decide +kernel, by decide +kernel⟩, List.mem_of_getElem? (i := 494) (by decide +kernel), List.mem_of_getElem? (i := 702) (by decide +kernel), List.mem_of_getElem? (i := 703) (by decide +kernel)⟩
theorem lw_p36 : lw_okq (⟨"SwingCircuitsModel", "tell", "(II)V"⟩, 28) := ⟨⟨by decide +kernel, by decide +kernel⟩, List.mem_of_getElem? (i := 494) (by decide +kernel), List.mem_of_getElem? (i := 706) (by decide +kernel), List.mem_of_getElem? (i := 707) (by decide +kernel)⟩
theorem lw_p37 : lw_okq (⟨"SwingCircuitsModel", "ways", "(IIII)I"⟩, 28) := ⟨⟨by decide +kernel, by decide +kernel⟩, List.mem_of_getElem? (i := 494) (by decide +kernel), List.mem_of_getElem? (i := 727) (by decide +kernel), List.mem_of_getElem? (i := 728) (by decide +kernel)⟩
theorem lw_p38 : lw_okq (⟨"SwingCircuitsModel", "explaining", "(II)I"⟩, 28) := ⟨⟨by decide +kernel, by decide +kernel⟩, List.mem_of_getElem? (i := 494) (by decide +kernel), List.mem_of_getElem? (i := 747) (by decide +kernel), List.mem_of_getElem? (i := 748) (by decide +kernel)⟩
theorem lw_p39 : lw_okq (⟨"SwingCircuitsModel", "explains", "(IIII)Z"⟩, 28) := ⟨⟨by decide +kernel, by decide +kernel⟩, List.mem_of_getElem? (i := 494) (by decide +kernel), List.mem_of_getElem? (i := 751) (by decide +kernel), List.mem_of_getElem? (i := 752) (by decide +kernel)⟩
theorem lw_p40 : lw_okq (⟨"SwingCircuitsModel", "isSo", "(I)Z"⟩, 28) := ⟨⟨by decide +kernel, by decide +kernel⟩, List.mem_of_getElem? (i := 494) (by decide +kernel), List.mem_of_getElem? (i := 755) (by decide +kernel), List.mem_of_getElem? (i := 756) (by decide +kernel)⟩
def lw_privs_3 : List (MethodName × Nat) := [(⟨"SwingCircuitsModel", "beat", "(III)V"⟩, 28), (⟨"SwingCircuitsModel", "seek", "(I)I"⟩, 28), (⟨"SwingCircuitsModel", "keep", "(I)V"⟩, 28), (⟨"SwingCircuitsModel", "areAlike", "(II)Z"⟩, 28), (⟨"SwingCircuitsModel", "tell", "(II)V"⟩, 28), (⟨"SwingCircuitsModel", "ways", "(IIII)I"⟩, 28), (⟨"SwingCircuitsModel", "explaining", "(II)I"⟩, 28), (⟨"SwingCircuitsModel", "explains", "(IIII)Z"⟩, 28), (⟨"SwingCircuitsModel", "isSo", "(I)Z"⟩, 28)]
theorem lw_r3 : ∀ q ∈ lw_privs_3, lw_okq q := List.forall_mem_cons.mpr ⟨lw_p32, List.forall_mem_cons.mpr ⟨lw_p33, List.forall_mem_cons.mpr ⟨lw_p34, List.forall_mem_cons.mpr ⟨lw_p35, List.forall_mem_cons.mpr ⟨lw_p36, List.forall_mem_cons.mpr ⟨lw_p37, List.forall_mem_cons.mpr ⟨lw_p38, List.forall_mem_cons.mpr ⟨lw_p39, List.forall_mem_cons.mpr ⟨lw_p40, fun _ h => absurd h List.not_mem_nil⟩⟩⟩⟩⟩⟩⟩⟩⟩
def lw_privs : List (MethodName × Nat) := lw_privs_1 ++ (lw_privs_2 ++ (lw_privs_3))
def lw_tbl : List Cond := k2_sels lw_privs ++ tables_1
theorem lw_privs_ok : ∀ q ∈ lw_privs, lw_okq q := by
  show ∀ q ∈ lw_privs_1 ++ (lw_privs_2 ++ (lw_privs_3)), lw_okq q
  exact List.forall_mem_append.mpr ⟨lw_r1, List.forall_mem_append.mpr ⟨lw_r2, lw_r3⟩⟩
end
section
/-! ===== BEGIN words of one list among another's, by their places ===== -/
theorem goodIn_r {big : List Cond} (ws : List Cond) (ps : List Nat) (hp : ws = ps.filterMap (fun i => big[i]?)) (h : ws.all goodWord = true) : GoodIn big ws := by
  intro w hw
  have h1 := List.all_eq_true.mp h w hw
  rw [hp] at hw
  obtain ⟨i, -, hi⟩ := List.mem_filterMap.mp hw
  have hm : w ∈ big := by first | exact List.mem_of_getElem? hi | exact List.getElem?_mem hi
  exact ⟨hm, good_of_word h1⟩
theorem goodIn_app {big a b : List Cond} (ha : GoodIn big a) (hb : GoodIn big b) : GoodIn big (a ++ b) := fun w h => (List.mem_append.mp h).elim (ha w) (hb w)
theorem goodIn_ca {big a b : List Cond} {c : Cond} (ha : GoodIn big (c :: a)) (hb : GoodIn big b) : GoodIn big (c :: (a ++ b)) := fun w h => (List.mem_cons.mp h).elim (fun e => ha w (List.mem_cons.mpr (Or.inl e))) (fun h => (List.mem_append.mp h).elim (fun h => ha w (List.mem_cons.mpr (Or.inr h))) (hb w))
theorem goodIn_sub {big ws : List Cond} (hm : ∀ w ∈ ws, w ∈ big) (h : ws.all goodWord = true) : GoodIn big ws := fun w hw => ⟨hm w hw, good_of_word (List.all_eq_true.mp h w hw)⟩
/-! ===== END ===== -/

/-! ===== BEGIN exceptions that leave a method, and their catching by the caller (launches without stack traces) ===== -/
/-! own: a throw that the table's first row takes (the printed vx_catch calls a law that the rounds' library lacks) -/
section OWNCATCH
variable {Q : Handler → Pre} {E : CtlPost} {e : Env} {d : Bool} {acts : List Action} {f : JFrame} {a : Addr}
theorem oc_go {s : State} {x : ExceptionTableEntry} {t : List ExceptionTableEntry} {c : ClassId} {cell : Cell} (hx : covers x f.pc = true) (h0 : x.catchType ≠ 0)
    (hl : s.vm.ClassLinks e.platform f.method.cls x.catchType c) (hcell : s.heap[a]? = some cell) (hobj : ∀ k, cell.vm ≠ .statics k)
    (hk : ∃ k, s.vm.classes[cell.cls]? = some k) (hc : ∃ k, s.vm.classes[c]? = some k) (hfit : s.vm.assignable cell.cls c = true) :
    wp (findHandler.go f a (x :: t)) Q E e d acts s ↔ Q (.found x.handlerPc) d acts (s.setVm (s.vm.noted f.method.cls x.catchType (.cls c))) := by
  have hx2 : (decide (x.startPc ≤ f.pc) && decide (f.pc < x.endPc)) = true := hx
  obtain ⟨ha, ht⟩ := (resolveClass_links e.toSetting hl).op (op := VmOp.resolveClass f.method.cls x.catchType) rfl
  have hal : s.vm.Alike (s.vm.noted f.method.cls x.catchType (.cls c)) := (Vm.Alike.refl s.vm).noted _ _ _
  obtain ⟨k1, hk1⟩ := hk
  obtain ⟨k2, hk2⟩ := hc
  obtain ⟨k3, hk3, -⟩ := hal.2.2 _ _ hk1
  obtain ⟨k4, hk4, -⟩ := hal.2.2 _ _ hk2
  have hfit2 : (s.vm.noted f.method.cls x.catchType (.cls c)).assignable cell.cls c = true := by rw [hal.assignable]; exact hfit
  simp [findHandler.go, hx2, h0, ha, ht, hcell, hobj, hk3, hk4, hfit2, VmOp.dirties, VmOp.acts]
theorem oc_step {s : State} {r : List Frame} {pc : Nat} {vm2 : Vm} (hfind : ∀ (Q : Handler → Pre) (E : CtlPost) (d : Bool) (acts : List Action), wp (findHandler f a) Q E e d acts s ↔ Q (.found pc) d acts (s.setVm vm2)) :
    (stepThrowing e s a (.java f :: r)).Is ((s.setVm vm2).setFrames (.java { f with pc := pc, stack := [.ref a] } :: r)) [] := by
  simp only [stepThrowing, searchFrame, vmDo]
  generalize hr : Sem.go _ e false [] s = res
  obtain ⟨as, rfl, ha⟩ := Sem.eq_ok_of hr (a := Handler.found pc) (s' := s.setVm vm2) (acts' := []) (by simp [hfind _ _ _ _])
  exact ⟨rfl, ha⟩
theorem oc_frames (u : State) (vm2 : Vm) (F G : List Frame) : ((u.setFrames F).setVm vm2).setFrames G = (u.setVm vm2).setFrames G := by
  rw [show (u.setFrames F).setVm vm2 = (u.setVm vm2).setFrames F from rfl, State.setFrames_setFrames]
theorem oc_to {tb : Tables} {s target : State} {g : JFrame} {c : Code} {below : List Frame} (h : At s g.method c below) {pc : Nat} {vm2 : Vm}
    (hfind : ∀ (Q : Handler → Pre) (E : CtlPost) (d : Bool) (acts : List Action), wp (findHandler g a) Q E e d acts ((s.setTop g).pushFrame (.throwing a)) ↔ Q (.found pc) d acts (((s.setTop g).pushFrame (.throwing a)).setVm vm2))
    (hrest : Steps tb e below ((s.setVm vm2).setTop { g with pc := pc, stack := [.ref a] }) target) :
    Steps tb e below ((s.setTop g).pushFrame (.throwing a)) target := by
  obtain ⟨hgo, hw⟩ := h.throwing a
  refine Steps.head hgo hw ?_
  rw [stepThread_throwing (frames_entered h.top _), (oc_step (s := (s.setTop g).pushFrame (.throwing a)) hfind).1]
  obtain ⟨g₀, hg⟩ := Option.isSome_iff_exists.mp h.top
  obtain ⟨r, hr⟩ := State.topJava?_eq_some.mp hg
  have hr2 : (s.setVm vm2).frames = .java g₀ :: r := hr
  rw [State.setTop_of_frames _ hr2] at hrest
  rw [hr, List.tail_cons, State.pushFrame, oc_frames, State.setTop_of_frames _ hr, oc_frames]
  exact hrest
end OWNCATCH
section VXA
/-! The laws vx_back, vx_callV, vx_callS, vx_callSW, vx_throw0, vx_throwS follow proofs of the library, with one case more: JvmDerived/Free/Laws.lean (Back.of_free), Shelf42/LK1.lean (callV, callS), Shelf/KitTraced.lean (throwNew0V, throwNewS). -/
/-- where a method has thrown q: the class by its name, the cell, what was written, the world -/
def vx_T (XC : String → State → State → Prop) (st : State) (q : Addr) (t : State) (mc ms : Nat) (free : Addr → Prop) : Prop :=
  ∃ (E : String) (ce : Cell) (L : List Loc), XC E st t ∧ t.heap[q]? = some ce ∧ ce.vm = .none ∧ st.vm.findClass E = some ce.cls ∧ st.WarmedH t.vm ∧ st.sameButNew ({ t with vm := st.vm } : State) L mc ms ∧ ∀ z ∈ L, free z.base
def vx_Q (Qc : Array Value → State → Outcome → State → Prop) (XC : String → State → State → Prop) (mc ms : Nat) (free : Addr → Prop) : Array Value → State → Outcome → State → Prop := fun a st o t =>
  (Qc a st o t ∧ ∃ L, FrameEnd st o t L mc ms ∧ ∀ q ∈ L, free q.base) ∨ ∃ q, o = .threw q ∧ vx_T XC st q t mc ms free
/-- a callee that returns or throws -/
def vx_Met (l : Launch) (y : MethodName) (ws : List Cond) (rm : Room) (Pc : Array Value → State → Prop) (Qc : Array Value → State → Outcome → State → Prop) (XC : String → State → State → Prop) (mc ms : Nat) (free : Addr → Prop) : Prop :=
  MetFree l y (headSpec ws rm) Pc (fun _ _ _ _ _ => True) (vx_Q Qc XC mc ms free)
def vx_Post (XC : String → State → State → Prop) (mc ms : Nat) (free : Addr → Prop) : Pt → Array Value → Addr → Pt → Prop := fun A a q B =>
  ∃ (g : JFrame) (mk : MethodId) (t : State) (L : List Loc) (E : String) (ce : Cell), B.U.heap = t.heap ∧ B.U.vm = t.vm ∧ XC E (A.U.calling g mk a) t ∧ t.heap[q]? = some ce ∧ ce.vm = .none ∧ A.U.vm.findClass E = some ce.cls ∧ B.locs = A.locs ++ L ∧ (∀ z ∈ L, free z.base) ∧ B.cells = A.cells + mc ∧ B.slots = A.slots + ms
def vx_Back (l : Launch) (R : Room) (p : Program) (e : Env) (below : List Frame) (s : State) (sargs : Array Value) (y : MethodName) (len W9 : Nat)
    (Pre : Pt → Array Value → Prop) (Post : Pt → Array Value → Option Value → Pt → Prop) (PostX : Pt → Array Value → Addr → Pt → Prop) : Prop :=
  ∀ (m : MethodId) (meth : Method) (c : Code) (A : Pt) (g : JFrame) (ig : Instr) (mk : MethodId) (a : Array Value),
    Stand p l e R s m sargs below meth c A.U A.locs A.cells A.slots → g.method = m → g.locals.size = c.maxLocals → decode c.code g.pc = .ok (ig, len) →
    2 * g.monitorRoom + (g.stack.map fun v => v.category).sum ≤ W9 → A.U.methodNamed? y = some mk → Pre A a →
    (∃ (v : Option Value) (B : Pt), Stand p l e R s m sargs below meth c B.U B.locs B.cells B.slots ∧ Post A a v B ∧
      Steps p.tables e below (doInvoke e (A.U.setTop g) [] mk a).1 (B.U.setTop { g with pc := g.pc + len, stack := v.toList ++ g.stack })) ∨
    (∃ (q : Addr) (B : Pt), Stand p l e R s m sargs below meth c B.U B.locs B.cells B.slots ∧ PostX A a q B ∧
      Steps p.tables e below (doInvoke e (A.U.setTop g) [] mk a).1 ((B.U.setTop g).pushFrame (.throwing q)))
section Payer
variable {l : Launch} {R : Room} {p : Program} {e : Env} {below : List Frame} {s : State} {sargs : Array Value} {y : MethodName} {len W9 : Nat}
theorem vx_back {ws : List Cond} {rm : Room} {Pc : Array Value → State → Prop} {Qc : Array Value → State → Outcome → State → Prop} {XC : String → State → State → Prop} {mc ms : Nat} {free : Addr → Prop} {bytes : ByteArray} {maxL : Nat} {ret : Option FieldType}
    (hM : vx_Met l y ws rm Pc Qc XC mc ms free) (hblind : FrameBlind Pc) (hrc : rm.cells = mc) (hrs : rm.slots = ms)
    (hframes : rm.frames + 1 ≤ R.frames) (hlocals : W9 + (maxL + 11) + rm.locals ≤ R.locals)
    (hws : ∀ w ∈ ws, ∀ a' U, s.WarmedH U.vm → w.before a' U = true) (hcode : Cond.code y bytes maxL ret ∈ ws) (hinit : ∀ a' U, s.WarmedH U.vm → (Cond.initialized y.cls).before a' U = true) :
    vx_Back l R p e below s sargs y len W9 (PreOf R mc ms Pc) (PostOf Qc mc ms free) (vx_Post XC mc ms free) := by
  intro m meth c A g ig mk a X hg hsize hdg hW hn hp
  have h1 : (headSpec ws rm).pre.before a A.U = true := atoms_intro fun w hw => hws w hw _ _ X.warmed
  have h2 : (Cond.code y bytes maxL ret).before a A.U = true := hws _ hcode _ _ X.warmed
  have h3 : (Cond.initialized y.cls).before a A.U = true := hinit _ _ X.warmed
  have h4 : A.cells + (headSpec ws rm).room.cells ≤ R.cells := by rw [show (headSpec ws rm).room.cells = mc from hrc]; exact hp.1
  have h5 : A.slots + (headSpec ws rm).room.slots ≤ R.slots := by rw [show (headSpec ws rm).room.slots = ms from hrs]; exact hp.2.1
  have hPc : Pc a (A.U.calling g mk a) := hblind _ _ _ _ hp.2.2
  obtain ⟨U, Ls, c0, s0⟩ := A
  dsimp only [Pt.U, Pt.locs, Pt.cells, Pt.slots] at h1 h2 h3 h4 h5 X hn hPc ⊢
  obtain ⟨methY, cY, hmY, hcY, -, hlY, -, -, -, -⟩ := Cond.code_spec hn h2
  obtain ⟨kY, hkY, -⟩ := className_of_methodNamed hn
  have hinitY : kY.init = .initialized := Cond.initialized_spec (findClass_of_methodNamed hn) hkY h3
  have h : At U g.method c below := by rw [hg]; exact X.here
  have hlocals9 : W9 + (maxL + 11) + (headSpec ws rm).room.locals ≤ R.locals := hlocals
  have happ : (headSpec ws rm).appliesLoose y e.platform (U.calling g mk a) = true :=
    Spec.appliesLoose_calling (g := g) h hdg hn hkY hinitY
      (X.room_calling (g := g) (R' := (headSpec ws rm).room) hsize hmY hcY hframes (by rw [hlY]; omega) h4 h5) h1
  obtain ⟨mid, hmid⟩ := h.above
  have hfr : (U.setTop g).frames = (.java g :: mid) ++ below := by rw [State.frames_setTop' g h.top, hmid]; rfl
  obtain ⟨o, s₂, hsteps, -, hend, hq⟩ := Steps.callFree hM p X.admits X.cas X.clock (acts := []) hfr happ hPc trivial
  have hq' : vx_Q Qc XC mc ms free a (U.calling g mk a) o s₂ := hq
  rw [State.frames_setTop' g h.top] at hend
  obtain ⟨g₀, hg0⟩ := Option.isSome_iff_exists.mp h.top
  obtain ⟨r, hr⟩ := State.topJava?_eq_some.mp hg0
  have hr' : (({ U with heap := s₂.heap, slotsUsed := s₂.slotsUsed } : State).setVm s₂.vm).frames = .java g₀ :: r := hr
  rcases hq' with ⟨hqc, L, hfe, hL⟩ | ⟨q, rfl, E, ce, L, hx, hce, hcv, hcl, hW₂, hsm, hL⟩
  · obtain ⟨⟨v, rfl⟩, hW₂, e2, q2, q3, q4, q5, q6⟩ := id hfe
    have e3 : s₂ = ({ (U.calling g mk a).setFrames s₂.frames with heap := s₂.heap, slotsUsed := s₂.slotsUsed } : State).setVm s₂.vm := by
      have : s₂ = ({ s₂ with vm := (U.calling g mk a).vm } : State).setVm s₂.vm := rfl
      rw [e2] at this
      exact this
    obtain ⟨c₂, i₂, len₂, hc₂, hd₂, hf₂⟩ := hend
    have hW' : U.WarmedH s₂.vm := hW₂
    have hcc : c₂ = c := by
      have h1 : s₂.code? g.method = U.code? g.method := by
        rw [State.code?_eq, State.code?_eq, hW'.alike.method?]
      exact Option.some.inj (hc₂.symm.trans (h1.trans h.code))
    subst hcc
    have hlen : len₂ = len := by rw [hdg] at hd₂; cases hd₂; rfl
    subst hlen
    have hs₂ : s₂ = (({ U with heap := s₂.heap, slotsUsed := s₂.slotsUsed } : State).setVm s₂.vm).setTop { g with pc := g.pc + len₂, stack := v.toList ++ g.stack } := by
      refine e3.trans ?_
      rw [hf₂, State.calling_eq h.top, State.setFrames_setFrames, State.setTop_of_frames _ hr', hr]
      rfl
    have hsame : U.sameButNew ({ U with heap := s₂.heap, slotsUsed := s₂.slotsUsed } : State) L mc ms := by
      refine ⟨?_, q2, q3, q4, q5, q6⟩
      obtain ⟨t, ht, -⟩ := State.frames_cons hr
      show ({ U with heap := s₂.heap, slotsUsed := s₂.slotsUsed } : State) = { U.setFrames U.frames with heap := s₂.heap, slotsUsed := s₂.slotsUsed }
      rw [State.setFrames_self ht]
    subst hg
    refine Or.inl ⟨v, ⟨(({ U with heap := s₂.heap, slotsUsed := s₂.slotsUsed } : State).setVm s₂.vm), Ls ++ L, c0 + mc, s0 + ms⟩,
      ⟨X.admits, X.cas, X.clock, X.frames, X.room, X.hears, X.method, X.code, (X.here.setHeapUsed s₂.heap s₂.slotsUsed).setVm hW'.alike, X.tail, State.WarmedH.trans X.warmed hW', X.limits, X.bytes, X.same.trans (hsame.setVm s.vm)⟩,
      ⟨g, mk, s₂, L, rfl, rfl, hqc, rfl, hL, rfl, rfl⟩, ?_⟩
    show Steps p.tables e below _ ((({ U with heap := s₂.heap, slotsUsed := s₂.slotsUsed } : State).setVm s₂.vm).setTop { g with pc := g.pc + len₂, stack := v.toList ++ g.stack })
    rw [← hs₂]
    exact hsteps
  · obtain ⟨e2, q2, q3, q4, q5, q6⟩ := id hsm
    have e3 : s₂ = ({ (U.calling g mk a).setFrames s₂.frames with heap := s₂.heap, slotsUsed := s₂.slotsUsed } : State).setVm s₂.vm := by
      have : s₂ = ({ s₂ with vm := (U.calling g mk a).vm } : State).setVm s₂.vm := rfl
      rw [e2] at this
      exact this
    have hf₂ : s₂.frames = .throwing q :: .java g :: U.frames.tail := hend
    have hW' : U.WarmedH s₂.vm := hW₂
    have hs₂ : s₂ = ((({ U with heap := s₂.heap, slotsUsed := s₂.slotsUsed } : State).setVm s₂.vm).setTop g).pushFrame (.throwing q) := by
      refine e3.trans ?_
      rw [hf₂, State.calling_eq h.top, State.setFrames_setFrames, State.pushFrame, State.frames_setTop _ hr', State.setTop_of_frames _ hr', State.setFrames_setFrames, hr]
      rfl
    have hsame : U.sameButNew ({ U with heap := s₂.heap, slotsUsed := s₂.slotsUsed } : State) L mc ms := by
      refine ⟨?_, q2, q3, q4, q5, q6⟩
      obtain ⟨t, ht, -⟩ := State.frames_cons hr
      show ({ U with heap := s₂.heap, slotsUsed := s₂.slotsUsed } : State) = { U.setFrames U.frames with heap := s₂.heap, slotsUsed := s₂.slotsUsed }
      rw [State.setFrames_self ht]
    subst hg
    refine Or.inr ⟨q, ⟨(({ U with heap := s₂.heap, slotsUsed := s₂.slotsUsed } : State).setVm s₂.vm), Ls ++ L, c0 + mc, s0 + ms⟩,
      ⟨X.admits, X.cas, X.clock, X.frames, X.room, X.hears, X.method, X.code, (X.here.setHeapUsed s₂.heap s₂.slotsUsed).setVm hW'.alike, X.tail, State.WarmedH.trans X.warmed hW', X.limits, X.bytes, X.same.trans (hsame.setVm s.vm)⟩,
      ⟨g, mk, s₂, L, E, ce, rfl, rfl, hx, hce, hcv, hcl, rfl, hL, rfl, rfl⟩, ?_⟩
    show Steps p.tables e below _ (((({ U with heap := s₂.heap, slotsUsed := s₂.slotsUsed } : State).setVm s₂.vm).setTop g).pushFrame (.throwing q))
    rw [← hs₂]
    exact hsteps
end Payer
section Calls
variable {p : Program} {l : Launch} {e : Env} {R : Room} {s : State} {m : MethodId} {args : Array Value} {below : List Frame} {meth : Method} {c : Code} {T : State} {locs : List Loc} {cells slots : Nat}
theorem vx_callV (X : Stand p l e R s m args below meth c T locs cells slots) (hexec : p.tables.exec = Jvm.exec) {own C : String} {index : Nat} {y : MethodName} {bytes : ByteArray} {maxL : Nat} {ret : Option FieldType}
    (hown : s.vm.findClass own = some m.cls) (hlink : (Cond.methodLink own index y).before args s = true) (hinst : (Cond.instanceMethod y).before args s = true) (hsel : (Cond.selects C y y).before args s = true)
    (hcode : (Cond.code y bytes maxL ret).before args s = true) (hy : y.cls ≠ "java/lang/invoke/MethodHandle" ∧ y.cls ≠ "java/lang/invoke/VarHandle")
    {W9 : Nat} {Pre : Pt → Array Value → Prop} {Post : Pt → Array Value → Option Value → Pt → Prop} {PostX : Pt → Array Value → Addr → Pt → Prop} (hK : vx_Back l R p e below s args y 3 W9 Pre Post PostX)
    {b : Addr} {cellB : Cell} (hcell : T.heap[b]? = some cellB) (hobj : cellB.vm.isStatics = false) (hcls : s.vm.findClass C = some cellB.cls)
    {g : JFrame} (hg : g.method = m) (hsize : g.locals.size = c.maxLocals) {argsL rest : List Value} (hlen : ∀ sig, parseMethodDescriptor y.desc = some sig → argsL.length = sig.parameters.length)
    (hstack : g.stack = argsL.reverse ++ .ref b :: rest) (hW : 2 * g.monitorRoom + (rest.map fun v => v.category).sum ≤ W9) (hdg : decode c.code g.pc = .ok (.invokevirtual index, 3))
    (hpre : ∀ vm₁, s.WarmedH vm₁ → Pre ⟨T.setVm vm₁, locs, cells, slots⟩ (Value.ref b :: argsL).toArray) :
    (∃ (v : Option Value) (vm₁ : Vm) (B : Pt), s.WarmedH vm₁ ∧ Stand p l e R s m args below meth c B.U B.locs B.cells B.slots ∧ Post ⟨T.setVm vm₁, locs, cells, slots⟩ (Value.ref b :: argsL).toArray v B ∧
      ∀ target, Steps p.tables e below (B.U.setTop { g with pc := g.pc + 3, stack := v.toList ++ rest }) target → Steps p.tables e below (T.setTop g) target) ∨
    (∃ (q : Addr) (vm₁ : Vm) (B : Pt), s.WarmedH vm₁ ∧ Stand p l e R s m args below meth c B.U B.locs B.cells B.slots ∧ PostX ⟨T.setVm vm₁, locs, cells, slots⟩ (Value.ref b :: argsL).toArray q B ∧
      Steps p.tables e below (T.setTop g) ((B.U.setTop { g with stack := rest }).pushFrame (.throwing q))) := by
  obtain ⟨mk, methM, hnamed, hmethM, hstM, habM⟩ := Cond.instanceMethod_spec hinst
  obtain ⟨methM', cM, hmethM', -, -, -, -, -, -, hsigM⟩ := Cond.code_spec hnamed hcode
  cases hmethM.symm.trans hmethM'
  obtain ⟨c2, r2, m2, q1, q2, q3, q4, kP, hkP, hkPi⟩ := Cond.selects_spec hsel
  cases hcls.symm.trans q1
  cases (State.methodFound?_of_named hnamed hy).symm.trans q2
  cases hnamed.symm.trans q3
  have hselP : selectMethod e.platform s.vm cellB.cls mk = .method mk := by rw [Launch.admits_selectMethod X.admits]; exact q4
  obtain ⟨vm₁, X₁, hstep₁⟩ := X.invokevirtual hexec hown hlink hnamed hmethM hstM hkP hkPi hy (a := b) (cell := cellB) hcell
    (fun z h => by rw [h] at hobj; cases hobj) hselP hmethM habM hkP hkPi (g := g) hg (argsL := argsL) (rest := rest) (hlen _ hsigM) hstack hdg
  rcases hK m meth c ⟨T.setVm vm₁, locs, cells, slots⟩ { g with stack := rest } (.invokevirtual index) mk (Value.ref b :: argsL).toArray X₁ hg hsize hdg hW (X₁.named hnamed) (hpre vm₁ X₁.warmed) with ⟨v, B, X', hpost, hsteps⟩ | ⟨q, B, X', hpost, hsteps⟩
  · exact Or.inl ⟨v, vm₁, B, X₁.warmed, X', hpost, fun target h => hstep₁ _ fun acts => by rw [doInvoke_state]; exact hsteps.trans h⟩
  · exact Or.inr ⟨q, vm₁, B, X₁.warmed, X', hpost, hstep₁ _ fun acts => by rw [doInvoke_state]; exact hsteps⟩
theorem vx_callS (X : Stand p l e R s m args below meth c T locs cells slots) (hexec : p.tables.exec = Jvm.exec) {own : String} {index : Nat} {y : MethodName} {bytes : ByteArray} {maxL : Nat} {ret : Option FieldType}
    (hown : s.vm.findClass own = some m.cls) (hlink : (Cond.methodLink own index y).before args s = true) (hstat : (Cond.static y).before args s = true) (hinit : (Cond.initialized y.cls).before args s = true)
    (hcode : (Cond.code y bytes maxL ret).before args s = true) (hy : y.cls ≠ "java/lang/invoke/MethodHandle" ∧ y.cls ≠ "java/lang/invoke/VarHandle")
    {W9 : Nat} {Pre : Pt → Array Value → Prop} {Post : Pt → Array Value → Option Value → Pt → Prop} {PostX : Pt → Array Value → Addr → Pt → Prop} (hK : vx_Back l R p e below s args y 3 W9 Pre Post PostX)
    {g : JFrame} (hg : g.method = m) (hsize : g.locals.size = c.maxLocals) {argsL rest : List Value} (hlen : ∀ sig, parseMethodDescriptor y.desc = some sig → argsL.length = sig.parameters.length)
    (hstack : g.stack = argsL.reverse ++ rest) (hW : 2 * g.monitorRoom + (rest.map fun v => v.category).sum ≤ W9) (hdg : decode c.code g.pc = .ok (.invokestatic index, 3))
    (hpre : ∀ vm₁, s.WarmedH vm₁ → Pre ⟨T.setVm vm₁, locs, cells, slots⟩ argsL.toArray) :
    (∃ (v : Option Value) (vm₁ : Vm) (B : Pt), s.WarmedH vm₁ ∧ Stand p l e R s m args below meth c B.U B.locs B.cells B.slots ∧ Post ⟨T.setVm vm₁, locs, cells, slots⟩ argsL.toArray v B ∧
      ∀ target, Steps p.tables e below (B.U.setTop { g with pc := g.pc + 3, stack := v.toList ++ rest }) target → Steps p.tables e below (T.setTop g) target) ∨
    (∃ (q : Addr) (vm₁ : Vm) (B : Pt), s.WarmedH vm₁ ∧ Stand p l e R s m args below meth c B.U B.locs B.cells B.slots ∧ PostX ⟨T.setVm vm₁, locs, cells, slots⟩ argsL.toArray q B ∧
      Steps p.tables e below (T.setTop g) ((B.U.setTop { g with stack := rest }).pushFrame (.throwing q))) := by
  obtain ⟨mk, hnamed⟩ := Cond.code_named hcode
  obtain ⟨methM, cM, hmethM, -, -, -, -, -, -, hsigM⟩ := Cond.code_spec hnamed hcode
  have hstatic : methM.isStatic = true := Cond.static_spec hnamed hmethM hstat
  obtain ⟨kP, hkP, -⟩ := className_of_methodNamed hnamed
  have hinitP : kP.init = .initialized := Cond.initialized_spec (findClass_of_methodNamed hnamed) hkP hinit
  obtain ⟨vm₁, X₁, hstep₁⟩ := X.invokestatic hexec hown hlink hnamed hmethM hstatic hkP hinitP hy (g := g) hg (argsL := argsL) (rest := rest) (hlen _ hsigM) hstack hdg
  rcases hK m meth c ⟨T.setVm vm₁, locs, cells, slots⟩ { g with stack := rest } (.invokestatic index) mk argsL.toArray X₁ hg hsize hdg hW (X₁.named hnamed) (hpre vm₁ X₁.warmed) with ⟨v, B, X', hpost, hsteps⟩ | ⟨q, B, X', hpost, hsteps⟩
  · exact Or.inl ⟨v, vm₁, B, X₁.warmed, X', hpost, fun target h => hstep₁ _ fun acts => by rw [doInvoke_state]; exact hsteps.trans h⟩
  · exact Or.inr ⟨q, vm₁, B, X₁.warmed, X', hpost, hstep₁ _ fun acts => by rw [doInvoke_state]; exact hsteps⟩
end Calls
theorem vx_cls {s : State} {T : State} {vm₁ : Vm} {E : String} {k : ClassId} (hW : s.WarmedH vm₁) (h : (T.setVm vm₁).vm.findClass E = some k) : s.vm.findClass E = some k := by
  have h1 : vm₁.findClass E = some k := h
  rw [hW.alike.findClass] at h1
  exact h1
/-- the method's frame g, with q thrown over it -/
def vx_W (p : Program) (l : Launch) (e : Env) (R : Room) (s : State) (m : MethodId) (args : Array Value) (below : List Frame) (meth : Method) (c : Code) (H : Heap) (locs : List Loc) (cells slots : Nat) (Q : State → Prop) (g : JFrame) (q : Addr) : Prop :=
  ∀ T : State, T.heap = H → Stand p l e R s m args below meth c T locs cells slots → ∃ t, Steps p.tables e below ((T.setTop g).pushFrame (.throwing q)) t ∧ Q t
def vx_Run (p : Program) (l : Launch) (e : Env) (R : Room) (s : State) (m : MethodId) (args : Array Value) (below : List Frame) (meth : Method) (c : Code) (H : Heap) (locs : List Loc) (cells slots mc ms : Nat) (g : JFrame) (rest : List Value) (Qa : State → Outcome → State → Prop) (XC : String → State → State → Prop) (free : Addr → Prop) : Prop :=
  ∀ T : State, T.heap = H → Stand p l e R s m args below meth c T locs cells slots →
    (∃ (v : Option Value) (st₀ t T' : State) (L : List Loc), st₀.heap = H ∧ Stand p l e R s m args below meth c T' (locs ++ L) (cells + mc) (slots + ms) ∧ (∀ q ∈ L, free q.base) ∧ T'.heap = t.heap ∧ T'.vm = t.vm ∧ Qa st₀ (.returned v) t ∧
      Goes p e below T g T' { g with pc := g.pc + 3, stack := v.toList ++ rest }) ∨
    (∃ (q : Addr) (st₀ t T' : State) (L : List Loc) (E : String) (ce : Cell), st₀.heap = H ∧ Stand p l e R s m args below meth c T' (locs ++ L) (cells + mc) (slots + ms) ∧ (∀ z ∈ L, free z.base) ∧ T'.heap = t.heap ∧ T'.vm = t.vm ∧ XC E st₀ t ∧ t.heap[q]? = some ce ∧ ce.vm = .none ∧ s.vm.findClass E = some ce.cls ∧
      Steps p.tables e below (T.setTop g) ((T'.setTop { g with stack := rest }).pushFrame (.throwing q)))
def vx_X {S : Type} (px : S → Prop) (B : String → S → State → Prop) (A : Nat → Prop) : String → State → State → Prop := fun E st t => ∃ u : S, px u ∧ B E u t ∧ va_F A st t
section Runs
variable {p : Program} {l : Launch} {e : Env} {R : Room} {s : State} {m : MethodId} {args : Array Value} {below : List Frame} {meth : Method} {c : Code} {H : Heap} {locs : List Loc} {cells slots : Nat}
variable {y : MethodName} {bytes cc : ByteArray} {maxL nL mc ms n index : Nat} {ret : Option FieldType} {ws : List Cond} {rm : Room} {Pc : Array Value → State → Prop} {Qc : Array Value → State → Outcome → State → Prop} {XC : String → State → State → Prop} {free : Addr → Prop} {Ts : List Cond} {own C : String} {b : Addr} {As rest : List Value} {g : JFrame}
theorem vx_callBack (cb : CallB R s args own index y bytes maxL ret ws rm mc ms n) (hM : vx_Met l y ws rm Pc Qc XC mc ms free) (hbl : FrameBlind Pc) : vx_Back l R p e below s args y 3 8 (PreOf R mc ms Pc) (PostOf Qc mc ms free) (vx_Post XC mc ms free) := by
  obtain ⟨hrc, hrs, hfr, hlo, hws, hcw, -, hini, -⟩ := cb
  exact vx_back (bytes := bytes) (maxL := maxL) (ret := ret) hM hbl hrc hrs hfr hlo hws hcw (fun a' U hW => word_at hW (Or.inl (by first | rfl | simp [Cond.onTables, Cond.keeps, Cond.steady])) hini)
theorem vx_runV (S : CallFix p m c cc nL s args Ts own) (hM : vx_Met l y ws rm Pc Qc XC mc ms free) (cw : CallW R s args own C index y bytes maxL ret ws rm mc ms n) (hp : PreV s H C b Pc As)
    (hg : g.method = m) (hn : As.length = n) (hsize : g.locals.size = nL) (hstack : g.stack = As.reverse ++ .ref b :: rest) (hW : 2 * g.monitorRoom + (rest.map fun v => v.category).sum ≤ 8) (hdg : decode cc g.pc = .ok (.invokevirtual index, 3)) (hf : cells + mc ≤ R.cells ∧ slots + ms ≤ R.slots) :
    vx_Run p l e R s m args below meth c H locs cells slots mc ms g rest (Qc (Value.ref b :: As).toArray) XC free := by
  have hK : vx_Back l R p e below s args y 3 8 (PreOf R mc ms Pc) (PostOf Qc mc ms free) (vx_Post XC mc ms free) := vx_callBack cw.1 hM hp.1
  obtain ⟨⟨-, -, -, -, -, -, hcode, -, hy, hlen, hl⟩, hin, hse⟩ := cw
  obtain ⟨hx, hb, hml, ho, -⟩ := S
  obtain ⟨-, ⟨cellB, hcB, hoB, hclB⟩, hPc⟩ := hp
  intro T hT X
  rcases vx_callV X hx (C := C) (bytes := bytes) (maxL := maxL) (ret := ret) ho hl hin hse hcode hy hK (by rw [hT]; exact hcB) hoB hclB hg (hsize.trans hml.symm) (argsL := As) (rest := rest) (fun sig h => hn.trans (hlen sig h)) hstack hW (by rw [hb]; exact hdg)
    (fun vm₁ hW₁ => ⟨hf.1, hf.2, hPc (T.setVm vm₁) hT hW₁⟩) with ⟨v, vm₁, ⟨U', l2, c2, s2⟩, hW₁, X', ⟨g', mk, t, L, e1, e2, hq, h1, hL, h2, h3⟩, st⟩ | ⟨q, vm₁, ⟨U', l2, c2, s2⟩, hW₁, X', ⟨g', mk, t, L, E, ce, e1, e2, hq, hce, hcv, hcl, h1, hL, h2, h3⟩, st⟩
  · dsimp only [Pt.U, Pt.locs, Pt.cells, Pt.slots] at X' e1 e2 h1 h2 h3 st
    subst h1; subst h2; subst h3
    exact Or.inl ⟨v, (T.setVm vm₁).calling g' mk (Value.ref b :: As).toArray, t, U', L, hT, X', hL, e1, e2, hq, st⟩
  · dsimp only [Pt.U, Pt.locs, Pt.cells, Pt.slots] at X' e1 e2 h1 h2 h3 st hcl
    subst h1; subst h2; subst h3
    exact Or.inr ⟨q, (T.setVm vm₁).calling g' mk (Value.ref b :: As).toArray, t, U', L, E, ce, hT, X', hL, e1, e2, hq, hce, hcv, vx_cls hW₁ hcl, st⟩
theorem vx_runS (S : CallFix p m c cc nL s args Ts own) (hM : vx_Met l y ws rm Pc Qc XC mc ms free) (cw : CallB R s args own index y bytes maxL ret ws rm mc ms n ∧ (Cond.static y).before args s = true) (hp : PreS s H Pc As)
    (hg : g.method = m) (hn : As.length = n) (hsize : g.locals.size = nL) (hstack : g.stack = As.reverse ++ rest) (hW : 2 * g.monitorRoom + (rest.map fun v => v.category).sum ≤ 8) (hdg : decode cc g.pc = .ok (.invokestatic index, 3)) (hf : cells + mc ≤ R.cells ∧ slots + ms ≤ R.slots) :
    vx_Run p l e R s m args below meth c H locs cells slots mc ms g rest (Qc As.toArray) XC free := by
  have hK : vx_Back l R p e below s args y 3 8 (PreOf R mc ms Pc) (PostOf Qc mc ms free) (vx_Post XC mc ms free) := vx_callBack cw.1 hM hp.1
  obtain ⟨⟨-, -, -, -, -, -, hcode, hini, hy, hlen, hl⟩, hstt⟩ := cw
  obtain ⟨hx, hb, hml, ho, -⟩ := S
  intro T hT X
  rcases vx_callS X hx (bytes := bytes) (maxL := maxL) (ret := ret) ho hl hstt hini hcode hy hK hg (hsize.trans hml.symm) (argsL := As) (rest := rest) (fun sig h => hn.trans (hlen sig h)) hstack hW (by rw [hb]; exact hdg)
    (fun vm₁ hW₁ => ⟨hf.1, hf.2, hp.2 (T.setVm vm₁) hT hW₁⟩) with ⟨v, vm₁, ⟨U', l2, c2, s2⟩, hW₁, X', ⟨g', mk, t, L, e1, e2, hq, h1, hL, h2, h3⟩, st⟩ | ⟨q, vm₁, ⟨U', l2, c2, s2⟩, hW₁, X', ⟨g', mk, t, L, E, ce, e1, e2, hq, hce, hcv, hcl, h1, hL, h2, h3⟩, st⟩
  · dsimp only [Pt.U, Pt.locs, Pt.cells, Pt.slots] at X' e1 e2 h1 h2 h3 st
    subst h1; subst h2; subst h3
    exact Or.inl ⟨v, (T.setVm vm₁).calling g' mk As.toArray, t, U', L, hT, X', hL, e1, e2, hq, st⟩
  · dsimp only [Pt.U, Pt.locs, Pt.cells, Pt.slots] at X' e1 e2 h1 h2 h3 st hcl
    subst h1; subst h2; subst h3
    exact Or.inr ⟨q, (T.setVm vm₁).calling g' mk As.toArray, t, U', L, E, ce, hT, X', hL, e1, e2, hq, hce, hcv, vx_cls hW₁ hcl, st⟩
end Runs
section Rows
variable {p : Program} {l : Launch} {e : Env} {R : Room} {s : State} {m : MethodId} {args : Array Value} {below : List Frame} {meth : Method} {c : Code} {H : Heap} {locs : List Loc} {cells slots : Nat} {Q : State → Prop}
variable {mc ms : Nat} {free : Addr → Prop} {A0 A1 : Nat → Prop} {H0 : Heap} {a : Array Value} {pc : Nat} {ls : Array Slot} {st0 rest : List Value}
theorem vx_keep {st₀ t T' : State} {L : List Loc} (h0 : st₀.heap = H) (e1 : T'.heap = t.heap) (hS : va_S A0 H0 H locs) (hA : ∀ q, q < H.size → A1 q → A0 q) (hf : ∀ q, free q → A0 q) (hL : ∀ q ∈ L, free q.base) (hF : va_F A1 st₀ t) :
    H.size ≤ T'.heap.size ∧ (∀ q : Nat, q < H.size → ¬ A1 q → T'.heap[q]? = H[q]?) ∧ va_S A0 H0 T'.heap (locs ++ L) := by
  obtain ⟨hz, hk⟩ := hF
  rw [h0] at hz hk
  exact ⟨by rw [e1]; exact hz, fun q h1 h2 => by rw [e1]; exact hk q h1 h2,
    ⟨Nat.le_trans hS.1 (by rw [e1]; exact hz), fun q h1 h2 => by rw [e1, hk q (Nat.lt_of_lt_of_le h1 hS.1) (fun z => h2 (hA q (Nat.lt_of_lt_of_le h1 hS.1) z))]; exact hS.2.1 q h1 h2, fun q hq => by
      rcases List.mem_append.mp hq with h | h
      · exact hS.2.2 q h
      · exact hf _ (hL q h)⟩⟩
theorem vx_calli {S SX : Type} {post : Int32 → S → Prop} {px : SX → Prop} {B : S → State → Prop} {BX : String → SX → State → Prop} {AX : Nat → Prop} (hr : vx_Run p l e R s m args below meth c H locs cells slots mc ms (F0 m pc ls st0) rest (va_Qi post B A1 a) (vx_X px BX AX) free) (hS : va_S A0 H0 H locs) (hA : ∀ q, q < H.size → A1 q → A0 q) (hf : ∀ q, free q → A0 q) (hAX : ∀ q, q < H.size → AX q → A0 q)
    (kx : ∀ (E : String) (ce : Cell) (q9 : Addr) (u : SX) (t : State) (H1 : Heap) (locs1 : List Loc), t.heap = H1 → s.vm.Alike t.vm → px u → BX E u t → H.size ≤ H1.size → (∀ q : Nat, q < H.size → ¬ AX q → H1[q]? = H[q]?) → va_S A0 H0 H1 locs1 → H1[q9]? = some ce → ce.vm = .none → s.vm.findClass E = some ce.cls → vx_W p l e R s m args below meth c H1 locs1 (cells + mc) (slots + ms) Q (F0 m pc ls rest) q9)
    (kk : ∀ (r : Int32) (u : S) (t : State) (H1 : Heap) (locs1 : List Loc), t.heap = H1 → s.vm.Alike t.vm → post r u → B u t → H.size ≤ H1.size → (∀ q : Nat, q < H.size → ¬ A1 q → H1[q]? = H[q]?) → va_S A0 H0 H1 locs1 → W p l e R s m args below meth c H1 locs1 (cells + mc) (slots + ms) Q (F0 m (pc + 3) ls (.int r :: rest))) : W p l e R s m args below meth c H locs cells slots Q (F0 m pc ls st0) := by
  intro T hT X
  rcases hr T hT X with ⟨v, st₀, t, T', L, h0, X', hL, e1, e2, ⟨⟨r, u, hv, hp, hb⟩, hF⟩, st⟩ | ⟨q, st₀, t, T', L, E, ce, h0, X', hL, e1, e2, ⟨u, hp, hb, hF⟩, hce, hcv, hcl, st⟩
  · cases hv
    obtain ⟨k1, k2, k3⟩ := vx_keep h0 e1 hS hA hf hL hF
    obtain ⟨t2, a1, b1⟩ := kk r u t T'.heap (locs ++ L) e1.symm (by rw [← e2]; exact X'.warmed.alike) hp hb k1 k2 k3 T' rfl X'
    exact ⟨t2, st t2 a1, b1⟩
  · obtain ⟨k1, k2, k3⟩ := vx_keep h0 e1 hS hAX hf hL hF
    obtain ⟨t2, a1, b1⟩ := kx E ce q u t T'.heap (locs ++ L) e1.symm (by rw [← e2]; exact X'.warmed.alike) hp hb k1 k2 k3 (by rw [e1]; exact hce) hcv hcl T' rfl X'
    exact ⟨t2, st.trans a1, b1⟩
theorem vx_calll {S SX : Type} {post : Int64 → S → Prop} {px : SX → Prop} {B : S → State → Prop} {BX : String → SX → State → Prop} {AX : Nat → Prop} (hr : vx_Run p l e R s m args below meth c H locs cells slots mc ms (F0 m pc ls st0) rest (va_Ql post B A1 a) (vx_X px BX AX) free) (hS : va_S A0 H0 H locs) (hA : ∀ q, q < H.size → A1 q → A0 q) (hf : ∀ q, free q → A0 q) (hAX : ∀ q, q < H.size → AX q → A0 q)
    (kx : ∀ (E : String) (ce : Cell) (q9 : Addr) (u : SX) (t : State) (H1 : Heap) (locs1 : List Loc), t.heap = H1 → s.vm.Alike t.vm → px u → BX E u t → H.size ≤ H1.size → (∀ q : Nat, q < H.size → ¬ AX q → H1[q]? = H[q]?) → va_S A0 H0 H1 locs1 → H1[q9]? = some ce → ce.vm = .none → s.vm.findClass E = some ce.cls → vx_W p l e R s m args below meth c H1 locs1 (cells + mc) (slots + ms) Q (F0 m pc ls rest) q9)
    (kk : ∀ (r : Int64) (u : S) (t : State) (H1 : Heap) (locs1 : List Loc), t.heap = H1 → s.vm.Alike t.vm → post r u → B u t → H.size ≤ H1.size → (∀ q : Nat, q < H.size → ¬ A1 q → H1[q]? = H[q]?) → va_S A0 H0 H1 locs1 → W p l e R s m args below meth c H1 locs1 (cells + mc) (slots + ms) Q (F0 m (pc + 3) ls (.long r :: rest))) : W p l e R s m args below meth c H locs cells slots Q (F0 m pc ls st0) := by
  intro T hT X
  rcases hr T hT X with ⟨v, st₀, t, T', L, h0, X', hL, e1, e2, ⟨⟨r, u, hv, hp, hb⟩, hF⟩, st⟩ | ⟨q, st₀, t, T', L, E, ce, h0, X', hL, e1, e2, ⟨u, hp, hb, hF⟩, hce, hcv, hcl, st⟩
  · cases hv
    obtain ⟨k1, k2, k3⟩ := vx_keep h0 e1 hS hA hf hL hF
    obtain ⟨t2, a1, b1⟩ := kk r u t T'.heap (locs ++ L) e1.symm (by rw [← e2]; exact X'.warmed.alike) hp hb k1 k2 k3 T' rfl X'
    exact ⟨t2, st t2 a1, b1⟩
  · obtain ⟨k1, k2, k3⟩ := vx_keep h0 e1 hS hAX hf hL hF
    obtain ⟨t2, a1, b1⟩ := kx E ce q u t T'.heap (locs ++ L) e1.symm (by rw [← e2]; exact X'.warmed.alike) hp hb k1 k2 k3 (by rw [e1]; exact hce) hcv hcl T' rfl X'
    exact ⟨t2, st.trans a1, b1⟩
theorem vx_callf {S SX : Type} {post : UInt32 → S → Prop} {px : SX → Prop} {B : S → State → Prop} {BX : String → SX → State → Prop} {AX : Nat → Prop} (hr : vx_Run p l e R s m args below meth c H locs cells slots mc ms (F0 m pc ls st0) rest (va_Qf post B A1 a) (vx_X px BX AX) free) (hS : va_S A0 H0 H locs) (hA : ∀ q, q < H.size → A1 q → A0 q) (hf : ∀ q, free q → A0 q) (hAX : ∀ q, q < H.size → AX q → A0 q)
    (kx : ∀ (E : String) (ce : Cell) (q9 : Addr) (u : SX) (t : State) (H1 : Heap) (locs1 : List Loc), t.heap = H1 → s.vm.Alike t.vm → px u → BX E u t → H.size ≤ H1.size → (∀ q : Nat, q < H.size → ¬ AX q → H1[q]? = H[q]?) → va_S A0 H0 H1 locs1 → H1[q9]? = some ce → ce.vm = .none → s.vm.findClass E = some ce.cls → vx_W p l e R s m args below meth c H1 locs1 (cells + mc) (slots + ms) Q (F0 m pc ls rest) q9)
    (kk : ∀ (r : UInt32) (u : S) (t : State) (H1 : Heap) (locs1 : List Loc), t.heap = H1 → s.vm.Alike t.vm → post r u → B u t → H.size ≤ H1.size → (∀ q : Nat, q < H.size → ¬ A1 q → H1[q]? = H[q]?) → va_S A0 H0 H1 locs1 → W p l e R s m args below meth c H1 locs1 (cells + mc) (slots + ms) Q (F0 m (pc + 3) ls (.float r :: rest))) : W p l e R s m args below meth c H locs cells slots Q (F0 m pc ls st0) := by
  intro T hT X
  rcases hr T hT X with ⟨v, st₀, t, T', L, h0, X', hL, e1, e2, ⟨⟨r, u, hv, hp, hb⟩, hF⟩, st⟩ | ⟨q, st₀, t, T', L, E, ce, h0, X', hL, e1, e2, ⟨u, hp, hb, hF⟩, hce, hcv, hcl, st⟩
  · cases hv
    obtain ⟨k1, k2, k3⟩ := vx_keep h0 e1 hS hA hf hL hF
    obtain ⟨t2, a1, b1⟩ := kk r u t T'.heap (locs ++ L) e1.symm (by rw [← e2]; exact X'.warmed.alike) hp hb k1 k2 k3 T' rfl X'
    exact ⟨t2, st t2 a1, b1⟩
  · obtain ⟨k1, k2, k3⟩ := vx_keep h0 e1 hS hAX hf hL hF
    obtain ⟨t2, a1, b1⟩ := kx E ce q u t T'.heap (locs ++ L) e1.symm (by rw [← e2]; exact X'.warmed.alike) hp hb k1 k2 k3 (by rw [e1]; exact hce) hcv hcl T' rfl X'
    exact ⟨t2, st.trans a1, b1⟩
theorem vx_calld {S SX : Type} {post : UInt64 → S → Prop} {px : SX → Prop} {B : S → State → Prop} {BX : String → SX → State → Prop} {AX : Nat → Prop} (hr : vx_Run p l e R s m args below meth c H locs cells slots mc ms (F0 m pc ls st0) rest (va_Qd post B A1 a) (vx_X px BX AX) free) (hS : va_S A0 H0 H locs) (hA : ∀ q, q < H.size → A1 q → A0 q) (hf : ∀ q, free q → A0 q) (hAX : ∀ q, q < H.size → AX q → A0 q)
    (kx : ∀ (E : String) (ce : Cell) (q9 : Addr) (u : SX) (t : State) (H1 : Heap) (locs1 : List Loc), t.heap = H1 → s.vm.Alike t.vm → px u → BX E u t → H.size ≤ H1.size → (∀ q : Nat, q < H.size → ¬ AX q → H1[q]? = H[q]?) → va_S A0 H0 H1 locs1 → H1[q9]? = some ce → ce.vm = .none → s.vm.findClass E = some ce.cls → vx_W p l e R s m args below meth c H1 locs1 (cells + mc) (slots + ms) Q (F0 m pc ls rest) q9)
    (kk : ∀ (r : UInt64) (u : S) (t : State) (H1 : Heap) (locs1 : List Loc), t.heap = H1 → s.vm.Alike t.vm → post r u → B u t → H.size ≤ H1.size → (∀ q : Nat, q < H.size → ¬ A1 q → H1[q]? = H[q]?) → va_S A0 H0 H1 locs1 → W p l e R s m args below meth c H1 locs1 (cells + mc) (slots + ms) Q (F0 m (pc + 3) ls (.double r :: rest))) : W p l e R s m args below meth c H locs cells slots Q (F0 m pc ls st0) := by
  intro T hT X
  rcases hr T hT X with ⟨v, st₀, t, T', L, h0, X', hL, e1, e2, ⟨⟨r, u, hv, hp, hb⟩, hF⟩, st⟩ | ⟨q, st₀, t, T', L, E, ce, h0, X', hL, e1, e2, ⟨u, hp, hb, hF⟩, hce, hcv, hcl, st⟩
  · cases hv
    obtain ⟨k1, k2, k3⟩ := vx_keep h0 e1 hS hA hf hL hF
    obtain ⟨t2, a1, b1⟩ := kk r u t T'.heap (locs ++ L) e1.symm (by rw [← e2]; exact X'.warmed.alike) hp hb k1 k2 k3 T' rfl X'
    exact ⟨t2, st t2 a1, b1⟩
  · obtain ⟨k1, k2, k3⟩ := vx_keep h0 e1 hS hAX hf hL hF
    obtain ⟨t2, a1, b1⟩ := kx E ce q u t T'.heap (locs ++ L) e1.symm (by rw [← e2]; exact X'.warmed.alike) hp hb k1 k2 k3 (by rw [e1]; exact hce) hcv hcl T' rfl X'
    exact ⟨t2, st.trans a1, b1⟩
theorem vx_callv {S SX : Type} {post : S → Prop} {px : SX → Prop} {B : S → State → Prop} {BX : String → SX → State → Prop} {AX : Nat → Prop} (hr : vx_Run p l e R s m args below meth c H locs cells slots mc ms (F0 m pc ls st0) rest (va_Qv post B A1 a) (vx_X px BX AX) free) (hS : va_S A0 H0 H locs) (hA : ∀ q, q < H.size → A1 q → A0 q) (hf : ∀ q, free q → A0 q) (hAX : ∀ q, q < H.size → AX q → A0 q)
    (kx : ∀ (E : String) (ce : Cell) (q9 : Addr) (u : SX) (t : State) (H1 : Heap) (locs1 : List Loc), t.heap = H1 → s.vm.Alike t.vm → px u → BX E u t → H.size ≤ H1.size → (∀ q : Nat, q < H.size → ¬ AX q → H1[q]? = H[q]?) → va_S A0 H0 H1 locs1 → H1[q9]? = some ce → ce.vm = .none → s.vm.findClass E = some ce.cls → vx_W p l e R s m args below meth c H1 locs1 (cells + mc) (slots + ms) Q (F0 m pc ls rest) q9)
    (kk : ∀ (u : S) (t : State) (H1 : Heap) (locs1 : List Loc), t.heap = H1 → s.vm.Alike t.vm → post u → B u t → H.size ≤ H1.size → (∀ q : Nat, q < H.size → ¬ A1 q → H1[q]? = H[q]?) → va_S A0 H0 H1 locs1 → W p l e R s m args below meth c H1 locs1 (cells + mc) (slots + ms) Q (F0 m (pc + 3) ls (rest))) : W p l e R s m args below meth c H locs cells slots Q (F0 m pc ls st0) := by
  intro T hT X
  rcases hr T hT X with ⟨v, st₀, t, T', L, h0, X', hL, e1, e2, ⟨⟨u, hv, hp, hb⟩, hF⟩, st⟩ | ⟨q, st₀, t, T', L, E, ce, h0, X', hL, e1, e2, ⟨u, hp, hb, hF⟩, hce, hcv, hcl, st⟩
  · cases hv
    obtain ⟨k1, k2, k3⟩ := vx_keep h0 e1 hS hA hf hL hF
    obtain ⟨t2, a1, b1⟩ := kk u t T'.heap (locs ++ L) e1.symm (by rw [← e2]; exact X'.warmed.alike) hp hb k1 k2 k3 T' rfl X'
    exact ⟨t2, st t2 a1, b1⟩
  · obtain ⟨k1, k2, k3⟩ := vx_keep h0 e1 hS hAX hf hL hF
    obtain ⟨t2, a1, b1⟩ := kx E ce q u t T'.heap (locs ++ L) e1.symm (by rw [← e2]; exact X'.warmed.alike) hp hb k1 k2 k3 (by rw [e1]; exact hce) hcv hcl T' rfl X'
    exact ⟨t2, st.trans a1, b1⟩
/-- caught by the first row x of this method's table -/
theorem vx_catch {own name : String} {E : String} {ce : Cell} {q : Addr} (hown : s.vm.findClass own = some m.cls) (x : ExceptionTableEntry) (suf : List ExceptionTableEntry) (hsplit : c.exceptionTable.toList = x :: suf)
    (hx : covers x pc = true) (h0 : x.catchType ≠ 0)
    (hlink : (Cond.classLink own x.catchType name).before args s = true) (hcast : (Cond.castable E name).before args s = true) (hcell : H[q]? = some ce) (hv : ce.vm = .none) (hcl : s.vm.findClass E = some ce.cls)
    (kk : W p l e R s m args below meth c H locs cells slots Q (F0 m x.handlerPc ls [.ref q])) : vx_W p l e R s m args below meth c H locs cells slots Q (F0 m pc ls rest) q := by
  intro T hT X
  have hpl : e.platform.magicAccessors = ({} : Platform).magicAccessors := by rw [X.admits.platform]
  obtain ⟨c3, c4, hc3, hc4, hasg⟩ := Cond.castable_spec hcast
  cases Option.some.inj (hc3.symm.trans hcl)
  obtain ⟨c5, hc5, hcl5⟩ := Cond.classLink_spec hown hlink e.platform hpl
  cases Option.some.inj (hc4.symm.trans hc5)
  obtain ⟨k9, h9, -⟩ := Vm.findClass_spec hcl
  have hW := X.warmed
  obtain ⟨k0, hk0, -⟩ := hW.alike.2.2 _ _ h9
  obtain ⟨dk, _, _, kt, hd, _, _, _, _, hkt, _, hopen⟩ := hcl5.here
  obtain ⟨kt2, hkt2, -⟩ := hW.alike.2.2 _ _ hkt
  have hW2 := hW.noted hd hopen (State.rightAt_cls hcl5)
  have X2 := X.noted hW2
  obtain ⟨t, a1, b1⟩ := kk (T.setVm (T.vm.noted m.cls x.catchType (.cls c4))) hT X2
  refine ⟨t, ?_, b1⟩
  refine oc_to (g := F0 m pc ls rest) X.here (pc := x.handlerPc) (vm2 := T.vm.noted m.cls x.catchType (.cls c4)) (fun Q2 E2 d2 acts2 => ?_) a1
  rw [W.findHandler_eq (s := ((T.setTop (F0 m pc ls rest)).pushFrame (.throwing q))) (f := F0 m pc ls rest) (meth := meth) (code := c) X.method' X.code, hsplit]
  exact oc_go (f := F0 m pc ls rest) (cell := ce) hx h0 (hW.classLinks hcl5) (by show T.heap[q]? = some ce; rw [hT]; exact hcell) (fun k => by rw [hv]; intro h; cases h) ⟨k0, hk0⟩ ⟨kt2, hkt2⟩ (by show T.vm.assignable _ _ = true; rw [hW.alike.assignable]; exact hasg)
end Rows
section Ends
variable {p : Program} {l : Launch} {e : Env} {R : Room} {s : State} {m : MethodId} {args : Array Value} {below : List Frame} {meth : Method} {c : Code} {H : Heap} {locs : List Loc} {cells slots : Nat} {Q : State → Prop}
variable {mc ms : Nat} {free : Addr → Prop} {A0 A1 : Nat → Prop} {H0 : Heap} {a : Array Value} {ls : Array Slot} {st0 rest : List Value}
variable {Qc : Array Value → State → Outcome → State → Prop} {XC : String → State → State → Prop}
/-- what a body that may throw owes at its end -/
def vx_MQ (below : List Frame) (Qc : Array Value → State → Outcome → State → Prop) (XC : String → State → State → Prop) (a : Array Value) (s : State) (mc ms : Nat) (free : Addr → Prop) : State → Prop := fun t =>
  ∃ o, t.status = .running ∧ Ended t below o ∧ vx_Q Qc XC mc ms free a s o t
theorem vx_ret {g : JFrame} {mc ms : Nat} (k : W p l e R s m args below meth c H locs cells slots (MQ below Qc args s mc ms free) g) : W p l e R s m args below meth c H locs cells slots (vx_MQ below Qc XC args s mc ms free) g := by
  intro T hT X
  obtain ⟨t, a1, o, b1, b2, b3, b4⟩ := k T hT X
  exact ⟨t, a1, o, b1, b2, Or.inl ⟨b3, b4⟩⟩
/-- not caught here: it goes on to the caller -/
theorem vx_widen {g : JFrame} {q : Addr} {k n : Nat} (h1 : cells ≤ k) (h2 : slots ≤ n) (kk : vx_W p l e R s m args below meth c H locs k n Q g q) : vx_W p l e R s m args below meth c H locs cells slots Q g q := fun T hT X => kk T hT (stand_widen X h1 h2)
theorem vx_out {pc : Nat} {E : String} {ce : Cell} {q : Addr} {mc ms : Nat} (hout : ∀ x ∈ c.exceptionTable.toList, covers x pc = false) (hlocks : meth.locks = false) (hcell : H[q]? = some ce) (hv : ce.vm = .none) (hcl : s.vm.findClass E = some ce.cls)
    (hx : ∀ t : State, t.heap = H → s.vm.Alike t.vm → XC E s t) (hf : ∀ z ∈ locs, free z.base) (hc : cells ≤ mc) (hs : slots ≤ ms) :
    vx_W p l e R s m args below meth c H locs cells slots (vx_MQ below Qc XC args s mc ms free) (F0 m pc ls rest) q := by
  intro T hT X
  obtain ⟨st1, hrun, hend, hW, hsm⟩ := X.leaveThrown q (g := F0 m pc ls rest) rfl rfl rfl hout hlocks
  have hcell9 : (T.setFrames (.throwing q :: below)).heap[q]? = some ce := by
    show T.heap[q]? = some ce
    rw [hT]; exact hcell
  exact ⟨_, st1, .threw q, hrun, hend, Or.inr ⟨q, rfl, E, ce, locs, hx _ hT hW.alike, hcell9, hv, hcl, hW, hsm.mono hc hs, hf⟩⟩
theorem vx_frame {U : State} {k n : Nat} (h : s.sameButNew ({ U with vm := s.vm } : State) locs k n) : s.heap.size ≤ U.heap.size ∧ ∀ q : Nat, q < s.heap.size → (∀ z ∈ locs, z.base ≠ q) → U.heap[q]? = s.heap[q]? := by
  obtain ⟨-, h2, -, -, -, h6⟩ := h
  refine ⟨h2, fun q hq hz => ?_⟩
  obtain ⟨c9, e1, e2, e3, e4⟩ := h6 q _ (Array.getElem?_eq_getElem hq)
  have hs : c9.slots = (s.heap[q]).slots := Array.ext_getElem? fun i => e4 i fun hm => hz _ hm rfl
  have h9 : c9 = s.heap[q] := by
    rw [hs] at e2
    exact e2
  have e5 : U.heap[q]? = some c9 := e1
  rw [e5, h9, Array.getElem?_eq_getElem hq]
/-- the words of a throw but the four that speak of the heap -/
def vx_no (w : Cond) : Bool := decide (w ≠ .isRef (.static Bundle.tN "UNASSIGNED_STACK" Bundle.steD)) && decide (w ≠ .isRef (.static Bundle.tN "SUPPRESSED_SENTINEL" Bundle.listD)) && decide (w ≠ .laysStatic Bundle.tN "UNASSIGNED_STACK" Bundle.steD) && decide (w ≠ .laysStatic Bundle.tN "SUPPRESSED_SENTINEL" Bundle.listD)
def vx_at0 (own : String) (ic : Nat) (X : String) (names : List String) : List Cond := (Bundle.ownAtoms0 own ic X names).filter vx_no
def vx_atS (own : String) (ic : Nat) (X : String) (names : List String) : List Cond := (Bundle.ownAtoms own ic X names).filter vx_no
/-- a word that the tables alone decide, or a good one -/
def vx_ot (w : Cond) : Bool := w.onTables || goodWord w
theorem vx_ot_at {args a' : Array Value} {s U : State} {w : Cond} (hW : s.WarmedH U.vm) (hvm : s.vm = U.vm) (hg : vx_ot w = true) (h : w.before args s = true) : w.before a' U = true := by
  simp only [vx_ot, Bool.or_eq_true] at hg
  rcases hg with hg | hg
  · exact va_tabs hg hvm h
  · exact word_at hW (good_of_word hg) h
/-- a list's words: the good ones out of the method's own list, the others by premises of their own -/
theorem vx_hat {args : Array Value} {s : State} {L B : List Cond} (h1 : ∀ w ∈ L.filter goodWord, w.before args s = true) (h2 : ∀ w ∈ L.filter (fun w => !goodWord w), w ∈ B) (h3 : ∀ w ∈ B, w.before args s = true) : ∀ w ∈ L, w.before args s = true := by
  intro w hw
  by_cases g : goodWord w = true
  · exact h1 w (List.mem_filter.mpr ⟨hw, g⟩)
  · refine h3 w (h2 w (List.mem_filter.mpr ⟨hw, ?_⟩))
    show (!goodWord w) = true
    cases hgw : goodWord w
    · rfl
    · exact absurd hgw g
theorem vx_c {args : Array Value} {s : State} {w : Cond} {B : List Cond} (h : w.before args s = true) (t : ∀ w ∈ B, w.before args s = true) : ∀ w' ∈ w :: B, w'.before args s = true := fun w' h' => (List.mem_cons.mp h').elim (fun e => by rw [e]; exact h) (t w')
theorem vx_n {args : Array Value} {s : State} : ∀ w ∈ ([] : List Cond), w.before args s = true := fun _ h => nomatch h
theorem vx_own {args : Array Value} {s : State} {L : List Cond} (h1 : ∀ w ∈ L.filter vx_no, w.before args s = true)
    (hU : (Cond.isRef (.static Bundle.tN "UNASSIGNED_STACK" Bundle.steD)).before args s = true) (hN : (Cond.isRef (.static Bundle.tN "SUPPRESSED_SENTINEL" Bundle.listD)).before args s = true)
    (lU : (Cond.laysStatic Bundle.tN "UNASSIGNED_STACK" Bundle.steD).before args s = true) (lN : (Cond.laysStatic Bundle.tN "SUPPRESSED_SENTINEL" Bundle.listD).before args s = true) : ∀ w ∈ L, w.before args s = true := by
  intro w hw
  by_cases e1 : w = .isRef (.static Bundle.tN "UNASSIGNED_STACK" Bundle.steD)
  · rw [e1]; exact hU
  · by_cases e2 : w = .isRef (.static Bundle.tN "SUPPRESSED_SENTINEL" Bundle.listD)
    · rw [e2]; exact hN
    · by_cases e3 : w = .laysStatic Bundle.tN "UNASSIGNED_STACK" Bundle.steD
      · rw [e3]; exact lU
      · by_cases e4 : w = .laysStatic Bundle.tN "SUPPRESSED_SENTINEL" Bundle.listD
        · rw [e4]; exact lN
        · exact h1 w (List.mem_filter.mpr ⟨hw, by unfold vx_no; rw [decide_eq_true e1, decide_eq_true e2, decide_eq_true e3, decide_eq_true e4]; rfl⟩)
/-- where a static field lies, its class's statics cell in H -/
def vx_L (C n d : String) (A : Nat → Prop) (U : State) (H : Heap) : Prop := ∃ (c : ClassId) (k : Class) (i : Nat) (f : Field) (a : Nat) (cell : Cell), U.vm.findClass C = some c ∧ U.fieldFound? C n d = some (c, k, i, f) ∧ f.isStatic = true ∧ k.statics = some a ∧ H[a]? = some cell ∧ cell.vm.isStatics = true ∧ cell.cls = c ∧ f.slot < cell.slots.size ∧ k.staticTypes[f.slot]? = some f.type ∧ ¬ A a
theorem vx_L.moved {C n d : String} {A : Nat → Prop} {u U : State} {H : Heap} (hvm : u.vm.Alike U.vm) (h : vx_L C n d A u H) : vx_L C n d A U H := by
  obtain ⟨c, k, i, f, a, cell, h1, h2, h3, h4, h5, h6, h7, h8, h9, h10⟩ := h
  obtain ⟨k', hi', he⟩ := State.fieldFound?_setVm hvm h2
  exact ⟨c, k', i, f, a, cell, by rw [hvm.findClass]; exact h1, hi', h3, by rw [he]; exact h4, h5, h6, h7, h8, by rw [he]; exact h9, h10⟩
theorem vx_L.kept {C n d : String} {A : Nat → Prop} {U : State} {H H1 : Heap} (h : vx_L C n d A U H) (hq : ∀ a : Nat, a < H.size → ¬ A a → H1[a]? = H[a]?) : vx_L C n d A U H1 := by
  obtain ⟨c, k, i, f, a, cell, h1, h2, h3, h4, h5, h6, h7, h8, h9, h10⟩ := h
  exact ⟨c, k, i, f, a, cell, h1, h2, h3, h4, by rw [hq a (Array.getElem?_eq_some_iff.mp h5).1 h10]; exact h5, h6, h7, h8, h9, h10⟩
theorem vx_L.narrow {C n d : String} {A B : Nat → Prop} {U : State} {H : Heap} (h : vx_L C n d A U H) (hAB : ∀ q, B q → A q) : vx_L C n d B U H := by
  obtain ⟨c, k, i, f, a, cell, h1, h2, h3, h4, h5, h6, h7, h8, h9, h10⟩ := h
  exact ⟨c, k, i, f, a, cell, h1, h2, h3, h4, h5, h6, h7, h8, h9, fun z => h10 (hAB _ z)⟩
theorem vx_L.word {C n d : String} {A : Nat → Prop} {s : State} {args : Array Value} (h : vx_L C n d A s s.heap) : (Cond.laysStatic C n d).before args s = true := by
  obtain ⟨c, k, i, f, a, cell, h1, h2, h3, h4, h5, h6, h7, h8, h9, -⟩ := h
  show (Cond.laysStatic C n d).holds args s none s [] = true
  exact Cond.laysStatic_of h1 h2 h3 h4 h5 h6 h7 h8 h9
/-- .. and what it holds: null or some reference -/
def vx_Zq (C n d : String) (A : Nat → Prop) (U : State) (H : Heap) : Prop := va_Zq C n d A U H ∧ vx_L C n d A U H
theorem vx_Zq.moved {C n d : String} {A : Nat → Prop} {u U : State} {H : Heap} (hvm : u.vm.Alike U.vm) (h : vx_Zq C n d A u H) : vx_Zq C n d A U H := ⟨va_Zq.moved hvm h.1, vx_L.moved hvm h.2⟩
theorem vx_Zq.kept {C n d : String} {A : Nat → Prop} {U : State} {H H1 : Heap} (h : vx_Zq C n d A U H) (hq : ∀ a : Nat, a < H.size → ¬ A a → H1[a]? = H[a]?) : vx_Zq C n d A U H1 := ⟨va_Zq.kept h.1 hq, vx_L.kept h.2 hq⟩
theorem vx_Zq.narrow {C n d : String} {A B : Nat → Prop} {U : State} {H : Heap} (h : vx_Zq C n d A U H) (hAB : ∀ q, B q → A q) : vx_Zq C n d B U H := ⟨va_Zq.narrow h.1 hAB, vx_L.narrow h.2 hAB⟩
theorem vx_Zqof {args : Array Value} {s : State} {C n d : String} {A : Nat → Prop} (hl : (Cond.laysStatic C n d).before args s = true) (hini : (Cond.initialized C).before args s = true) (h : (Cond.isRef (.static C n d)).before args s = true) (hA : ∀ a : Nat, a < s.heap.size → ¬ A a) : vx_Zq C n d A s s.heap := by
  refine ⟨va_Zqof hl hini h hA, ?_⟩
  obtain ⟨c, k, i, f, a, cell, h1, h2, h3, h4, h5, h6, h7, h8, h9⟩ := Cond.laysStatic_spec hl
  exact ⟨c, k, i, f, a, cell, h1, h2, h3, h4, h5, h6, h7, h8, h9, hA a (Array.getElem?_eq_some_iff.mp h5).1⟩
theorem vx_isRef {C n d : String} {v : Value} {A : Nat → Prop} {s : State} {args : Array Value} (h : va_Z C n d v A s s.heap) (hv : v.isRef = true) : (Cond.isRef (.static C n d)).before args s = true := by
  obtain ⟨cf, kf, fi, f, a, cell, h1, h2, h3, h4, h5, h6, h7, -⟩ := h
  have he : (Term.static C n d).eval args s none [] s = some v := by
    simp [Term.eval, State.fieldNamed?, h1, h2, h4, h5, h6, h7]
  simp only [Cond.before, Cond.holds, Cond.value, he]
  cases v <;> simp_all [Value.isRef]
theorem vx_isRefq {C n d : String} {A : Nat → Prop} {s : State} {args : Array Value} (h : va_Zq C n d A s s.heap) : (Cond.isRef (.static C n d)).before args s = true := by
  rcases h with h | ⟨t, h⟩
  · exact vx_isRef h rfl
  · exact vx_isRef h rfl
/-- the same frame, seen from here: as if the method were called anew in this heap -/
theorem vx_rebase {T : State} (X : Stand p l e R s m args below meth c T locs cells slots) {R' : Room} (hf : R'.frames ≤ R.frames) (hl : R'.locals ≤ R.locals) (hc : cells + R'.cells ≤ R.cells) (hs : slots + R'.slots ≤ R.slots) :
    Stand p l e R' ((T.setVm s.vm).setFrames (.invoking m args :: below)) m args below meth c T [] 0 0 := by
  have htop : (T.setVm s.vm).topJava?.isSome := X.here.top
  have hF : ((T.setVm s.vm).setFrames (.invoking m args :: below)).frames = .invoking m args :: below := State.frames_setFrames _ (State.cur_lt_of_top htop)
  obtain ⟨g₀, hg0⟩ := Option.isSome_iff_exists.mp htop
  obtain ⟨r, hr⟩ := State.topJava?_eq_some.mp hg0
  have hl9 : e.platform.stackLimits (T.setVm s.vm).me = e.platform.stackLimits s.me := X.limits
  have hb9 : (T.setVm s.vm).me.stackBytes = s.me.stackBytes := X.bytes
  refine ⟨X.admits, X.cas, X.clock, hF, ?_, X.hears, X.method, X.code, X.here, X.tail, X.warmed, ?_, ?_, ?_⟩
  · have h := X.room
    have hU : ((T.setVm s.vm).setFrames (.invoking m args :: below)).localsInUse = s.localsInUse := by
      rw [State.localsInUse_invoking hF (meth := meth) (c := c) X.method X.code, State.localsInUse_invoking X.frames X.method X.code]
    simp only [State.hasRoom, Bool.and_eq_true, decide_eq_true_eq] at h ⊢
    obtain ⟨⟨⟨⟨h1, h2, h3, h4, h5, h6⟩, h7⟩, h8⟩, h9⟩ := h
    rw [X.frames, List.length_cons] at h2 h3
    have q1 := X.heapSize
    have q2 := X.used
    simp only [hF, hU, List.length_cons, State.stackLimits_setFrames, State.stackBytes_setFrames, hl9, hb9]
    refine ⟨⟨⟨⟨by omega, by omega, by omega, by omega, by omega, h6⟩, ?_⟩, ?_⟩, X.book⟩
    · show T.heap.size + R'.cells ≤ e.platform.maxCells
      omega
    · show T.slotsUsed + R'.slots ≤ e.platform.maxSlots
      omega
  · rw [State.stackLimits_setFrames]; rfl
  · rw [State.stackBytes_setFrames]; rfl
  · refine ⟨?_, Nat.le_refl _, Nat.le_refl _, ?_, ?_, fun a c9 h9 => ⟨c9, h9, rfl, rfl, fun _ _ => rfl⟩⟩
    · obtain ⟨t, ht, -⟩ := State.frames_cons hr
      show T.setVm s.vm = { ((T.setVm s.vm).setFrames (.invoking m args :: below)).setFrames (T.setVm s.vm).frames with heap := T.heap, slotsUsed := T.slotsUsed }
      rw [State.setFrames_setFrames, State.setFrames_self ht]
      rfl
    · show T.slotsUsed = T.slotsUsed + ((T.heap.toList.drop T.heap.size).map (·.slots.size)).sum
      rw [List.drop_eq_nil_of_le (Nat.le_of_eq Array.length_toList)]
      rfl
    · show ((T.heap.toList.drop T.heap.size).map (·.slots.size)).sum ≤ 0
      rw [List.drop_eq_nil_of_le (Nat.le_of_eq Array.length_toList)]
      exact Nat.le_refl _
/-- 'throw new E()': new; dup; invokespecial; athrow -/
theorem vx_throw0 {cc : ByteArray} {pc : Nat} (hexec : p.tables.exec = Jvm.exec) (hb : c.code = cc) (hl : l.stackTraces = false) {own cls : String} {names : List String} {ik ic mc ms : Nat} {A : Nat → Prop}
    (hown : s.vm.findClass own = some m.cls) (hcls : Bundle.fit cls = true) (hnames : ∀ n ∈ names, Bundle.fit n = true)
    (hk : (Cond.classLink own ik cls).before args s = true) (hini : (Cond.initialized cls).before args s = true) (hat : ∀ w ∈ vx_at0 own ic cls names, w.before args s = true)
    (hgood : ∀ w ∈ Cond.classLink own ik cls :: Cond.initialized cls :: vx_at0 own ic cls names, vx_ot w = true)
    (hU : vx_Zq Bundle.tN "UNASSIGNED_STACK" Bundle.steD A s s.heap) (hN : vx_Zq Bundle.tN "SUPPRESSED_SENTINEL" Bundle.listD A s s.heap) (hS : va_S A s.heap H locs) (hsize : ls.size = c.maxLocals)
    (d0 : decode cc pc = .ok (.new ik, 3)) (d3 : decode cc (pc + 3) = .ok (.dup, 1)) (d4 : decode cc (pc + 4) = .ok (.invokespecial ic, 3)) (d7 : decode cc (pc + 7) = .ok (.athrow, 1))
    (hout : ∀ x ∈ c.exceptionTable.toList, covers x (pc + 7) = false)
    (hRframes : names.length + 3 < R.frames) (hRlocals : (rest.map fun v => v.category).sum + (13 * (names.length + 1) + 42) ≤ R.locals) (hRcells : cells + 1 ≤ R.cells) (hRslots : slots + 6 ≤ R.slots) (hlocks : meth.locks = false)
    (hx : ∀ t : State, s.vm.Alike t.vm → H.size ≤ t.heap.size → (∀ q : Nat, q < H.size → t.heap[q]? = H[q]?) → XC cls s t)
    (hf : ∀ z ∈ locs, free z.base) (hc : cells + 1 ≤ mc) (hs : slots + 6 ≤ ms) :
    W p l e R s m args below meth c H locs cells slots (vx_MQ below Qc XC args s mc ms free) (F0 m pc ls rest) := by
  intro T hT X
  have htr : e.platform.stackTraces = false := (show e.platform.stackTraces = l.stackTraces by rw [X.admits.platform]).trans hl
  have Y := vx_rebase X (R' := { frames := R.frames, locals := R.locals, cells := 1, slots := 6 }) (Nat.le_refl _) (Nat.le_refl _) hRcells hRslots
  obtain ⟨s', hA⟩ : ∃ z, z = (T.setVm s.vm).setFrames (.invoking m args :: below) := ⟨_, rfl⟩
  rw [← hA] at Y
  have hvm : s'.vm = s.vm := by rw [hA]; rfl
  have hhp : s'.heap = H := by rw [hA]; exact hT
  have hW0 : s.WarmedH s'.vm := by rw [hvm]; exact State.WarmedH.refl s
  have hat' : ∀ w ∈ vx_at0 own ic cls names, w.before args s' = true := fun w hw => vx_ot_at hW0 hvm.symm (hgood w (List.mem_cons_of_mem _ (List.mem_cons_of_mem _ hw))) (hat w hw)
  have hk' : (Cond.classLink own ik cls).before args s' = true := vx_ot_at hW0 hvm.symm (hgood _ List.mem_cons_self) hk
  have hini' : (Cond.initialized cls).before args s' = true := vx_ot_at hW0 hvm.symm (hgood _ (List.mem_cons_of_mem _ List.mem_cons_self)) hini
  have hU' : vx_Zq Bundle.tN "UNASSIGNED_STACK" Bundle.steD A s' s'.heap := by rw [hhp]; exact vx_Zq.moved hW0.alike (hU.kept hS.2.1)
  have hN' : vx_Zq Bundle.tN "SUPPRESSED_SENTINEL" Bundle.listD A s' s'.heap := by rw [hhp]; exact vx_Zq.moved hW0.alike (hN.kept hS.2.1)
  have h : ∀ w ∈ Bundle.ownAtoms0 own ic cls names, w.before args s' = true := vx_own hat' (vx_isRefq hU'.1) (vx_isRefq hN'.1) hU'.2.word hN'.2.word
  have hown' : s'.vm.findClass own = some m.cls := by rw [hvm]; exact hown
  have hins : (Cond.instantiable cls 6).before args s' = true := h _ (by simp [Bundle.ownAtoms0])
  obtain ⟨vm₁, cX, kX, hfX, hkX, -, -, X₁, st1⟩ := Y.newCold hexec (own := own) (C := cls) (index := ik) (n := 6) hown' hk' hins hini'
    (g := F0 m pc ls rest) rfl (by rw [hb]; exact d0) (Nat.le_refl _) (Nat.le_refl _)
  generalize hT1 : (T.setVm vm₁).pushCell { cls := cX, slots := kX.instanceTypes.map defaultValue, vm := .none } = T1 at X₁ st1
  have hcat : (Value.ref T.heap.size).category = 1 := rfl
  have hcellA : T1.heap[T.heap.size]? = some (freshCell cX kX) := by rw [← hT1]; exact State.heap_pushCell_size _ _
  have d3' : decode c.code (pc + 3) = .ok (.dup, 1) := by rw [hb]; exact d3
  obtain ⟨U, hsteps, hrun, hend, hW, hsame, ce, hce, hO⟩ := X₁.ctorThrow0 hexec htr (own := own) (cls := cls) (names := names) (ic := ic) hown' hcls hnames h (fun x hx => nomatch hx) hfX hkX hcellA (by rw [hhp, hT]; exact Nat.le_refl _)
    (g := { method := m, pc := pc + 4, locals := ls, stack := .ref T.heap.size :: .ref T.heap.size :: rest, locked := none }) rfl hsize rfl rfl (rest := rest) rfl
    (by rw [hb]; exact d4) (by rw [hb]; exact d7) hout hRframes (by simp only [List.map_cons, List.sum_cons, hcat]; omega) hlocks
  obtain ⟨f1, f2⟩ := vx_frame hsame
  rw [hhp] at f1 f2
  have hWs : s.WarmedH U.vm := State.WarmedH.trans hW0 hW
  have hcl : s.vm.findClass cls = some ce.cls := by
    have h9 := hO.cls
    rw [hvm] at h9
    exact h9
  have hall : s.sameButNew ({ U with vm := s.vm } : State) locs mc ms := by
    subst hA
    obtain ⟨e1, e2⟩ := hsame
    rw [State.setFrames_setFrames] at e1
    have h2 : (T.setVm s.vm).sameButNew ({ U with vm := s.vm } : State) [] (0 + 1) (0 + 6) := ⟨e1, e2⟩
    have h3 := X.same.trans h2
    rw [List.append_nil] at h3
    exact h3.mono hc hs
  refine ⟨U, ?_, .threw T.heap.size, hrun, hend, Or.inr ⟨T.heap.size, rfl, cls, ce, locs, hx U hWs.alike f1 (fun q hq => f2 q hq (fun z hz => nomatch hz)), hce, hO.vm, hcl, hWs, hall, hf⟩⟩
  refine st1 _ ?_
  show Steps p.tables e below (T1.setTop { method := m, pc := pc + 3, locals := ls, stack := .ref T.heap.size :: rest, locked := none }) _
  jvm_step X₁.here [X₁.here.top, hexec, d3', Value.category]
  exact hsteps
/-- 'throw new E("text")': new; dup; ldc; invokespecial; athrow -/
theorem vx_throwS {cc : ByteArray} {pc : Nat} (hexec : p.tables.exec = Jvm.exec) (hb : c.code = cc) (hl : l.stackTraces = false) {own cls text : String} {names : List String} {ik is ic mc ms sa : Nat} {A : Nat → Prop}
    (hown : s.vm.findClass own = some m.cls) (hcls : Bundle.fit cls = true) (hnames : ∀ n ∈ names, Bundle.fit n = true)
    (hk : (Cond.classLink own ik cls).before args s = true) (hini : (Cond.initialized cls).before args s = true) (hstr : vk_R own is text sa s) (hat : ∀ w ∈ vx_atS own ic cls names, w.before args s = true)
    (hgood : ∀ w ∈ Cond.classLink own ik cls :: Cond.initialized cls :: vx_atS own ic cls names, vx_ot w = true)
    (hU : vx_Zq Bundle.tN "UNASSIGNED_STACK" Bundle.steD A s s.heap) (hN : vx_Zq Bundle.tN "SUPPRESSED_SENTINEL" Bundle.listD A s s.heap) (hS : va_S A s.heap H locs) (hsize : ls.size = c.maxLocals)
    (d0 : decode cc pc = .ok (.new ik, 3)) (d3 : decode cc (pc + 3) = .ok (.dup, 1)) (d4 : decode cc (pc + 4) = .ok (.ldc is, 2)) (d6 : decode cc (pc + 6) = .ok (.invokespecial ic, 3)) (d9 : decode cc (pc + 9) = .ok (.athrow, 1))
    (hout : ∀ x ∈ c.exceptionTable.toList, covers x (pc + 9) = false)
    (hRframes : names.length + 3 < R.frames) (hRlocals : (rest.map fun v => v.category).sum + (13 * (names.length + 1) + 43) ≤ R.locals) (hRcells : cells + 1 ≤ R.cells) (hRslots : slots + 6 ≤ R.slots) (hlocks : meth.locks = false)
    (hx : ∀ t : State, s.vm.Alike t.vm → H.size ≤ t.heap.size → (∀ q : Nat, q < H.size → t.heap[q]? = H[q]?) → XC cls s t)
    (hf : ∀ z ∈ locs, free z.base) (hc : cells + 1 ≤ mc) (hs : slots + 6 ≤ ms) :
    W p l e R s m args below meth c H locs cells slots (vx_MQ below Qc XC args s mc ms free) (F0 m pc ls rest) := by
  intro T hT X
  have htr : e.platform.stackTraces = false := (show e.platform.stackTraces = l.stackTraces by rw [X.admits.platform]).trans hl
  have Y := vx_rebase X (R' := { frames := R.frames, locals := R.locals, cells := 1, slots := 6 }) (Nat.le_refl _) (Nat.le_refl _) hRcells hRslots
  obtain ⟨s', hA⟩ : ∃ z, z = (T.setVm s.vm).setFrames (.invoking m args :: below) := ⟨_, rfl⟩
  rw [← hA] at Y
  have hvm : s'.vm = s.vm := by rw [hA]; rfl
  have hhp : s'.heap = H := by rw [hA]; exact hT
  have hW0 : s.WarmedH s'.vm := by rw [hvm]; exact State.WarmedH.refl s
  have hat' : ∀ w ∈ vx_atS own ic cls names, w.before args s' = true := fun w hw => vx_ot_at hW0 hvm.symm (hgood w (List.mem_cons_of_mem _ (List.mem_cons_of_mem _ hw))) (hat w hw)
  have hk' : (Cond.classLink own ik cls).before args s' = true := vx_ot_at hW0 hvm.symm (hgood _ List.mem_cons_self) hk
  have hini' : (Cond.initialized cls).before args s' = true := vx_ot_at hW0 hvm.symm (hgood _ (List.mem_cons_of_mem _ List.mem_cons_self)) hini
  have hU' : vx_Zq Bundle.tN "UNASSIGNED_STACK" Bundle.steD A s' s'.heap := by rw [hhp]; exact vx_Zq.moved hW0.alike (hU.kept hS.2.1)
  have hN' : vx_Zq Bundle.tN "SUPPRESSED_SENTINEL" Bundle.listD A s' s'.heap := by rw [hhp]; exact vx_Zq.moved hW0.alike (hN.kept hS.2.1)
  have h : ∀ w ∈ Bundle.ownAtoms own ic cls names, w.before args s' = true := vx_own hat' (vx_isRefq hU'.1) (vx_isRefq hN'.1) hU'.2.word hN'.2.word
  have hown' : s'.vm.findClass own = some m.cls := by rw [hvm]; exact hown
  have hins : (Cond.instantiable cls 6).before args s' = true := h _ (by simp [Bundle.ownAtoms])
  obtain ⟨vm₁, cX, kX, hfX, hkX, -, -, X₁, st1⟩ := Y.newCold hexec (own := own) (C := cls) (index := ik) (n := 6) hown' hk' hins hini'
    (g := F0 m pc ls rest) rfl (by rw [hb]; exact d0) (Nat.le_refl _) (Nat.le_refl _)
  generalize hT1 : (T.setVm vm₁).pushCell { cls := cX, slots := kX.instanceTypes.map defaultValue, vm := .none } = T1 at X₁ st1
  have hcat : (Value.ref T.heap.size).category = 1 := rfl
  have hcellA : T1.heap[T.heap.size]? = some (freshCell cX kX) := by rw [← hT1]; exact State.heap_pushCell_size _ _
  have d3' : decode c.code (pc + 3) = .ok (.dup, 1) := by rw [hb]; exact d3
  have d4' : decode c.code (pc + 4) = .ok (.ldc is, 2) := by rw [hb]; exact d4
  have hstr' : vk_R own is text sa s' := vk_R.warm hW0 hstr
  obtain ⟨U, hsteps, hrun, hend, hW, hsame, ce, hce, hO⟩ := X₁.ctorThrowS hexec htr (own := own) (cls := cls) (names := names) (ic := ic) hown' hcls hnames h (fun x hx => nomatch hx) hfX hkX hcellA (by rw [hhp, hT]; exact Nat.le_refl _) (msg := .ref sa) rfl
    (g := { method := m, pc := pc + 6, locals := ls, stack := .ref sa :: .ref T.heap.size :: .ref T.heap.size :: rest, locked := none }) rfl hsize rfl rfl (rest := rest) rfl
    (by rw [hb]; exact d6) (by rw [hb]; exact d9) hout hRframes (by simp only [List.map_cons, List.sum_cons, hcat]; omega) hlocks
  obtain ⟨f1, f2⟩ := vx_frame hsame
  rw [hhp] at f1 f2
  have hWs : s.WarmedH U.vm := State.WarmedH.trans hW0 hW
  have hcl : s.vm.findClass cls = some ce.cls := by
    have h9 := hO.cls
    rw [hvm] at h9
    exact h9
  have hall : s.sameButNew ({ U with vm := s.vm } : State) locs mc ms := by
    subst hA
    obtain ⟨e1, e2⟩ := hsame
    rw [State.setFrames_setFrames] at e1
    have h2 : (T.setVm s.vm).sameButNew ({ U with vm := s.vm } : State) [] (0 + 1) (0 + 6) := ⟨e1, e2⟩
    have h3 := X.same.trans h2
    rw [List.append_nil] at h3
    exact h3.mono hc hs
  refine ⟨U, ?_, .threw T.heap.size, hrun, hend, Or.inr ⟨T.heap.size, rfl, cls, ce, locs, hx U hWs.alike f1 (fun q hq => f2 q hq (fun z hz => nomatch hz)), hce, hO.vm, hcl, hWs, hall, hf⟩⟩
  refine st1 _ ?_
  show Steps p.tables e below (T1.setTop { method := m, pc := pc + 3, locals := ls, stack := .ref T.heap.size :: rest, locked := none }) _
  jvm_step X₁.here [X₁.here.top, hexec, d3', Value.category]
  exact X₁.ldcString hexec (own := own) (text := text) (index := is) (a := sa) hown' hstr'.1 hstr'.2
    (g := { method := m, pc := pc + 4, locals := ls, stack := .ref T.heap.size :: .ref T.heap.size :: rest, locked := none }) rfl d4' _ hsteps
/-- 'throw new E("text")', the text by a wide index -/
theorem vx_throwSW {cc : ByteArray} {pc : Nat} (hexec : p.tables.exec = Jvm.exec) (hb : c.code = cc) (hl : l.stackTraces = false) {own cls text : String} {names : List String} {ik is ic mc ms sa : Nat} {A : Nat → Prop}
    (hown : s.vm.findClass own = some m.cls) (hcls : Bundle.fit cls = true) (hnames : ∀ n ∈ names, Bundle.fit n = true)
    (hk : (Cond.classLink own ik cls).before args s = true) (hini : (Cond.initialized cls).before args s = true) (hstr : vk_R own is text sa s) (hat : ∀ w ∈ vx_atS own ic cls names, w.before args s = true)
    (hgood : ∀ w ∈ Cond.classLink own ik cls :: Cond.initialized cls :: vx_atS own ic cls names, vx_ot w = true)
    (hU : vx_Zq Bundle.tN "UNASSIGNED_STACK" Bundle.steD A s s.heap) (hN : vx_Zq Bundle.tN "SUPPRESSED_SENTINEL" Bundle.listD A s s.heap) (hS : va_S A s.heap H locs) (hsize : ls.size = c.maxLocals)
    (d0 : decode cc pc = .ok (.new ik, 3)) (d3 : decode cc (pc + 3) = .ok (.dup, 1)) (d4 : decode cc (pc + 4) = .ok (.ldc_w is, 3)) (d7 : decode cc (pc + 7) = .ok (.invokespecial ic, 3)) (d10 : decode cc (pc + 10) = .ok (.athrow, 1))
    (hout : ∀ x ∈ c.exceptionTable.toList, covers x (pc + 10) = false)
    (hRframes : names.length + 3 < R.frames) (hRlocals : (rest.map fun v => v.category).sum + (13 * (names.length + 1) + 43) ≤ R.locals) (hRcells : cells + 1 ≤ R.cells) (hRslots : slots + 6 ≤ R.slots) (hlocks : meth.locks = false)
    (hx : ∀ t : State, s.vm.Alike t.vm → H.size ≤ t.heap.size → (∀ q : Nat, q < H.size → t.heap[q]? = H[q]?) → XC cls s t)
    (hf : ∀ z ∈ locs, free z.base) (hc : cells + 1 ≤ mc) (hs : slots + 6 ≤ ms) :
    W p l e R s m args below meth c H locs cells slots (vx_MQ below Qc XC args s mc ms free) (F0 m pc ls rest) := by
  intro T hT X
  have htr : e.platform.stackTraces = false := (show e.platform.stackTraces = l.stackTraces by rw [X.admits.platform]).trans hl
  have Y := vx_rebase X (R' := { frames := R.frames, locals := R.locals, cells := 1, slots := 6 }) (Nat.le_refl _) (Nat.le_refl _) hRcells hRslots
  obtain ⟨s', hA⟩ : ∃ z, z = (T.setVm s.vm).setFrames (.invoking m args :: below) := ⟨_, rfl⟩
  rw [← hA] at Y
  have hvm : s'.vm = s.vm := by rw [hA]; rfl
  have hhp : s'.heap = H := by rw [hA]; exact hT
  have hW0 : s.WarmedH s'.vm := by rw [hvm]; exact State.WarmedH.refl s
  have hat' : ∀ w ∈ vx_atS own ic cls names, w.before args s' = true := fun w hw => vx_ot_at hW0 hvm.symm (hgood w (List.mem_cons_of_mem _ (List.mem_cons_of_mem _ hw))) (hat w hw)
  have hk' : (Cond.classLink own ik cls).before args s' = true := vx_ot_at hW0 hvm.symm (hgood _ List.mem_cons_self) hk
  have hini' : (Cond.initialized cls).before args s' = true := vx_ot_at hW0 hvm.symm (hgood _ (List.mem_cons_of_mem _ List.mem_cons_self)) hini
  have hU' : vx_Zq Bundle.tN "UNASSIGNED_STACK" Bundle.steD A s' s'.heap := by rw [hhp]; exact vx_Zq.moved hW0.alike (hU.kept hS.2.1)
  have hN' : vx_Zq Bundle.tN "SUPPRESSED_SENTINEL" Bundle.listD A s' s'.heap := by rw [hhp]; exact vx_Zq.moved hW0.alike (hN.kept hS.2.1)
  have h : ∀ w ∈ Bundle.ownAtoms own ic cls names, w.before args s' = true := vx_own hat' (vx_isRefq hU'.1) (vx_isRefq hN'.1) hU'.2.word hN'.2.word
  have hown' : s'.vm.findClass own = some m.cls := by rw [hvm]; exact hown
  have hins : (Cond.instantiable cls 6).before args s' = true := h _ (by simp [Bundle.ownAtoms])
  obtain ⟨vm₁, cX, kX, hfX, hkX, -, -, X₁, st1⟩ := Y.newCold hexec (own := own) (C := cls) (index := ik) (n := 6) hown' hk' hins hini'
    (g := F0 m pc ls rest) rfl (by rw [hb]; exact d0) (Nat.le_refl _) (Nat.le_refl _)
  generalize hT1 : (T.setVm vm₁).pushCell { cls := cX, slots := kX.instanceTypes.map defaultValue, vm := .none } = T1 at X₁ st1
  have hcat : (Value.ref T.heap.size).category = 1 := rfl
  have hcellA : T1.heap[T.heap.size]? = some (freshCell cX kX) := by rw [← hT1]; exact State.heap_pushCell_size _ _
  have d3' : decode c.code (pc + 3) = .ok (.dup, 1) := by rw [hb]; exact d3
  have d4' : decode c.code (pc + 4) = .ok (.ldc_w is, 3) := by rw [hb]; exact d4
  have hstr' : vk_R own is text sa s' := vk_R.warm hW0 hstr
  obtain ⟨U, hsteps, hrun, hend, hW, hsame, ce, hce, hO⟩ := X₁.ctorThrowS hexec htr (own := own) (cls := cls) (names := names) (ic := ic) hown' hcls hnames h (fun x hx => nomatch hx) hfX hkX hcellA (by rw [hhp, hT]; exact Nat.le_refl _) (msg := .ref sa) rfl
    (g := { method := m, pc := pc + 7, locals := ls, stack := .ref sa :: .ref T.heap.size :: .ref T.heap.size :: rest, locked := none }) rfl hsize rfl rfl (rest := rest) rfl
    (by rw [hb]; exact d7) (by rw [hb]; exact d10) hout hRframes (by simp only [List.map_cons, List.sum_cons, hcat]; omega) hlocks
  obtain ⟨f1, f2⟩ := vx_frame hsame
  rw [hhp] at f1 f2
  have hWs : s.WarmedH U.vm := State.WarmedH.trans hW0 hW
  have hcl : s.vm.findClass cls = some ce.cls := by
    have h9 := hO.cls
    rw [hvm] at h9
    exact h9
  have hall : s.sameButNew ({ U with vm := s.vm } : State) locs mc ms := by
    subst hA
    obtain ⟨e1, e2⟩ := hsame
    rw [State.setFrames_setFrames] at e1
    have h2 : (T.setVm s.vm).sameButNew ({ U with vm := s.vm } : State) [] (0 + 1) (0 + 6) := ⟨e1, e2⟩
    have h3 := X.same.trans h2
    rw [List.append_nil] at h3
    exact h3.mono hc hs
  refine ⟨U, ?_, .threw T.heap.size, hrun, hend, Or.inr ⟨T.heap.size, rfl, cls, ce, locs, hx U hWs.alike f1 (fun q hq => f2 q hq (fun z hz => nomatch hz)), hce, hO.vm, hcl, hWs, hall, hf⟩⟩
  refine st1 _ ?_
  show Steps p.tables e below (T1.setTop { method := m, pc := pc + 3, locals := ls, stack := .ref T.heap.size :: rest, locked := none }) _
  jvm_step X₁.here [X₁.here.top, hexec, d3', Value.category]
  exact X₁.ldcStringW hexec (own := own) (text := text) (index := is) (a := sa) hown' hstr'.1 hstr'.2
    (g := { method := m, pc := pc + 4, locals := ls, stack := .ref T.heap.size :: .ref T.heap.size :: rest, locked := none }) rfl d4' _ hsteps
end Ends
section Bodies
variable {l : Launch}
theorem vx_ofW {y : MethodName} {ws ws' : List Cond} {rm : Room} {Pc : Array Value → State → Prop} {Qc : Array Value → State → Outcome → State → Prop} {XC : String → State → State → Prop} {mc ms : Nat} {free : Addr → Prop} {cc : ByteArray} {maxL : Nat} {ret : Option FieldType}
    (hy : plainName y.cls = true) (hw : ws = Cond.code y cc maxL ret :: ws')
    (body : ∀ p e s m args below meth c s₁, BodyLoose p l y (headSpec ws rm) cc maxL ret e s m args below meth c s₁ → c.maxLocals = maxL → (∀ x ∈ c.exceptionTable.toList, False) → Pc args s →
      W p l e (headSpec ws rm).room s m args below meth c s.heap [] 0 0 (vx_MQ below Qc XC args s mc ms free) (entryFrame m args maxL)) : vx_Met l y ws rm Pc Qc XC mc ms free := by
  refine MetFree.of_bodyS (code := cc) (maxLocals := maxL) (ret := ret) hy ?_ ?_
  · intro args s m h hn
    obtain ⟨meth, c, h1, h2, h3, h4, h5, h6, -, -⟩ := Cond.code_spec hn (atoms_spec (ws := ws) h _ (by rw [hw]; exact List.mem_cons_self))
    exact ⟨meth, c, h1, h2, h3, h4, h5, h6⟩
  · intro p e s m args below meth c s₁ B hml hP _
    have hh0 : s₁.heap = s.heap := by rw [B.state]; rfl
    have ht : ∀ x ∈ c.exceptionTable.toList, False := by
      obtain ⟨meth9, c9, h1, h2, -, -, -, -, h7, -⟩ := Cond.code_spec B.named (atoms_spec (ws := ws) B.pre _ (by rw [hw]; exact List.mem_cons_self))
      cases Option.some.inj (h1.symm.trans B.method)
      cases Option.some.inj (h2.symm.trans (Stand.of_body B).code)
      intro x hx
      rw [Array.isEmpty_iff.mp h7] at hx
      cases hx
    obtain ⟨t, a1, o, b1, b2, b3⟩ := body p e s m args below meth c s₁ B hml ht hP s₁ hh0 (Stand.of_body B)
    exact ⟨t, o, a1, b1, b2, b3⟩
/-- the table of a body with handlers -/
theorem vx_table {p : Program} {x y : MethodName} {S : Spec} {cc bytes : ByteArray} {maxL maxL' : Nat} {ret ret' : Option FieldType} {e : Env} {s s₁ : State} {m : MethodId} {args : Array Value} {below : List Frame} {meth : Method} {c : Code} {hh : List (Nat × Nat × Nat × Nat)}
    (B : BodyLoose p l y S cc maxL ret e s m args below meth c s₁) (h : (Cond.codeWith y bytes maxL' ret' hh).before args s = true) : c.exceptionTable.toList = tableOf hh := by
  obtain ⟨m9, meth9, c9, hn9, h1, h2, -, -, h6, -⟩ := Cond.codeWith_spec h
  cases Option.some.inj (hn9.symm.trans B.named)
  cases Option.some.inj (h1.symm.trans B.method)
  cases Option.some.inj (h2.symm.trans (Stand.of_body B).code)
  rw [← h6, table_eq]
end Bodies
end VXA
/-! ===== END ===== -/
/-! ===== BEGIN a static call of a method with an exception table ===== -/
section VXS
variable {p : Program} {l : Launch} {e : Env} {R : Room} {s : State} {m : MethodId} {args : Array Value} {below : List Frame} {meth : Method} {c : Code} {T : State} {H : Heap} {locs : List Loc} {cells slots : Nat}
abbrev vx_CSW (R : Room) (s : State) (args : Array Value) (own : String) (index : Nat) (y : MethodName) (bytes : ByteArray) (maxL : Nat) (ret : Option FieldType) (hh : List (Nat × Nat × Nat × Nat)) (ws : List Cond) (rm : Room) (mc ms n : Nat) : Prop :=
  (rm.cells = mc ∧ rm.slots = ms ∧ rm.frames + 1 ≤ R.frames ∧ 8 + (maxL + 11) + rm.locals ≤ R.locals ∧ (∀ w ∈ ws, ∀ (a' : Array Value) (U : State), s.WarmedH U.vm → w.before a' U = true) ∧ Cond.codeWith y bytes maxL ret hh ∈ ws) ∧
  (Cond.codeWith y bytes maxL ret hh).before args s = true ∧ (Cond.initialized y.cls).before args s = true ∧ (y.cls ≠ "java/lang/invoke/MethodHandle" ∧ y.cls ≠ "java/lang/invoke/VarHandle") ∧
  (∀ sig, parseMethodDescriptor y.desc = some sig → n = sig.parameters.length) ∧ (Cond.methodLink own index y).before args s = true ∧ (Cond.static y).before args s = true
theorem vx_cwSW {own : String} {index maxL mc ms : Nat} {y : MethodName} {bytes : ByteArray} {ret : Option FieldType} {hh : List (Nat × Nat × Nat × Nat)} {Ts ws ws' : List Cond} {rm : Room} (n : Nat) (ht : ∀ w ∈ Ts, w.before args s = true) (hT : GoodIn Ts (va_wsS own index y ws)) (hw : ws = Cond.codeWith y bytes maxL ret hh :: ws') (hrc : rm.cells = mc) (hrs : rm.slots = ms)
    (hd : y.cls ≠ "java/lang/invoke/MethodHandle" ∧ y.cls ≠ "java/lang/invoke/VarHandle" ∧ (parseMethodDescriptor y.desc).map (fun d => d.parameters.length) = some n) (hR : rm.frames + 1 ≤ R.frames ∧ 8 + (maxL + 11) + rm.locals ≤ R.locals) :
    vx_CSW R s args own index y bytes maxL ret hh ws rm mc ms n := by
  have ok : ∀ w ∈ va_wsS own index y ws, w.before args s = true := fun w h => ht w (hT w h).1
  have hG : GoodIn Ts ws := fun w h => hT w (by unfold va_wsS; exact List.mem_append_right _ h)
  have hc : Cond.codeWith y bytes maxL ret hh ∈ ws := by rw [hw]; exact List.mem_cons_self
  refine ⟨⟨hrc, hrs, hR.1, hR.2, pay_in ht hG, hc⟩, ht _ (hG _ hc).1, ok _ (by simp [va_wsS]), ⟨hd.1, hd.2.1⟩, fun sig h => ?_, ok _ (by simp [va_wsS]), ok _ (by simp [va_wsS])⟩
  have h2 := hd.2.2
  rw [h] at h2
  exact (Option.some.inj h2).symm
theorem vx_callSW (X : Stand p l e R s m args below meth c T locs cells slots) (hexec : p.tables.exec = Jvm.exec) {own : String} {index : Nat} {y : MethodName} {bytes : ByteArray} {maxL : Nat} {ret : Option FieldType} {hh : List (Nat × Nat × Nat × Nat)}
    (hown : s.vm.findClass own = some m.cls) (hlink : (Cond.methodLink own index y).before args s = true) (hstat : (Cond.static y).before args s = true) (hinit : (Cond.initialized y.cls).before args s = true)
    (hcode : (Cond.codeWith y bytes maxL ret hh).before args s = true) (hy : y.cls ≠ "java/lang/invoke/MethodHandle" ∧ y.cls ≠ "java/lang/invoke/VarHandle")
    {W9 : Nat} {Pre : Pt → Array Value → Prop} {Post : Pt → Array Value → Option Value → Pt → Prop} (hK : Back l R p e below s args y 3 W9 Pre Post)
    {g : JFrame} (hg : g.method = m) (hsize : g.locals.size = c.maxLocals) {argsL rest : List Value} (hlen : ∀ sig, parseMethodDescriptor y.desc = some sig → argsL.length = sig.parameters.length)
    (hstack : g.stack = argsL.reverse ++ rest) (hW : 2 * g.monitorRoom + (rest.map fun v => v.category).sum ≤ W9) (hdg : decode c.code g.pc = .ok (.invokestatic index, 3))
    (hpre : ∀ vm₁, s.WarmedH vm₁ → Pre ⟨T.setVm vm₁, locs, cells, slots⟩ argsL.toArray) :
    ∃ (v : Option Value) (vm₁ : Vm) (B : Pt), s.WarmedH vm₁ ∧ Stand p l e R s m args below meth c B.U B.locs B.cells B.slots ∧ Post ⟨T.setVm vm₁, locs, cells, slots⟩ argsL.toArray v B ∧
      ∀ target, Steps p.tables e below (B.U.setTop { g with pc := g.pc + 3, stack := v.toList ++ rest }) target → Steps p.tables e below (T.setTop g) target := by
  obtain ⟨mk, methM, cM, hnamed, hmethM, -, -, -, -, -, -, hsigM⟩ := Cond.codeWith_spec hcode
  have hstatic : methM.isStatic = true := Cond.static_spec hnamed hmethM hstat
  obtain ⟨kP, hkP, -⟩ := className_of_methodNamed hnamed
  have hinitP : kP.init = .initialized := Cond.initialized_spec (findClass_of_methodNamed hnamed) hkP hinit
  obtain ⟨vm₁, X₁, hstep₁⟩ := X.invokestatic hexec hown hlink hnamed hmethM hstatic hkP hinitP hy (g := g) hg (argsL := argsL) (rest := rest) (hlen _ hsigM) hstack hdg
  obtain ⟨v, B, X', hpost, hsteps⟩ := hK m meth c ⟨T.setVm vm₁, locs, cells, slots⟩ { g with stack := rest } (.invokestatic index) mk argsL.toArray X₁ hg hsize hdg hW (X₁.named hnamed) (hpre vm₁ X₁.warmed)
  exact ⟨v, vm₁, B, X₁.warmed, X', hpost, fun target h => hstep₁ _ fun acts => by rw [doInvoke_state]; exact hsteps.trans h⟩
theorem vx_runSW {y : MethodName} {bytes cc : ByteArray} {maxL nL mc ms n index : Nat} {ret : Option FieldType} {hh : List (Nat × Nat × Nat × Nat)} {ws : List Cond} {rm : Room} {Pc : Array Value → State → Prop} {Qc : Array Value → State → Outcome → State → Prop} {free : Addr → Prop} {Ts : List Cond} {own : String} {As rest : List Value} {g : JFrame}
    (S : CallFix p m c cc nL s args Ts own) (hM : Met l y ws rm Pc Qc mc ms free) (cw : vx_CSW R s args own index y bytes maxL ret hh ws rm mc ms n) (hp : PreS s H Pc As)
    (hg : g.method = m) (hn : As.length = n) (hsize : g.locals.size = nL) (hstack : g.stack = As.reverse ++ rest) (hW : 2 * g.monitorRoom + (rest.map fun v => v.category).sum ≤ 8) (hdg : decode cc g.pc = .ok (.invokestatic index, 3)) (hf : cells + mc ≤ R.cells ∧ slots + ms ≤ R.slots) :
    va_Run p l e R s m args below meth c H locs cells slots mc ms g rest (Qc As.toArray) (free) := by
  obtain ⟨⟨hrc, hrs, hfr, hlo, hws, hcw⟩, hcode, hini, hy, hlen, hl, hstt⟩ := cw
  have hK : Back l R p e below s args y 3 8 (PreOf R mc ms Pc) (PostOf Qc mc ms free) := va_backW (hh := hh) (bytes := bytes) (maxL := maxL) (ret := ret) hM hp.1 hrc hrs hfr hlo hws hcw (fun a' U hW => word_at hW (Or.inl (by first | rfl | simp [Cond.onTables, Cond.keeps, Cond.steady])) hini)
  obtain ⟨hx, hb, hml, ho, -⟩ := S
  intro T hT X
  obtain ⟨v, vm₁, ⟨U', l2, c2, s2⟩, hW₁, X', ⟨g', mk, t, L, e1, e2, hq, h1, hL, h2, h3⟩, st⟩ := vx_callSW X hx (hh := hh) (bytes := bytes) (maxL := maxL) (ret := ret) ho hl hstt hini hcode hy hK hg (hsize.trans hml.symm) (argsL := As) (rest := rest) (fun sig h => hn.trans (hlen sig h)) hstack hW (by rw [hb]; exact hdg)
    (fun vm₁ hW₁ => ⟨hf.1, hf.2, hp.2 (T.setVm vm₁) hT hW₁⟩)
  dsimp only [Pt.U, Pt.locs, Pt.cells, Pt.slots] at X' e1 e2 h1 h2 h3 st
  subst h1; subst h2; subst h3
  exact ⟨v, (T.setVm vm₁).calling g' mk As.toArray, t, U', L, hT, X', hL, e1, e2, hq, st⟩
/-- a thing of a world lies in the heap -/
theorem vx_lt {D : va_G} {cl : List vw_C} {ws : va_W} {H1 : Heap} (h : va_P D cl ws H1) {k : Nat} {q : Nat × va_E} (hk : ws[k]? = some q) : q.1 < H1.size := (h k q hk).lt
end VXS
/-! ===== END ===== -/
/-! ===== BEGIN methods with a table of their own: called by a name, returning or throwing ===== -/
section VXH
/-! vx_backW, vx_callVX, vx_callSX, vx_callVW, vx_runVW, vx_runVX, vx_runSX, vx_ofWH follow the same proofs as their sisters above (Free/Laws.lean, Shelf42/LK1.lean); vx_outP calls Shelf42/NT130.lean (outThrough). -/
section
variable {l : Launch} {R : Room} {p : Program} {e : Env} {below : List Frame} {s : State} {sargs : Array Value} {y : MethodName} {len W9 : Nat}
theorem vx_backW {ws : List Cond} {rm : Room} {Pc : Array Value → State → Prop} {Qc : Array Value → State → Outcome → State → Prop} {XC : String → State → State → Prop} {mc ms : Nat} {free : Addr → Prop} {bytes : ByteArray} {maxL : Nat} {ret : Option FieldType} {hh : List (Nat × Nat × Nat × Nat)}
    (hM : vx_Met l y ws rm Pc Qc XC mc ms free) (hblind : FrameBlind Pc) (hrc : rm.cells = mc) (hrs : rm.slots = ms)
    (hframes : rm.frames + 1 ≤ R.frames) (hlocals : W9 + (maxL + 11) + rm.locals ≤ R.locals)
    (hws : ∀ w ∈ ws, ∀ a' U, s.WarmedH U.vm → w.before a' U = true) (hcode : Cond.codeWith y bytes maxL ret hh ∈ ws) (hinit : ∀ a' U, s.WarmedH U.vm → (Cond.initialized y.cls).before a' U = true) :
    vx_Back l R p e below s sargs y len W9 (PreOf R mc ms Pc) (PostOf Qc mc ms free) (vx_Post XC mc ms free) := by
  intro m meth c A g ig mk a X hg hsize hdg hW hn hp
  have h1 : (headSpec ws rm).pre.before a A.U = true := atoms_intro fun w hw => hws w hw _ _ X.warmed
  have h2 : (Cond.codeWith y bytes maxL ret hh).before a A.U = true := hws _ hcode _ _ X.warmed
  have h3 : (Cond.initialized y.cls).before a A.U = true := hinit _ _ X.warmed
  have h4 : A.cells + (headSpec ws rm).room.cells ≤ R.cells := by rw [show (headSpec ws rm).room.cells = mc from hrc]; exact hp.1
  have h5 : A.slots + (headSpec ws rm).room.slots ≤ R.slots := by rw [show (headSpec ws rm).room.slots = ms from hrs]; exact hp.2.1
  have hPc : Pc a (A.U.calling g mk a) := hblind _ _ _ _ hp.2.2
  obtain ⟨U, Ls, c0, s0⟩ := A
  dsimp only [Pt.U, Pt.locs, Pt.cells, Pt.slots] at h1 h2 h3 h4 h5 X hn hPc ⊢
  obtain ⟨m9, methY, cY, hn9, hmY, hcY, -, hlY, -⟩ := Cond.codeWith_spec h2
  cases Option.some.inj (hn9.symm.trans hn)
  obtain ⟨kY, hkY, -⟩ := className_of_methodNamed hn
  have hinitY : kY.init = .initialized := Cond.initialized_spec (findClass_of_methodNamed hn) hkY h3
  have h : At U g.method c below := by rw [hg]; exact X.here
  have hlocals9 : W9 + (maxL + 11) + (headSpec ws rm).room.locals ≤ R.locals := hlocals
  have happ : (headSpec ws rm).appliesLoose y e.platform (U.calling g mk a) = true :=
    Spec.appliesLoose_calling (g := g) h hdg hn hkY hinitY
      (X.room_calling (g := g) (R' := (headSpec ws rm).room) hsize hmY hcY hframes (by rw [hlY]; omega) h4 h5) h1
  obtain ⟨mid, hmid⟩ := h.above
  have hfr : (U.setTop g).frames = (.java g :: mid) ++ below := by rw [State.frames_setTop' g h.top, hmid]; rfl
  obtain ⟨o, s₂, hsteps, -, hend, hq⟩ := Steps.callFree hM p X.admits X.cas X.clock (acts := []) hfr happ hPc trivial
  have hq' : vx_Q Qc XC mc ms free a (U.calling g mk a) o s₂ := hq
  rw [State.frames_setTop' g h.top] at hend
  obtain ⟨g₀, hg0⟩ := Option.isSome_iff_exists.mp h.top
  obtain ⟨r, hr⟩ := State.topJava?_eq_some.mp hg0
  have hr' : (({ U with heap := s₂.heap, slotsUsed := s₂.slotsUsed } : State).setVm s₂.vm).frames = .java g₀ :: r := hr
  rcases hq' with ⟨hqc, L, hfe, hL⟩ | ⟨q, rfl, E, ce, L, hx, hce, hcv, hcl, hW₂, hsm, hL⟩
  · obtain ⟨⟨v, rfl⟩, hW₂, e2, q2, q3, q4, q5, q6⟩ := id hfe
    have e3 : s₂ = ({ (U.calling g mk a).setFrames s₂.frames with heap := s₂.heap, slotsUsed := s₂.slotsUsed } : State).setVm s₂.vm := by
      have : s₂ = ({ s₂ with vm := (U.calling g mk a).vm } : State).setVm s₂.vm := rfl
      rw [e2] at this
      exact this
    obtain ⟨c₂, i₂, len₂, hc₂, hd₂, hf₂⟩ := hend
    have hW' : U.WarmedH s₂.vm := hW₂
    have hcc : c₂ = c := by
      have h1 : s₂.code? g.method = U.code? g.method := by
        rw [State.code?_eq, State.code?_eq, hW'.alike.method?]
      exact Option.some.inj (hc₂.symm.trans (h1.trans h.code))
    subst hcc
    have hlen : len₂ = len := by rw [hdg] at hd₂; cases hd₂; rfl
    subst hlen
    have hs₂ : s₂ = (({ U with heap := s₂.heap, slotsUsed := s₂.slotsUsed } : State).setVm s₂.vm).setTop { g with pc := g.pc + len₂, stack := v.toList ++ g.stack } := by
      refine e3.trans ?_
      rw [hf₂, State.calling_eq h.top, State.setFrames_setFrames, State.setTop_of_frames _ hr', hr]
      rfl
    have hsame : U.sameButNew ({ U with heap := s₂.heap, slotsUsed := s₂.slotsUsed } : State) L mc ms := by
      refine ⟨?_, q2, q3, q4, q5, q6⟩
      obtain ⟨t, ht, -⟩ := State.frames_cons hr
      show ({ U with heap := s₂.heap, slotsUsed := s₂.slotsUsed } : State) = { U.setFrames U.frames with heap := s₂.heap, slotsUsed := s₂.slotsUsed }
      rw [State.setFrames_self ht]
    subst hg
    refine Or.inl ⟨v, ⟨(({ U with heap := s₂.heap, slotsUsed := s₂.slotsUsed } : State).setVm s₂.vm), Ls ++ L, c0 + mc, s0 + ms⟩,
      ⟨X.admits, X.cas, X.clock, X.frames, X.room, X.hears, X.method, X.code, (X.here.setHeapUsed s₂.heap s₂.slotsUsed).setVm hW'.alike, X.tail, State.WarmedH.trans X.warmed hW', X.limits, X.bytes, X.same.trans (hsame.setVm s.vm)⟩,
      ⟨g, mk, s₂, L, rfl, rfl, hqc, rfl, hL, rfl, rfl⟩, ?_⟩
    show Steps p.tables e below _ ((({ U with heap := s₂.heap, slotsUsed := s₂.slotsUsed } : State).setVm s₂.vm).setTop { g with pc := g.pc + len₂, stack := v.toList ++ g.stack })
    rw [← hs₂]
    exact hsteps
  · obtain ⟨e2, q2, q3, q4, q5, q6⟩ := id hsm
    have e3 : s₂ = ({ (U.calling g mk a).setFrames s₂.frames with heap := s₂.heap, slotsUsed := s₂.slotsUsed } : State).setVm s₂.vm := by
      have : s₂ = ({ s₂ with vm := (U.calling g mk a).vm } : State).setVm s₂.vm := rfl
      rw [e2] at this
      exact this
    have hf₂ : s₂.frames = .throwing q :: .java g :: U.frames.tail := hend
    have hW' : U.WarmedH s₂.vm := hW₂
    have hs₂ : s₂ = ((({ U with heap := s₂.heap, slotsUsed := s₂.slotsUsed } : State).setVm s₂.vm).setTop g).pushFrame (.throwing q) := by
      refine e3.trans ?_
      rw [hf₂, State.calling_eq h.top, State.setFrames_setFrames, State.pushFrame, State.frames_setTop _ hr', State.setTop_of_frames _ hr', State.setFrames_setFrames, hr]
      rfl
    have hsame : U.sameButNew ({ U with heap := s₂.heap, slotsUsed := s₂.slotsUsed } : State) L mc ms := by
      refine ⟨?_, q2, q3, q4, q5, q6⟩
      obtain ⟨t, ht, -⟩ := State.frames_cons hr
      show ({ U with heap := s₂.heap, slotsUsed := s₂.slotsUsed } : State) = { U.setFrames U.frames with heap := s₂.heap, slotsUsed := s₂.slotsUsed }
      rw [State.setFrames_self ht]
    subst hg
    refine Or.inr ⟨q, ⟨(({ U with heap := s₂.heap, slotsUsed := s₂.slotsUsed } : State).setVm s₂.vm), Ls ++ L, c0 + mc, s0 + ms⟩,
      ⟨X.admits, X.cas, X.clock, X.frames, X.room, X.hears, X.method, X.code, (X.here.setHeapUsed s₂.heap s₂.slotsUsed).setVm hW'.alike, X.tail, State.WarmedH.trans X.warmed hW', X.limits, X.bytes, X.same.trans (hsame.setVm s.vm)⟩,
      ⟨g, mk, s₂, L, E, ce, rfl, rfl, hx, hce, hcv, hcl, rfl, hL, rfl, rfl⟩, ?_⟩
    show Steps p.tables e below _ (((({ U with heap := s₂.heap, slotsUsed := s₂.slotsUsed } : State).setVm s₂.vm).setTop g).pushFrame (.throwing q))
    rw [← hs₂]
    exact hsteps
end
variable {p : Program} {l : Launch} {e : Env} {R : Room} {s : State} {m : MethodId} {args : Array Value} {below : List Frame} {meth : Method} {c : Code} {T : State} {H : Heap} {locs : List Loc} {cells slots : Nat}
theorem vx_callVX (X : Stand p l e R s m args below meth c T locs cells slots) (hexec : p.tables.exec = Jvm.exec) {own C : String} {index : Nat} {y : MethodName} {bytes : ByteArray} {maxL : Nat} {ret : Option FieldType} {hh : List (Nat × Nat × Nat × Nat)}
    (hown : s.vm.findClass own = some m.cls) (hlink : (Cond.methodLink own index y).before args s = true) (hinst : (Cond.instanceMethod y).before args s = true) (hsel : (Cond.selects C y y).before args s = true)
    (hcode : (Cond.codeWith y bytes maxL ret hh).before args s = true) (hy : y.cls ≠ "java/lang/invoke/MethodHandle" ∧ y.cls ≠ "java/lang/invoke/VarHandle")
    {W9 : Nat} {Pre : Pt → Array Value → Prop} {Post : Pt → Array Value → Option Value → Pt → Prop} {PostX : Pt → Array Value → Addr → Pt → Prop} (hK : vx_Back l R p e below s args y 3 W9 Pre Post PostX)
    {b : Addr} {cellB : Cell} (hcell : T.heap[b]? = some cellB) (hobj : cellB.vm.isStatics = false) (hcls : s.vm.findClass C = some cellB.cls)
    {g : JFrame} (hg : g.method = m) (hsize : g.locals.size = c.maxLocals) {argsL rest : List Value} (hlen : ∀ sig, parseMethodDescriptor y.desc = some sig → argsL.length = sig.parameters.length)
    (hstack : g.stack = argsL.reverse ++ .ref b :: rest) (hW : 2 * g.monitorRoom + (rest.map fun v => v.category).sum ≤ W9) (hdg : decode c.code g.pc = .ok (.invokevirtual index, 3))
    (hpre : ∀ vm₁, s.WarmedH vm₁ → Pre ⟨T.setVm vm₁, locs, cells, slots⟩ (Value.ref b :: argsL).toArray) :
    (∃ (v : Option Value) (vm₁ : Vm) (B : Pt), s.WarmedH vm₁ ∧ Stand p l e R s m args below meth c B.U B.locs B.cells B.slots ∧ Post ⟨T.setVm vm₁, locs, cells, slots⟩ (Value.ref b :: argsL).toArray v B ∧
      ∀ target, Steps p.tables e below (B.U.setTop { g with pc := g.pc + 3, stack := v.toList ++ rest }) target → Steps p.tables e below (T.setTop g) target) ∨
    (∃ (q : Addr) (vm₁ : Vm) (B : Pt), s.WarmedH vm₁ ∧ Stand p l e R s m args below meth c B.U B.locs B.cells B.slots ∧ PostX ⟨T.setVm vm₁, locs, cells, slots⟩ (Value.ref b :: argsL).toArray q B ∧
      Steps p.tables e below (T.setTop g) ((B.U.setTop { g with stack := rest }).pushFrame (.throwing q))) := by
  obtain ⟨mk, methM, hnamed, hmethM, hstM, habM⟩ := Cond.instanceMethod_spec hinst
  obtain ⟨m8, methM', cM, hn8, hmethM', -, -, -, -, -, -, hsigM⟩ := Cond.codeWith_spec hcode
  cases Option.some.inj (hn8.symm.trans hnamed)
  cases hmethM.symm.trans hmethM'
  obtain ⟨c2, r2, m2, q1, q2, q3, q4, kP, hkP, hkPi⟩ := Cond.selects_spec hsel
  cases hcls.symm.trans q1
  cases (State.methodFound?_of_named hnamed hy).symm.trans q2
  cases hnamed.symm.trans q3
  have hselP : selectMethod e.platform s.vm cellB.cls mk = .method mk := by rw [Launch.admits_selectMethod X.admits]; exact q4
  obtain ⟨vm₁, X₁, hstep₁⟩ := X.invokevirtual hexec hown hlink hnamed hmethM hstM hkP hkPi hy (a := b) (cell := cellB) hcell
    (fun z h => by rw [h] at hobj; cases hobj) hselP hmethM habM hkP hkPi (g := g) hg (argsL := argsL) (rest := rest) (hlen _ hsigM) hstack hdg
  rcases hK m meth c ⟨T.setVm vm₁, locs, cells, slots⟩ { g with stack := rest } (.invokevirtual index) mk (Value.ref b :: argsL).toArray X₁ hg hsize hdg hW (X₁.named hnamed) (hpre vm₁ X₁.warmed) with ⟨v, B, X', hpost, hsteps⟩ | ⟨q, B, X', hpost, hsteps⟩
  · exact Or.inl ⟨v, vm₁, B, X₁.warmed, X', hpost, fun target h => hstep₁ _ fun acts => by rw [doInvoke_state]; exact hsteps.trans h⟩
  · exact Or.inr ⟨q, vm₁, B, X₁.warmed, X', hpost, hstep₁ _ fun acts => by rw [doInvoke_state]; exact hsteps⟩
theorem vx_callSX (X : Stand p l e R s m args below meth c T locs cells slots) (hexec : p.tables.exec = Jvm.exec) {own : String} {index : Nat} {y : MethodName} {bytes : ByteArray} {maxL : Nat} {ret : Option FieldType} {hh : List (Nat × Nat × Nat × Nat)}
    (hown : s.vm.findClass own = some m.cls) (hlink : (Cond.methodLink own index y).before args s = true) (hstat : (Cond.static y).before args s = true) (hinit : (Cond.initialized y.cls).before args s = true)
    (hcode : (Cond.codeWith y bytes maxL ret hh).before args s = true) (hy : y.cls ≠ "java/lang/invoke/MethodHandle" ∧ y.cls ≠ "java/lang/invoke/VarHandle")
    {W9 : Nat} {Pre : Pt → Array Value → Prop} {Post : Pt → Array Value → Option Value → Pt → Prop} {PostX : Pt → Array Value → Addr → Pt → Prop} (hK : vx_Back l R p e below s args y 3 W9 Pre Post PostX)
    {g : JFrame} (hg : g.method = m) (hsize : g.locals.size = c.maxLocals) {argsL rest : List Value} (hlen : ∀ sig, parseMethodDescriptor y.desc = some sig → argsL.length = sig.parameters.length)
    (hstack : g.stack = argsL.reverse ++ rest) (hW : 2 * g.monitorRoom + (rest.map fun v => v.category).sum ≤ W9) (hdg : decode c.code g.pc = .ok (.invokestatic index, 3))
    (hpre : ∀ vm₁, s.WarmedH vm₁ → Pre ⟨T.setVm vm₁, locs, cells, slots⟩ argsL.toArray) :
    (∃ (v : Option Value) (vm₁ : Vm) (B : Pt), s.WarmedH vm₁ ∧ Stand p l e R s m args below meth c B.U B.locs B.cells B.slots ∧ Post ⟨T.setVm vm₁, locs, cells, slots⟩ argsL.toArray v B ∧
      ∀ target, Steps p.tables e below (B.U.setTop { g with pc := g.pc + 3, stack := v.toList ++ rest }) target → Steps p.tables e below (T.setTop g) target) ∨
    (∃ (q : Addr) (vm₁ : Vm) (B : Pt), s.WarmedH vm₁ ∧ Stand p l e R s m args below meth c B.U B.locs B.cells B.slots ∧ PostX ⟨T.setVm vm₁, locs, cells, slots⟩ argsL.toArray q B ∧
      Steps p.tables e below (T.setTop g) ((B.U.setTop { g with stack := rest }).pushFrame (.throwing q))) := by
  obtain ⟨mk, methM, cM, hnamed, hmethM, -, -, -, -, -, -, hsigM⟩ := Cond.codeWith_spec hcode
  have hstatic : methM.isStatic = true := Cond.static_spec hnamed hmethM hstat
  obtain ⟨kP, hkP, -⟩ := className_of_methodNamed hnamed
  have hinitP : kP.init = .initialized := Cond.initialized_spec (findClass_of_methodNamed hnamed) hkP hinit
  obtain ⟨vm₁, X₁, hstep₁⟩ := X.invokestatic hexec hown hlink hnamed hmethM hstatic hkP hinitP hy (g := g) hg (argsL := argsL) (rest := rest) (hlen _ hsigM) hstack hdg
  rcases hK m meth c ⟨T.setVm vm₁, locs, cells, slots⟩ { g with stack := rest } (.invokestatic index) mk argsL.toArray X₁ hg hsize hdg hW (X₁.named hnamed) (hpre vm₁ X₁.warmed) with ⟨v, B, X', hpost, hsteps⟩ | ⟨q, B, X', hpost, hsteps⟩
  · exact Or.inl ⟨v, vm₁, B, X₁.warmed, X', hpost, fun target h => hstep₁ _ fun acts => by rw [doInvoke_state]; exact hsteps.trans h⟩
  · exact Or.inr ⟨q, vm₁, B, X₁.warmed, X', hpost, hstep₁ _ fun acts => by rw [doInvoke_state]; exact hsteps⟩
theorem vx_callVW (X : Stand p l e R s m args below meth c T locs cells slots) (hexec : p.tables.exec = Jvm.exec) {own C : String} {index : Nat} {y : MethodName} {bytes : ByteArray} {maxL : Nat} {ret : Option FieldType} {hh : List (Nat × Nat × Nat × Nat)}
    (hown : s.vm.findClass own = some m.cls) (hlink : (Cond.methodLink own index y).before args s = true) (hinst : (Cond.instanceMethod y).before args s = true) (hsel : (Cond.selects C y y).before args s = true)
    (hcode : (Cond.codeWith y bytes maxL ret hh).before args s = true) (hy : y.cls ≠ "java/lang/invoke/MethodHandle" ∧ y.cls ≠ "java/lang/invoke/VarHandle")
    {W9 : Nat} {Pre : Pt → Array Value → Prop} {Post : Pt → Array Value → Option Value → Pt → Prop} (hK : Back l R p e below s args y 3 W9 Pre Post)
    {b : Addr} {cellB : Cell} (hcell : T.heap[b]? = some cellB) (hobj : cellB.vm.isStatics = false) (hcls : s.vm.findClass C = some cellB.cls)
    {g : JFrame} (hg : g.method = m) (hsize : g.locals.size = c.maxLocals) {argsL rest : List Value} (hlen : ∀ sig, parseMethodDescriptor y.desc = some sig → argsL.length = sig.parameters.length)
    (hstack : g.stack = argsL.reverse ++ .ref b :: rest) (hW : 2 * g.monitorRoom + (rest.map fun v => v.category).sum ≤ W9) (hdg : decode c.code g.pc = .ok (.invokevirtual index, 3))
    (hpre : ∀ vm₁, s.WarmedH vm₁ → Pre ⟨T.setVm vm₁, locs, cells, slots⟩ (Value.ref b :: argsL).toArray) :
    ∃ (v : Option Value) (vm₁ : Vm) (B : Pt), s.WarmedH vm₁ ∧ Stand p l e R s m args below meth c B.U B.locs B.cells B.slots ∧ Post ⟨T.setVm vm₁, locs, cells, slots⟩ (Value.ref b :: argsL).toArray v B ∧
      ∀ target, Steps p.tables e below (B.U.setTop { g with pc := g.pc + 3, stack := v.toList ++ rest }) target → Steps p.tables e below (T.setTop g) target := by
  obtain ⟨mk, methM, hnamed, hmethM, hstM, habM⟩ := Cond.instanceMethod_spec hinst
  obtain ⟨m8, methM', cM, hn8, hmethM', -, -, -, -, -, -, hsigM⟩ := Cond.codeWith_spec hcode
  cases Option.some.inj (hn8.symm.trans hnamed)
  cases hmethM.symm.trans hmethM'
  obtain ⟨c2, r2, m2, q1, q2, q3, q4, kP, hkP, hkPi⟩ := Cond.selects_spec hsel
  cases hcls.symm.trans q1
  cases (State.methodFound?_of_named hnamed hy).symm.trans q2
  cases hnamed.symm.trans q3
  have hselP : selectMethod e.platform s.vm cellB.cls mk = .method mk := by rw [Launch.admits_selectMethod X.admits]; exact q4
  obtain ⟨vm₁, X₁, hstep₁⟩ := X.invokevirtual hexec hown hlink hnamed hmethM hstM hkP hkPi hy (a := b) (cell := cellB) hcell
    (fun z h => by rw [h] at hobj; cases hobj) hselP hmethM habM hkP hkPi (g := g) hg (argsL := argsL) (rest := rest) (hlen _ hsigM) hstack hdg
  obtain ⟨v, B, X', hpost, hsteps⟩ := hK m meth c ⟨T.setVm vm₁, locs, cells, slots⟩ { g with stack := rest } (.invokevirtual index) mk (Value.ref b :: argsL).toArray X₁ hg hsize hdg hW (X₁.named hnamed) (hpre vm₁ X₁.warmed)
  exact ⟨v, vm₁, B, X₁.warmed, X', hpost, fun target h => hstep₁ _ fun acts => by rw [doInvoke_state]; exact hsteps.trans h⟩
abbrev vx_CVW (R : Room) (s : State) (args : Array Value) (own C : String) (index : Nat) (y : MethodName) (bytes : ByteArray) (maxL : Nat) (ret : Option FieldType) (hh : List (Nat × Nat × Nat × Nat)) (ws : List Cond) (rm : Room) (mc ms n : Nat) : Prop :=
  (rm.cells = mc ∧ rm.slots = ms ∧ rm.frames + 1 ≤ R.frames ∧ 8 + (maxL + 11) + rm.locals ≤ R.locals ∧ (∀ w ∈ ws, ∀ (a' : Array Value) (U : State), s.WarmedH U.vm → w.before a' U = true) ∧ Cond.codeWith y bytes maxL ret hh ∈ ws) ∧
  (Cond.codeWith y bytes maxL ret hh).before args s = true ∧ (Cond.initialized y.cls).before args s = true ∧ (y.cls ≠ "java/lang/invoke/MethodHandle" ∧ y.cls ≠ "java/lang/invoke/VarHandle") ∧
  (∀ sig, parseMethodDescriptor y.desc = some sig → n = sig.parameters.length) ∧ (Cond.methodLink own index y).before args s = true ∧ (Cond.instanceMethod y).before args s = true ∧ (Cond.selects C y y).before args s = true
theorem vx_cwVW {own C : String} {index maxL mc ms : Nat} {y : MethodName} {bytes : ByteArray} {ret : Option FieldType} {hh : List (Nat × Nat × Nat × Nat)} {Ts ws ws' : List Cond} {rm : Room} (n : Nat) (ht : ∀ w ∈ Ts, w.before args s = true) (hT : GoodIn Ts (wsV own index C y ws)) (hw : ws = Cond.codeWith y bytes maxL ret hh :: ws') (hrc : rm.cells = mc) (hrs : rm.slots = ms)
    (hd : y.cls = C ∧ y.cls ≠ "java/lang/invoke/MethodHandle" ∧ y.cls ≠ "java/lang/invoke/VarHandle" ∧ (parseMethodDescriptor y.desc).map (fun d => d.parameters.length) = some n) (hR : rm.frames + 1 ≤ R.frames ∧ 8 + (maxL + 11) + rm.locals ≤ R.locals) :
    vx_CVW R s args own C index y bytes maxL ret hh ws rm mc ms n := by
  obtain ⟨hC, hd⟩ := hd
  subst hC
  have ok : ∀ w ∈ wsV own index y.cls y ws, w.before args s = true := fun w h => ht w (hT w h).1
  have hG : GoodIn Ts ws := fun w h => hT w (by unfold wsV; exact List.mem_append_right _ h)
  have hc : Cond.codeWith y bytes maxL ret hh ∈ ws := by rw [hw]; exact List.mem_cons_self
  refine ⟨⟨hrc, hrs, hR.1, hR.2, pay_in ht hG, hc⟩, ht _ (hG _ hc).1, ok _ (by simp [wsV]), ⟨hd.1, hd.2.1⟩, fun sig h => ?_, ok _ (by simp [wsV]), ok _ (by simp [wsV]), ok _ (by simp [wsV])⟩
  have h2 := hd.2.2
  rw [h] at h2
  exact (Option.some.inj h2).symm
theorem vx_runVW {y : MethodName} {bytes cc : ByteArray} {maxL nL mc ms n index : Nat} {ret : Option FieldType} {hh : List (Nat × Nat × Nat × Nat)} {ws : List Cond} {rm : Room} {Pc : Array Value → State → Prop} {Qc : Array Value → State → Outcome → State → Prop} {free : Addr → Prop} {Ts : List Cond} {own C : String} {b : Addr} {As rest : List Value} {g : JFrame}
    (S : CallFix p m c cc nL s args Ts own) (hM : Met l y ws rm Pc Qc mc ms free) (cw : vx_CVW R s args own C index y bytes maxL ret hh ws rm mc ms n) (hp : PreV s H C b Pc As)
    (hg : g.method = m) (hn : As.length = n) (hsize : g.locals.size = nL) (hstack : g.stack = As.reverse ++ .ref b :: rest) (hW : 2 * g.monitorRoom + (rest.map fun v => v.category).sum ≤ 8) (hdg : decode cc g.pc = .ok (.invokevirtual index, 3)) (hf : cells + mc ≤ R.cells ∧ slots + ms ≤ R.slots) :
    va_Run p l e R s m args below meth c H locs cells slots mc ms g rest (Qc (Value.ref b :: As).toArray) free := by
  obtain ⟨⟨hrc, hrs, hfr, hlo, hws, hcw⟩, hcode, hini, hy, hlen, hl, hin, hse⟩ := cw
  have hK : Back l R p e below s args y 3 8 (PreOf R mc ms Pc) (PostOf Qc mc ms free) := va_backW (hh := hh) (bytes := bytes) (maxL := maxL) (ret := ret) hM hp.1 hrc hrs hfr hlo hws hcw (fun a' U hW => word_at hW (Or.inl (by first | rfl | simp [Cond.onTables, Cond.keeps, Cond.steady])) hini)
  obtain ⟨hx, hb, hml, ho, -⟩ := S
  obtain ⟨-, ⟨cellB, hcB, hoB, hclB⟩, hPc⟩ := hp
  intro T hT X
  obtain ⟨v, vm₁, ⟨U', l2, c2, s2⟩, hW₁, X', ⟨g', mk, t, L, e1, e2, hq, h1, hL, h2, h3⟩, st⟩ := vx_callVW X hx (C := C) (hh := hh) (bytes := bytes) (maxL := maxL) (ret := ret) ho hl hin hse hcode hy hK (by rw [hT]; exact hcB) hoB hclB hg (hsize.trans hml.symm) (argsL := As) (rest := rest) (fun sig h => hn.trans (hlen sig h)) hstack hW (by rw [hb]; exact hdg)
    (fun vm₁ hW₁ => ⟨hf.1, hf.2, hPc (T.setVm vm₁) hT hW₁⟩)
  dsimp only [Pt.U, Pt.locs, Pt.cells, Pt.slots] at X' e1 e2 h1 h2 h3 st
  subst h1; subst h2; subst h3
  exact ⟨v, (T.setVm vm₁).calling g' mk (Value.ref b :: As).toArray, t, U', L, hT, X', hL, e1, e2, hq, st⟩
section
variable {y : MethodName} {bytes cc : ByteArray} {maxL nL mc ms n index : Nat} {ret : Option FieldType} {ws : List Cond} {rm : Room} {Pc : Array Value → State → Prop} {Qc : Array Value → State → Outcome → State → Prop} {XC : String → State → State → Prop} {free : Addr → Prop} {Ts : List Cond} {own C : String} {b : Addr} {As rest : List Value} {g : JFrame}
theorem vx_runVX {hh : List (Nat × Nat × Nat × Nat)} (S : CallFix p m c cc nL s args Ts own) (hM : vx_Met l y ws rm Pc Qc XC mc ms free) (cw : vx_CVW R s args own C index y bytes maxL ret hh ws rm mc ms n) (hp : PreV s H C b Pc As)
    (hg : g.method = m) (hn : As.length = n) (hsize : g.locals.size = nL) (hstack : g.stack = As.reverse ++ .ref b :: rest) (hW : 2 * g.monitorRoom + (rest.map fun v => v.category).sum ≤ 8) (hdg : decode cc g.pc = .ok (.invokevirtual index, 3)) (hf : cells + mc ≤ R.cells ∧ slots + ms ≤ R.slots) :
    vx_Run p l e R s m args below meth c H locs cells slots mc ms g rest (Qc (Value.ref b :: As).toArray) XC free := by
  obtain ⟨⟨hrc, hrs, hfr, hlo, hws, hcw⟩, hcode, hini, hy, hlen, hl, hin, hse⟩ := cw
  have hK : vx_Back l R p e below s args y 3 8 (PreOf R mc ms Pc) (PostOf Qc mc ms free) (vx_Post XC mc ms free) := vx_backW (hh := hh) (bytes := bytes) (maxL := maxL) (ret := ret) hM hp.1 hrc hrs hfr hlo hws hcw (fun a' U hW => word_at hW (Or.inl (by first | rfl | simp [Cond.onTables, Cond.keeps, Cond.steady])) hini)
  obtain ⟨hx, hb, hml, ho, -⟩ := S
  obtain ⟨-, ⟨cellB, hcB, hoB, hclB⟩, hPc⟩ := hp
  intro T hT X
  rcases vx_callVX X hx (C := C) (hh := hh) (bytes := bytes) (maxL := maxL) (ret := ret) ho hl hin hse hcode hy hK (by rw [hT]; exact hcB) hoB hclB hg (hsize.trans hml.symm) (argsL := As) (rest := rest) (fun sig h => hn.trans (hlen sig h)) hstack hW (by rw [hb]; exact hdg)
    (fun vm₁ hW₁ => ⟨hf.1, hf.2, hPc (T.setVm vm₁) hT hW₁⟩) with ⟨v, vm₁, ⟨U', l2, c2, s2⟩, hW₁, X', ⟨g', mk, t, L, e1, e2, hq, h1, hL, h2, h3⟩, st⟩ | ⟨q, vm₁, ⟨U', l2, c2, s2⟩, hW₁, X', ⟨g', mk, t, L, E, ce, e1, e2, hq, hce, hcv, hcl, h1, hL, h2, h3⟩, st⟩
  · dsimp only [Pt.U, Pt.locs, Pt.cells, Pt.slots] at X' e1 e2 h1 h2 h3 st
    subst h1; subst h2; subst h3
    exact Or.inl ⟨v, (T.setVm vm₁).calling g' mk (Value.ref b :: As).toArray, t, U', L, hT, X', hL, e1, e2, hq, st⟩
  · dsimp only [Pt.U, Pt.locs, Pt.cells, Pt.slots] at X' e1 e2 h1 h2 h3 st hcl
    subst h1; subst h2; subst h3
    exact Or.inr ⟨q, (T.setVm vm₁).calling g' mk (Value.ref b :: As).toArray, t, U', L, E, ce, hT, X', hL, e1, e2, hq, hce, hcv, vx_cls hW₁ hcl, st⟩
theorem vx_runSX {hh : List (Nat × Nat × Nat × Nat)} (S : CallFix p m c cc nL s args Ts own) (hM : vx_Met l y ws rm Pc Qc XC mc ms free) (cw : vx_CSW R s args own index y bytes maxL ret hh ws rm mc ms n) (hp : PreS s H Pc As)
    (hg : g.method = m) (hn : As.length = n) (hsize : g.locals.size = nL) (hstack : g.stack = As.reverse ++ rest) (hW : 2 * g.monitorRoom + (rest.map fun v => v.category).sum ≤ 8) (hdg : decode cc g.pc = .ok (.invokestatic index, 3)) (hf : cells + mc ≤ R.cells ∧ slots + ms ≤ R.slots) :
    vx_Run p l e R s m args below meth c H locs cells slots mc ms g rest (Qc As.toArray) XC free := by
  obtain ⟨⟨hrc, hrs, hfr, hlo, hws, hcw⟩, hcode, hini, hy, hlen, hl, hstt⟩ := cw
  have hK : vx_Back l R p e below s args y 3 8 (PreOf R mc ms Pc) (PostOf Qc mc ms free) (vx_Post XC mc ms free) := vx_backW (hh := hh) (bytes := bytes) (maxL := maxL) (ret := ret) hM hp.1 hrc hrs hfr hlo hws hcw (fun a' U hW => word_at hW (Or.inl (by first | rfl | simp [Cond.onTables, Cond.keeps, Cond.steady])) hini)
  obtain ⟨hx, hb, hml, ho, -⟩ := S
  intro T hT X
  rcases vx_callSX X hx (hh := hh) (bytes := bytes) (maxL := maxL) (ret := ret) ho hl hstt hini hcode hy hK hg (hsize.trans hml.symm) (argsL := As) (rest := rest) (fun sig h => hn.trans (hlen sig h)) hstack hW (by rw [hb]; exact hdg)
    (fun vm₁ hW₁ => ⟨hf.1, hf.2, hp.2 (T.setVm vm₁) hT hW₁⟩) with ⟨v, vm₁, ⟨U', l2, c2, s2⟩, hW₁, X', ⟨g', mk, t, L, e1, e2, hq, h1, hL, h2, h3⟩, st⟩ | ⟨q, vm₁, ⟨U', l2, c2, s2⟩, hW₁, X', ⟨g', mk, t, L, E, ce, e1, e2, hq, hce, hcv, hcl, h1, hL, h2, h3⟩, st⟩
  · dsimp only [Pt.U, Pt.locs, Pt.cells, Pt.slots] at X' e1 e2 h1 h2 h3 st
    subst h1; subst h2; subst h3
    exact Or.inl ⟨v, (T.setVm vm₁).calling g' mk As.toArray, t, U', L, hT, X', hL, e1, e2, hq, st⟩
  · dsimp only [Pt.U, Pt.locs, Pt.cells, Pt.slots] at X' e1 e2 h1 h2 h3 st hcl
    subst h1; subst h2; subst h3
    exact Or.inr ⟨q, (T.setVm vm₁).calling g' mk As.toArray, t, U', L, E, ce, hT, X', hL, e1, e2, hq, hce, hcv, vx_cls hW₁ hcl, st⟩
end
end VXH
theorem vx_ofWH {l : Launch} {y : MethodName} {ws ws' : List Cond} {rm : Room} {Pc : Array Value → State → Prop} {Qc : Array Value → State → Outcome → State → Prop} {XC : String → State → State → Prop} {mc ms : Nat} {free : Addr → Prop} {cc : ByteArray} {maxL : Nat} {ret : Option FieldType} {hh : List (Nat × Nat × Nat × Nat)}
    (hy : plainName y.cls = true) (hw : ws = Cond.codeWith y cc maxL ret hh :: ws')
    (body : ∀ p e s m args below meth c s₁, BodyLoose p l y (headSpec ws rm) cc maxL ret e s m args below meth c s₁ → c.maxLocals = maxL → Pc args s →
      W p l e (headSpec ws rm).room s m args below meth c s.heap [] 0 0 (vx_MQ below Qc XC args s mc ms free) (entryFrame m args maxL)) : vx_Met l y ws rm Pc Qc XC mc ms free := by
  refine MetFree.of_bodyS (code := cc) (maxLocals := maxL) (ret := ret) hy ?_ ?_
  · intro args s m h hn
    obtain ⟨m9, meth, c, hn9, h1, h2, h3, h4, -, h5, h6, -⟩ := Cond.codeWith_spec (atoms_spec (ws := ws) h _ (by rw [hw]; exact List.mem_cons_self))
    cases hn.symm.trans hn9
    exact ⟨meth, c, h1, h2, h3, h4, h5, h6⟩
  · intro p e s m args below meth c s₁ B hml hP _
    have hh0 : s₁.heap = s.heap := by rw [B.state]; rfl
    obtain ⟨t, a1, o, b1, b2, b3⟩ := body p e s m args below meth c s₁ B hml hP s₁ hh0 (Stand.of_body B)
    exact ⟨t, o, a1, b1, b2, b3⟩
/-! ===== END ===== -/
end
section
/-! ===== BEGIN printed: names, fields, word lists, decode rows ===== -/
def RX0 : String := "SwingCircuits$Circuit"
def TX0 : u_T := fun k => match k with
  | 0 => ("SwingCircuits$Circuit", "cells", "I", false)
  | 1 => ("SwingCircuits$Circuit", "low", "[I", true)
  | 2 => ("SwingCircuits$Circuit", "high", "[I", true)
  | 3 => ("SwingCircuits$Circuit", "rise", "[I", true)
  | 4 => ("SwingCircuits$Circuit", "fall", "[I", true)
  | 5 => ("SwingCircuits$Circuit", "links", "I", false)
  | 6 => ("SwingCircuits$Circuit", "from", "[I", true)
  | 7 => ("SwingCircuits$Circuit", "at", "[I", true)
  | 8 => ("SwingCircuits$Circuit", "nth", "[I", true)
  | 9 => ("SwingCircuits$Circuit", "to", "[I", true)
  | 10 => ("SwingCircuits$Circuit", "act", "[I", true)
  | _ => ("SwingCircuits$Circuit", "by", "[I", true)
def tyX0 : Nat → FieldType := fun k => match k with
  | 0 => .int
  | 1 => .array .int
  | 2 => .array .int
  | 3 => .array .int
  | 4 => .array .int
  | 5 => .int
  | 6 => .array .int
  | 7 => .array .int
  | 8 => .array .int
  | 9 => .array .int
  | 10 => .array .int
  | _ => .array .int
abbrev wsX00 : List Cond := u_ws RX0 TX0 12
theorem nmX0 : ∀ a, a < 12 → ∀ b, b < 12 → a ≠ b → (TX0 a).2.1 ≠ (TX0 b).2.1 := by decide +kernel
theorem tyX0_ok : ∀ k, k < 12 → parseFieldDescriptor (TX0 k).2.2.1 = some (tyX0 k) := by decide +kernel
abbrev cX0_init : ByteArray := prog_2_method_1_code
def yX0_init : MethodName := ⟨RX0, "<init>", "()V"⟩
abbrev cX0_ratesOf : ByteArray := prog_2_method_2_code
def yX0_ratesOf : MethodName := ⟨RX0, "ratesOf", "(I)[I"⟩
abbrev cX0_span : ByteArray := prog_2_method_3_code
def yX0_span : MethodName := ⟨RX0, "span", "(I)I"⟩
def RX1 : String := "SwingCircuits$Swing"
def TX1 : u_T := fun k => match k with
  | 0 => ("SwingCircuits$Swing", "timeNum", "J", false)
  | 1 => ("SwingCircuits$Swing", "timeDen", "J", false)
  | 2 => ("SwingCircuits$Swing", "num", "[J", true)
  | 3 => ("SwingCircuits$Swing", "den", "[J", true)
  | 4 => ("SwingCircuits$Swing", "filling", "[Z", true)
  | 5 => ("SwingCircuits$Swing", "counts", "[I", true)
  | 6 => ("SwingCircuits$Swing", "turned", "I", false)
  | 7 => ("SwingCircuits$Swing", "side", "I", false)
  | 8 => ("SwingCircuits$Swing", "waitNum", "J", false)
  | _ => ("SwingCircuits$Swing", "waitDen", "J", false)
def tyX1 : Nat → FieldType := fun k => match k with
  | 0 => .long
  | 1 => .long
  | 2 => .array .long
  | 3 => .array .long
  | 4 => .array .boolean
  | 5 => .array .int
  | 6 => .int
  | 7 => .int
  | 8 => .long
  | _ => .long
abbrev wsX10 : List Cond := u_ws RX1 TX1 10
theorem nmX1 : ∀ a, a < 10 → ∀ b, b < 10 → a ≠ b → (TX1 a).2.1 ≠ (TX1 b).2.1 := by decide +kernel
theorem tyX1_ok : ∀ k, k < 10 → parseFieldDescriptor (TX1 k).2.2.1 = some (tyX1 k) := by decide +kernel
abbrev cX1_init : ByteArray := prog_3_method_1_code
def yX1_init : MethodName := ⟨RX1, "<init>", "()V"⟩
abbrev cX1_restart : ByteArray := prog_3_method_2_code
def yX1_restart : MethodName := ⟨RX1, "restart", "(LSwingCircuits$Circuit;)V"⟩
abbrev cX1_copyFrom : ByteArray := prog_3_method_3_code
def yX1_copyFrom : MethodName := ⟨RX1, "copyFrom", "(LSwingCircuits$Swing;)V"⟩
abbrev cX1_advance : ByteArray := prog_3_method_4_code
def yX1_advance : MethodName := ⟨RX1, "advance", "(LSwingCircuits$Circuit;)Z"⟩
abbrev cX1_chooseTurning : ByteArray := prog_3_method_5_code
def yX1_chooseTurning : MethodName := ⟨RX1, "chooseTurning", "(LSwingCircuits$Circuit;)V"⟩
abbrev cX1_letTimePass : ByteArray := prog_3_method_6_code
def yX1_letTimePass : MethodName := ⟨RX1, "letTimePass", "(LSwingCircuits$Circuit;)V"⟩
abbrev cX1_passOn : ByteArray := prog_3_method_7_code
def yX1_passOn : MethodName := ⟨RX1, "passOn", "(LSwingCircuits$Circuit;)V"⟩
abbrev cX1_doAct : ByteArray := prog_3_method_8_code
def yX1_doAct : MethodName := ⟨RX1, "doAct", "(LSwingCircuits$Circuit;I)V"⟩
abbrev cX1_keepBetweenBars : ByteArray := prog_3_method_9_code
def yX1_keepBetweenBars : MethodName := ⟨RX1, "keepBetweenBars", "(LSwingCircuits$Circuit;I)V"⟩
abbrev cX1_isSpent : ByteArray := prog_3_method_10_code
def yX1_isSpent : MethodName := ⟨RX1, "isSpent", "(LSwingCircuits$Circuit;)Z"⟩
abbrev cX1_isTooLong : ByteArray := prog_3_method_11_code
def yX1_isTooLong : MethodName := ⟨RX1, "isTooLong", "(JJ)Z"⟩
abbrev cX1_packedEvent : ByteArray := prog_3_method_12_code
def yX1_packedEvent : MethodName := ⟨RX1, "packedEvent", "()J"⟩
abbrev cX1_packedMarks : ByteArray := prog_3_method_13_code
def yX1_packedMarks : MethodName := ⟨RX1, "packedMarks", "()J"⟩
def RX2 : String := "SwingCircuits"
def TX2 : u_T := fun k => match k with
  | 0 => ("SwingCircuits", "circuit", "LSwingCircuits$Circuit;", true)
  | 1 => ("SwingCircuits", "now", "LSwingCircuits$Swing;", false)
  | 2 => ("SwingCircuits", "trial", "LSwingCircuits$Swing;", false)
  | 3 => ("SwingCircuits", "happened", "I", false)
  | 4 => ("SwingCircuits", "tops", "[I", true)
  | 5 => ("SwingCircuits", "bottoms", "[I", true)
  | 6 => ("SwingCircuits", "kept", "[J", true)
  | 7 => ("SwingCircuits", "trail", "[J", true)
  | 8 => ("SwingCircuits", "ringAnswers", "[J", true)
  | 9 => ("SwingCircuits", "ringFound", "Z", false)
  | 10 => ("SwingCircuits", "stock", "[I", true)
  | 11 => ("SwingCircuits", "stocked", "I", false)
  | 12 => ("SwingCircuits", "measuredNum", "[I", true)
  | 13 => ("SwingCircuits", "measuredDen", "[I", true)
  | 14 => ("SwingCircuits", "measures", "I", false)
  | 15 => ("SwingCircuits", "waysFound", "[I", true)
  | _ => ("SwingCircuits", "faultsFound", "[I", true)
def tyX2 : Nat → FieldType := fun k => match k with
  | 0 => .object "SwingCircuits$Circuit"
  | 1 => .object "SwingCircuits$Swing"
  | 2 => .object "SwingCircuits$Swing"
  | 3 => .int
  | 4 => .array .int
  | 5 => .array .int
  | 6 => .array .long
  | 7 => .array .long
  | 8 => .array .long
  | 9 => .boolean
  | 10 => .array .int
  | 11 => .int
  | 12 => .array .int
  | 13 => .array .int
  | 14 => .int
  | 15 => .array .int
  | _ => .array .int
abbrev wsX20 : List Cond := u_ws RX2 TX2 17
theorem nmX2 : ∀ a, a < 17 → ∀ b, b < 17 → a ≠ b → (TX2 a).2.1 ≠ (TX2 b).2.1 := by decide +kernel
theorem tyX2_ok : ∀ k, k < 17 → parseFieldDescriptor (TX2 k).2.2.1 = some (tyX2 k) := by decide +kernel
abbrev cX2_init : ByteArray := prog_1_method_1_code
def yX2_init : MethodName := ⟨RX2, "<init>", "()V"⟩
abbrev cX2_cell : ByteArray := prog_1_method_2_code
def yX2_cell : MethodName := ⟨RX2, "cell", "(IIII)I"⟩
abbrev cX2_link : ByteArray := prog_1_method_3_code
def yX2_link : MethodName := ⟨RX2, "link", "(IIIIII)I"⟩
abbrev cX2_clear : ByteArray := prog_1_method_4_code
def yX2_clear : MethodName := ⟨RX2, "clear", "()I"⟩
abbrev cX2_reset : ByteArray := prog_1_method_5_code
def yX2_reset : MethodName := ⟨RX2, "reset", "()I"⟩
abbrev cX2_set : ByteArray := prog_1_method_6_code
def yX2_set : MethodName := ⟨RX2, "set", "(III)I"⟩
abbrev cX2_run : ByteArray := prog_1_method_7_code
def yX2_run : MethodName := ⟨RX2, "run", "(I)I"⟩
abbrev cX2_count : ByteArray := prog_1_method_8_code
def yX2_count : MethodName := ⟨RX2, "count", "(I)I"⟩
abbrev cX2_of : ByteArray := prog_1_method_9_code
def yX2_of : MethodName := ⟨RX2, "of", "(II)I"⟩
abbrev cX2_counted : ByteArray := prog_1_method_10_code
def yX2_counted : MethodName := ⟨RX2, "counted", "(I)I"⟩
abbrev cX2_event : ByteArray := prog_1_method_11_code
def yX2_event : MethodName := ⟨RX2, "event", "(II)I"⟩
abbrev cX2_ring : ByteArray := prog_1_method_12_code
def yX2_ring : MethodName := ⟨RX2, "ring", "(I)I"⟩
abbrev cX2_ringed : ByteArray := prog_1_method_13_code
def yX2_ringed : MethodName := ⟨RX2, "ringed", "(I)J"⟩
abbrev cX2_drawer : ByteArray := prog_1_method_14_code
def yX2_drawer : MethodName := ⟨RX2, "drawer", "(I)I"⟩
abbrev cX2_parts : ByteArray := prog_1_method_15_code
def yX2_parts : MethodName := ⟨RX2, "parts", "(III)I"⟩
abbrev cX2_part : ByteArray := prog_1_method_16_code
def yX2_part : MethodName := ⟨RX2, "part", "(IIII)I"⟩
abbrev cX2_measure : ByteArray := prog_1_method_17_code
def yX2_measure : MethodName := ⟨RX2, "measure", "(II)I"⟩
abbrev cX2_forget : ByteArray := prog_1_method_18_code
def yX2_forget : MethodName := ⟨RX2, "forget", "()I"⟩
abbrev cX2_faults : ByteArray := prog_1_method_19_code
def yX2_faults : MethodName := ⟨RX2, "faults", "(I)I"⟩
abbrev cX2_fault : ByteArray := prog_1_method_20_code
def yX2_fault : MethodName := ⟨RX2, "fault", "(II)I"⟩
abbrev cX2_fits : ByteArray := prog_1_method_21_code
def yX2_fits : MethodName := ⟨RX2, "fits", "(I)I"⟩
abbrev cX2_isCell : ByteArray := prog_1_method_22_code
def yX2_isCell : MethodName := ⟨RX2, "isCell", "(I)Z"⟩
abbrev cX2_isRate : ByteArray := prog_1_method_23_code
def yX2_isRate : MethodName := ⟨RX2, "isRate", "(I)Z"⟩
abbrev cX2_isTerm : ByteArray := prog_1_method_24_code
def yX2_isTerm : MethodName := ⟨RX2, "isTerm", "(I)Z"⟩
abbrev cX2_isAct : ByteArray := prog_1_method_25_code
def yX2_isAct : MethodName := ⟨RX2, "isAct", "(II)Z"⟩
abbrev cX2_isStocked : ByteArray := prog_1_method_26_code
def yX2_isStocked : MethodName := ⟨RX2, "isStocked", "(I)Z"⟩
abbrev cX2_startAgain : ByteArray := prog_1_method_27_code
def yX2_startAgain : MethodName := ⟨RX2, "startAgain", "()V"⟩
abbrev cX2_noteEvent : ByteArray := prog_1_method_28_code
def yX2_noteEvent : MethodName := ⟨RX2, "noteEvent", "()V"⟩
abbrev cX2_isNextSpent : ByteArray := prog_1_method_29_code
def yX2_isNextSpent : MethodName := ⟨RX2, "isNextSpent", "()Z"⟩
abbrev cX2_writeTrail : ByteArray := prog_1_method_30_code
def yX2_writeTrail : MethodName := ⟨RX2, "writeTrail", "(I)V"⟩
abbrev cX2_sameAhead : ByteArray := prog_1_method_31_code
def yX2_sameAhead : MethodName := ⟨RX2, "sameAhead", "(I)I"⟩
abbrev cX2_isSameState : ByteArray := prog_1_method_32_code
def yX2_isSameState : MethodName := ⟨RX2, "isSameState", "(II)Z"⟩
abbrev cX2_keepRing : ByteArray := prog_1_method_33_code
def yX2_keepRing : MethodName := ⟨RX2, "keepRing", "(II)V"⟩
abbrev cX2_eventInRow : ByteArray := prog_1_method_34_code
def yX2_eventInRow : MethodName := ⟨RX2, "eventInRow", "(I)J"⟩
abbrev cX2_beatTerm : ByteArray := prog_1_method_35_code
def yX2_beatTerm : MethodName := ⟨RX2, "beatTerm", "(IZ)I"⟩
abbrev cX2_findWays : ByteArray := prog_1_method_36_code
def yX2_findWays : MethodName := ⟨RX2, "findWays", "(IJJ)I"⟩
abbrev cX2_findFaults : ByteArray := prog_1_method_37_code
def yX2_findFaults : MethodName := ⟨RX2, "findFaults", "(I)I"⟩
abbrev cX2_isMeasuredSo : ByteArray := prog_1_method_38_code
def yX2_isMeasuredSo : MethodName := ⟨RX2, "isMeasuredSo", "(I)Z"⟩
abbrev cX2_isMeasure : ByteArray := prog_1_method_39_code
def yX2_isMeasure : MethodName := ⟨RX2, "isMeasure", "(IJJ)Z"⟩
abbrev cX2_commonOf : ByteArray := prog_1_method_40_code
def yX2_commonOf : MethodName := ⟨RX2, "commonOf", "(JJ)J"⟩
abbrev cX2_packed : ByteArray := prog_1_method_41_code
def yX2_packed : MethodName := ⟨RX2, "packed", "(JJ)J"⟩
abbrev cX2_turnedIn : ByteArray := prog_1_method_42_code
def yX2_turnedIn : MethodName := ⟨RX2, "turnedIn", "(J)I"⟩
abbrev cX2_sideIn : ByteArray := prog_1_method_43_code
def yX2_sideIn : MethodName := ⟨RX2, "sideIn", "(J)I"⟩
abbrev cX2_timeNumIn : ByteArray := prog_1_method_44_code
def yX2_timeNumIn : MethodName := ⟨RX2, "timeNumIn", "(J)J"⟩
abbrev cX2_timeDenIn : ByteArray := prog_1_method_45_code
def yX2_timeDenIn : MethodName := ⟨RX2, "timeDenIn", "(J)J"⟩
abbrev cX2_betweenNum : ByteArray := prog_1_method_46_code
def yX2_betweenNum : MethodName := ⟨RX2, "betweenNum", "(JJ)J"⟩
abbrev cX2_betweenDen : ByteArray := prog_1_method_47_code
def yX2_betweenDen : MethodName := ⟨RX2, "betweenDen", "(JJ)J"⟩
def RX3 : String := "SwingCircuitsModel"
def TX3 : u_T := fun k => match k with
  | 0 => ("SwingCircuitsModel", "low", "[I", true)
  | 1 => ("SwingCircuitsModel", "high", "[I", true)
  | 2 => ("SwingCircuitsModel", "rise", "[I", true)
  | 3 => ("SwingCircuitsModel", "fall", "[I", true)
  | 4 => ("SwingCircuitsModel", "cells", "I", false)
  | 5 => ("SwingCircuitsModel", "links", "[I", true)
  | 6 => ("SwingCircuitsModel", "linkMany", "I", false)
  | 7 => ("SwingCircuitsModel", "now", "[J", true)
  | 8 => ("SwingCircuitsModel", "before", "[J", true)
  | 9 => ("SwingCircuitsModel", "aside", "[J", true)
  | 10 => ("SwingCircuitsModel", "logCell", "[I", true)
  | 11 => ("SwingCircuitsModel", "logAt", "[I", true)
  | 12 => ("SwingCircuitsModel", "logNum", "[J", true)
  | 13 => ("SwingCircuitsModel", "logDen", "[J", true)
  | 14 => ("SwingCircuitsModel", "isLogged", "Z", false)
  | 15 => ("SwingCircuitsModel", "states", "[J", true)
  | 16 => ("SwingCircuitsModel", "wasRing", "Z", false)
  | 17 => ("SwingCircuitsModel", "ringed", "[J", true)
  | 18 => ("SwingCircuitsModel", "drawer", "[I", true)
  | 19 => ("SwingCircuitsModel", "drawn", "I", false)
  | 20 => ("SwingCircuitsModel", "measuredNum", "[J", true)
  | 21 => ("SwingCircuitsModel", "measuredDen", "[J", true)
  | 22 => ("SwingCircuitsModel", "measured", "I", false)
  | 23 => ("SwingCircuitsModel", "thrown", "I", false)
  | 24 => ("SwingCircuitsModel", "num", "J", false)
  | 25 => ("SwingCircuitsModel", "den", "J", false)
  | 26 => ("SwingCircuitsModel", "nextCell", "I", false)
  | _ => ("SwingCircuitsModel", "nextAt", "I", false)
def tyX3 : Nat → FieldType := fun k => match k with
  | 0 => .array .int
  | 1 => .array .int
  | 2 => .array .int
  | 3 => .array .int
  | 4 => .int
  | 5 => .array .int
  | 6 => .int
  | 7 => .array .long
  | 8 => .array .long
  | 9 => .array .long
  | 10 => .array .int
  | 11 => .array .int
  | 12 => .array .long
  | 13 => .array .long
  | 14 => .boolean
  | 15 => .array .long
  | 16 => .boolean
  | 17 => .array .long
  | 18 => .array .int
  | 19 => .int
  | 20 => .array .long
  | 21 => .array .long
  | 22 => .int
  | 23 => .int
  | 24 => .long
  | 25 => .long
  | 26 => .int
  | _ => .int
abbrev wsX30 : List Cond := u_ws RX3 TX3 28
theorem nmX3 : ∀ a, a < 28 → ∀ b, b < 28 → a ≠ b → (TX3 a).2.1 ≠ (TX3 b).2.1 := by decide +kernel
theorem tyX3_ok : ∀ k, k < 28 → parseFieldDescriptor (TX3 k).2.2.1 = some (tyX3 k) := by decide +kernel
abbrev cX3_init : ByteArray := prog_5_method_1_code
def yX3_init : MethodName := ⟨RX3, "<init>", "()V"⟩
abbrev cX3_thrown : ByteArray := prog_5_method_2_code
def yX3_thrown : MethodName := ⟨RX3, "thrown", "()I"⟩
abbrev cX3_in : ByteArray := prog_5_method_3_code
def yX3_in : MethodName := ⟨RX3, "in", "(III)Z"⟩
abbrev cX3_isCell : ByteArray := prog_5_method_4_code
def yX3_isCell : MethodName := ⟨RX3, "isCell", "(I)Z"⟩
abbrev cX3_common : ByteArray := prog_5_method_5_code
def yX3_common : MethodName := ⟨RX3, "common", "(JJ)J"⟩
abbrev cX3_make : ByteArray := prog_5_method_6_code
def yX3_make : MethodName := ⟨RX3, "make", "(JJ)V"⟩
abbrev cX3_store : ByteArray := prog_5_method_7_code
def yX3_store : MethodName := ⟨RX3, "store", "(I)V"⟩
abbrev cX3_resetAll : ByteArray := prog_5_method_8_code
def yX3_resetAll : MethodName := ⟨RX3, "resetAll", "()V"⟩
abbrev cX3_cell : ByteArray := prog_5_method_9_code
def yX3_cell : MethodName := ⟨RX3, "cell", "(IIII)I"⟩
abbrev cX3_link : ByteArray := prog_5_method_10_code
def yX3_link : MethodName := ⟨RX3, "link", "(IIIIII)I"⟩
abbrev cX3_clear : ByteArray := prog_5_method_11_code
def yX3_clear : MethodName := ⟨RX3, "clear", "()I"⟩
abbrev cX3_reset : ByteArray := prog_5_method_12_code
def yX3_reset : MethodName := ⟨RX3, "reset", "()I"⟩
abbrev cX3_set : ByteArray := prog_5_method_13_code
def yX3_set : MethodName := ⟨RX3, "set", "(III)I"⟩
abbrev cX3_copy : ByteArray := prog_5_method_14_code
def yX3_copy : MethodName := ⟨RX3, "copy", "([J[J)V"⟩
abbrev cX3_isFilling : ByteArray := prog_5_method_15_code
def yX3_isFilling : MethodName := ⟨RX3, "isFilling", "(I)Z"⟩
abbrev cX3_waitOf : ByteArray := prog_5_method_16_code
def yX3_waitOf : MethodName := ⟨RX3, "waitOf", "(I)V"⟩
abbrev cX3_isOver : ByteArray := prog_5_method_17_code
def yX3_isOver : MethodName := ⟨RX3, "isOver", "(JJ)Z"⟩
abbrev cX3_isSpent : ByteArray := prog_5_method_18_code
def yX3_isSpent : MethodName := ⟨RX3, "isSpent", "()Z"⟩
abbrev cX3_step : ByteArray := prog_5_method_19_code
def yX3_step : MethodName := ⟨RX3, "step", "()Z"⟩
abbrev cX3_act : ByteArray := prog_5_method_20_code
def yX3_act : MethodName := ⟨RX3, "act", "(I)V"⟩
abbrev cX3_run : ByteArray := prog_5_method_21_code
def yX3_run : MethodName := ⟨RX3, "run", "(I)I"⟩
abbrev cX3_wouldBeSpent : ByteArray := prog_5_method_22_code
def yX3_wouldBeSpent : MethodName := ⟨RX3, "wouldBeSpent", "()Z"⟩
abbrev cX3_count : ByteArray := prog_5_method_23_code
def yX3_count : MethodName := ⟨RX3, "count", "(I)I"⟩
abbrev cX3_beat : ByteArray := prog_5_method_24_code
def yX3_beat : MethodName := ⟨RX3, "beat", "(III)V"⟩
abbrev cX3_of : ByteArray := prog_5_method_25_code
def yX3_of : MethodName := ⟨RX3, "of", "(II)I"⟩
abbrev cX3_counted : ByteArray := prog_5_method_26_code
def yX3_counted : MethodName := ⟨RX3, "counted", "(I)I"⟩
abbrev cX3_event : ByteArray := prog_5_method_27_code
def yX3_event : MethodName := ⟨RX3, "event", "(II)I"⟩
abbrev cX3_areAlike : ByteArray := prog_5_method_28_code
def yX3_areAlike : MethodName := ⟨RX3, "areAlike", "(II)Z"⟩
abbrev cX3_keep : ByteArray := prog_5_method_29_code
def yX3_keep : MethodName := ⟨RX3, "keep", "(I)V"⟩
abbrev cX3_seek : ByteArray := prog_5_method_30_code
def yX3_seek : MethodName := ⟨RX3, "seek", "(I)I"⟩
abbrev cX3_tell : ByteArray := prog_5_method_31_code
def yX3_tell : MethodName := ⟨RX3, "tell", "(II)V"⟩
abbrev cX3_ring : ByteArray := prog_5_method_32_code
def yX3_ring : MethodName := ⟨RX3, "ring", "(I)I"⟩
abbrev cX3_ringed : ByteArray := prog_5_method_33_code
def yX3_ringed : MethodName := ⟨RX3, "ringed", "(I)J"⟩
abbrev cX3_drawer : ByteArray := prog_5_method_34_code
def yX3_drawer : MethodName := ⟨RX3, "drawer", "(I)I"⟩
abbrev cX3_isFraction : ByteArray := prog_5_method_35_code
def yX3_isFraction : MethodName := ⟨RX3, "isFraction", "(II)Z"⟩
abbrev cX3_ways : ByteArray := prog_5_method_36_code
def yX3_ways : MethodName := ⟨RX3, "ways", "(IIII)I"⟩
abbrev cX3_parts : ByteArray := prog_5_method_37_code
def yX3_parts : MethodName := ⟨RX3, "parts", "(III)I"⟩
abbrev cX3_part : ByteArray := prog_5_method_38_code
def yX3_part : MethodName := ⟨RX3, "part", "(IIII)I"⟩
abbrev cX3_measure : ByteArray := prog_5_method_39_code
def yX3_measure : MethodName := ⟨RX3, "measure", "(II)I"⟩
abbrev cX3_forget : ByteArray := prog_5_method_40_code
def yX3_forget : MethodName := ⟨RX3, "forget", "()I"⟩
abbrev cX3_isSo : ByteArray := prog_5_method_41_code
def yX3_isSo : MethodName := ⟨RX3, "isSo", "(I)Z"⟩
abbrev cX3_explains : ByteArray := prog_5_method_42_code
def yX3_explains : MethodName := ⟨RX3, "explains", "(IIII)Z"⟩
abbrev cX3_explaining : ByteArray := prog_5_method_43_code
def yX3_explaining : MethodName := ⟨RX3, "explaining", "(II)I"⟩
abbrev cX3_faults : ByteArray := prog_5_method_44_code
def yX3_faults : MethodName := ⟨RX3, "faults", "(I)I"⟩
abbrev cX3_fault : ByteArray := prog_5_method_45_code
def yX3_fault : MethodName := ⟨RX3, "fault", "(II)I"⟩
abbrev cX3_fits : ByteArray := prog_5_method_46_code
def yX3_fits : MethodName := ⟨RX3, "fits", "(I)I"⟩
def RJ9 : String := "java/lang/Math"
def TJ9 : u_T := fun k => match k with
  | _ => ("", "", "", false)
def tyJ9 : Nat → FieldType := fun k => match k with
  | _ => .int
abbrev wsJ90 : List Cond := u_ws RJ9 TJ9 0
theorem nmJ9 : ∀ a, a < 0 → ∀ b, b < 0 → a ≠ b → (TJ9 a).2.1 ≠ (TJ9 b).2.1 := by decide +kernel
theorem tyJ9_ok : ∀ k, k < 0 → parseFieldDescriptor (TJ9 k).2.2.1 = some (tyJ9 k) := by decide +kernel
abbrev cJ9_abs_067f4 : ByteArray := prog_7_method_61_code
def yJ9_abs_067f4 : MethodName := ⟨RJ9, "abs", "(J)J"⟩
def RJ0 : String := "java/lang/String"
def TJ0 : u_T := fun k => match k with
  | _ => ("", "", "", false)
def tyJ0 : Nat → FieldType := fun k => match k with
  | _ => .int
abbrev wsJ00 : List Cond := u_ws RJ0 TJ0 0
theorem nmJ0 : ∀ a, a < 0 → ∀ b, b < 0 → a ≠ b → (TJ0 a).2.1 ≠ (TJ0 b).2.1 := by decide +kernel
theorem tyJ0_ok : ∀ k, k < 0 → parseFieldDescriptor (TJ0 k).2.2.1 = some (tyJ0 k) := by decide +kernel
def RL : String := "SwingCircuitsLaw"
abbrev cL_of : ByteArray := method_3_code
def yL_of : MethodName := ⟨RL, "of", "(LSwingCircuits;II[J)I"⟩
abbrev cL_law : ByteArray := code
def yL_law : MethodName := ⟨RL, "law", "([I)Z"⟩
def wsX0_init : List Cond := .code yX0_init cX0_init 1 none :: ([.methodLink RX0 3 objectInit, .instanceMethod objectInit, .code objectInit ⟨#[0xb1]⟩ 1 none, .fieldLink RX0 9 "SwingCircuits$Circuit" "cells" "I", .arrayClass .int, .fieldLink RX0 15 "SwingCircuits$Circuit" "low" "[I", .fieldLink RX0 19 "SwingCircuits$Circuit" "high" "[I", .fieldLink RX0 22 "SwingCircuits$Circuit" "rise" "[I", .fieldLink RX0 25 "SwingCircuits$Circuit" "fall" "[I", .fieldLink RX0 28 "SwingCircuits$Circuit" "links" "I", .fieldLink RX0 31 "SwingCircuits$Circuit" "from" "[I", .fieldLink RX0 34 "SwingCircuits$Circuit" "at" "[I", .fieldLink RX0 37 "SwingCircuits$Circuit" "nth" "[I", .fieldLink RX0 40 "SwingCircuits$Circuit" "to" "[I", .fieldLink RX0 43 "SwingCircuits$Circuit" "act" "[I", .fieldLink RX0 46 "SwingCircuits$Circuit" "by" "[I"] ++ wsX00)
def wsX0_ratesOf : List Cond := .code yX0_ratesOf cX0_ratesOf 2 (some (.array .int)) :: ([.fieldLink RX0 22 "SwingCircuits$Circuit" "rise" "[I", .fieldLink RX0 25 "SwingCircuits$Circuit" "fall" "[I"] ++ wsX00)
def wsX0_span : List Cond := .code yX0_span cX0_span 2 (some .int) :: ([.fieldLink RX0 19 "SwingCircuits$Circuit" "high" "[I", .fieldLink RX0 15 "SwingCircuits$Circuit" "low" "[I"] ++ wsX00)
def wsX1_init : List Cond := .code yX1_init cX1_init 1 none :: ([.methodLink RX1 3 objectInit, .instanceMethod objectInit, .code objectInit ⟨#[0xb1]⟩ 1 none, .fieldLink RX1 9 "SwingCircuits$Swing" "timeNum" "J", .fieldLink RX1 15 "SwingCircuits$Swing" "timeDen" "J", .arrayClass .long, .fieldLink RX1 18 "SwingCircuits$Swing" "num" "[J", .fieldLink RX1 22 "SwingCircuits$Swing" "den" "[J", .arrayClass .boolean, .fieldLink RX1 25 "SwingCircuits$Swing" "filling" "[Z", .arrayClass .int, .fieldLink RX1 29 "SwingCircuits$Swing" "counts" "[I", .fieldLink RX1 33 "SwingCircuits$Swing" "turned" "I", .fieldLink RX1 37 "SwingCircuits$Swing" "side" "I", .fieldLink RX1 40 "SwingCircuits$Swing" "waitNum" "J", .fieldLink RX1 43 "SwingCircuits$Swing" "waitDen" "J"] ++ wsX10)
def wsX1_restart : List Cond := .code yX1_restart cX1_restart 3 none :: ([.fieldLink RX1 9 "SwingCircuits$Swing" "timeNum" "J", .fieldLink RX1 15 "SwingCircuits$Swing" "timeDen" "J", .fieldLink RX1 18 "SwingCircuits$Swing" "num" "[J", .fieldLink RX1 46 "SwingCircuits$Circuit" "low" "[I", .fieldLink RX1 22 "SwingCircuits$Swing" "den" "[J", .fieldLink RX1 25 "SwingCircuits$Swing" "filling" "[Z", .fieldLink RX1 29 "SwingCircuits$Swing" "counts" "[I"] ++ wsX10 ++ wsX00)
def wsX1_copyFrom : List Cond := .code yX1_copyFrom cX1_copyFrom 3 none :: ([.fieldLink RX1 9 "SwingCircuits$Swing" "timeNum" "J", .fieldLink RX1 15 "SwingCircuits$Swing" "timeDen" "J", .fieldLink RX1 18 "SwingCircuits$Swing" "num" "[J", .fieldLink RX1 22 "SwingCircuits$Swing" "den" "[J", .fieldLink RX1 25 "SwingCircuits$Swing" "filling" "[Z", .fieldLink RX1 29 "SwingCircuits$Swing" "counts" "[I"] ++ wsX10)
def wsX1_chooseTurning : List Cond := .code yX1_chooseTurning cX1_chooseTurning 7 none :: ([.fieldLink RX1 51 "SwingCircuits$Circuit" "cells" "I", .fieldLink RX1 25 "SwingCircuits$Swing" "filling" "[Z", .fieldLink RX1 68 "SwingCircuits$Circuit" "high" "[I", .fieldLink RX1 22 "SwingCircuits$Swing" "den" "[J", .fieldLink RX1 18 "SwingCircuits$Swing" "num" "[J", .fieldLink RX1 46 "SwingCircuits$Circuit" "low" "[I", .fieldLink RX1 71 "SwingCircuits$Circuit" "rise" "[I", .fieldLink RX1 74 "SwingCircuits$Circuit" "fall" "[I", .fieldLink RX1 43 "SwingCircuits$Swing" "waitDen" "J", .fieldLink RX1 40 "SwingCircuits$Swing" "waitNum" "J", .fieldLink RX1 33 "SwingCircuits$Swing" "turned" "I"] ++ wsX00 ++ wsX10)
def wsX2_commonOf : List Cond := .code yX2_commonOf cX2_commonOf 11 (some .long) :: ([])
def wsX1_letTimePass : List Cond := .code yX1_letTimePass cX1_letTimePass 11 none :: ([.fieldLink RX1 9 "SwingCircuits$Swing" "timeNum" "J", .fieldLink RX1 43 "SwingCircuits$Swing" "waitDen" "J", .fieldLink RX1 40 "SwingCircuits$Swing" "waitNum" "J", .fieldLink RX1 15 "SwingCircuits$Swing" "timeDen" "J", .fieldLink RX1 51 "SwingCircuits$Circuit" "cells" "I", .fieldLink RX1 25 "SwingCircuits$Swing" "filling" "[Z", .fieldLink RX1 71 "SwingCircuits$Circuit" "rise" "[I", .fieldLink RX1 74 "SwingCircuits$Circuit" "fall" "[I", .fieldLink RX1 18 "SwingCircuits$Swing" "num" "[J", .fieldLink RX1 22 "SwingCircuits$Swing" "den" "[J", .static yX2_commonOf, .initialized RX2, .code yX2_commonOf cX2_commonOf 11 (some .long)] ++ wsX10 ++ wsX00)
def wsX1_keepBetweenBars : List Cond := .code yX1_keepBetweenBars cX1_keepBetweenBars 3 none :: ([.fieldLink RX1 18 "SwingCircuits$Swing" "num" "[J", .fieldLink RX1 68 "SwingCircuits$Circuit" "high" "[I", .fieldLink RX1 22 "SwingCircuits$Swing" "den" "[J", .fieldLink RX1 46 "SwingCircuits$Circuit" "low" "[I"] ++ wsX10 ++ wsX00)
def wsX1_doAct : List Cond := .code yX1_doAct cX1_doAct 4 none :: ([.fieldLink RX1 97 "SwingCircuits$Circuit" "to" "[I", .fieldLink RX1 100 "SwingCircuits$Circuit" "act" "[I", .fieldLink RX1 18 "SwingCircuits$Swing" "num" "[J", .fieldLink RX1 103 "SwingCircuits$Circuit" "by" "[I", .fieldLink RX1 22 "SwingCircuits$Swing" "den" "[J", .fieldLink RX1 25 "SwingCircuits$Swing" "filling" "[Z", .methodLink RX1 106 yX1_keepBetweenBars, .instanceMethod yX1_keepBetweenBars, .selects RX1 yX1_keepBetweenBars yX1_keepBetweenBars, .initialized RX1, .code yX1_keepBetweenBars cX1_keepBetweenBars 3 none, .fieldLink RX1 68 "SwingCircuits$Circuit" "high" "[I", .fieldLink RX1 46 "SwingCircuits$Circuit" "low" "[I"] ++ wsX00 ++ wsX10)
def wsX1_passOn : List Cond := .code yX1_passOn cX1_passOn 3 none :: ([.fieldLink RX1 81 "SwingCircuits$Circuit" "links" "I", .fieldLink RX1 84 "SwingCircuits$Circuit" "from" "[I", .fieldLink RX1 33 "SwingCircuits$Swing" "turned" "I", .fieldLink RX1 87 "SwingCircuits$Circuit" "at" "[I", .fieldLink RX1 37 "SwingCircuits$Swing" "side" "I", .fieldLink RX1 29 "SwingCircuits$Swing" "counts" "[I", .fieldLink RX1 90 "SwingCircuits$Circuit" "nth" "[I", .methodLink RX1 93 yX1_doAct, .instanceMethod yX1_doAct, .selects RX1 yX1_doAct yX1_doAct, .initialized RX1, .code yX1_doAct cX1_doAct 4 none, .fieldLink RX1 97 "SwingCircuits$Circuit" "to" "[I", .fieldLink RX1 100 "SwingCircuits$Circuit" "act" "[I", .fieldLink RX1 18 "SwingCircuits$Swing" "num" "[J", .fieldLink RX1 103 "SwingCircuits$Circuit" "by" "[I", .fieldLink RX1 22 "SwingCircuits$Swing" "den" "[J", .fieldLink RX1 25 "SwingCircuits$Swing" "filling" "[Z", .methodLink RX1 106 yX1_keepBetweenBars, .instanceMethod yX1_keepBetweenBars, .selects RX1 yX1_keepBetweenBars yX1_keepBetweenBars, .code yX1_keepBetweenBars cX1_keepBetweenBars 3 none, .fieldLink RX1 68 "SwingCircuits$Circuit" "high" "[I", .fieldLink RX1 46 "SwingCircuits$Circuit" "low" "[I"] ++ wsX00 ++ wsX10)
def wsX1_isTooLong : List Cond := .code yX1_isTooLong cX1_isTooLong 4 (some .boolean) :: ([.constantLong RX1 113 (1000000), .constantLong RX1 115 (-1000000)])
def wsX1_isSpent : List Cond := .code yX1_isSpent cX1_isSpent 3 (some .boolean) :: ([.fieldLink RX1 9 "SwingCircuits$Swing" "timeNum" "J", .fieldLink RX1 15 "SwingCircuits$Swing" "timeDen" "J", .fieldLink RX1 51 "SwingCircuits$Circuit" "cells" "I", .fieldLink RX1 18 "SwingCircuits$Swing" "num" "[J", .fieldLink RX1 22 "SwingCircuits$Swing" "den" "[J", .methodLink RX1 109 yX1_isTooLong, .static yX1_isTooLong, .initialized RX1, .code yX1_isTooLong cX1_isTooLong 4 (some .boolean), .constantLong RX1 113 (1000000), .constantLong RX1 115 (-1000000)] ++ wsX10 ++ wsX00)
def wsX1_advance_r1 : List Cond := [Cond.fieldLink RX1 51 "SwingCircuits$Circuit" "cells" "I", Cond.fieldLink RX1 25 "SwingCircuits$Swing" "filling" "[Z", Cond.fieldLink RX1 33 "SwingCircuits$Swing" "turned" "I", Cond.fieldLink RX1 37 "SwingCircuits$Swing" "side" "I", Cond.methodLink RX1 54 yX1_chooseTurning, Cond.instanceMethod yX1_chooseTurning, Cond.selects RX1 yX1_chooseTurning yX1_chooseTurning, Cond.initialized RX1, Cond.code yX1_chooseTurning cX1_chooseTurning 7 none, Cond.fieldLink RX1 68 "SwingCircuits$Circuit" "high" "[I", Cond.fieldLink RX1 22 "SwingCircuits$Swing" "den" "[J", Cond.fieldLink RX1 18 "SwingCircuits$Swing" "num" "[J", Cond.fieldLink RX1 46 "SwingCircuits$Circuit" "low" "[I", Cond.fieldLink RX1 71 "SwingCircuits$Circuit" "rise" "[I", Cond.fieldLink RX1 74 "SwingCircuits$Circuit" "fall" "[I", Cond.fieldLink RX1 43 "SwingCircuits$Swing" "waitDen" "J", Cond.fieldLink RX1 40 "SwingCircuits$Swing" "waitNum" "J", Cond.methodLink RX1 58 yX1_letTimePass, Cond.instanceMethod yX1_letTimePass, Cond.selects RX1 yX1_letTimePass yX1_letTimePass, Cond.code yX1_letTimePass cX1_letTimePass 11 none, Cond.fieldLink RX1 9 "SwingCircuits$Swing" "timeNum" "J", Cond.fieldLink RX1 15 "SwingCircuits$Swing" "timeDen" "J", Cond.static yX2_commonOf]
def wsX1_advance_r2 : List Cond := [Cond.initialized RX2, Cond.code yX2_commonOf cX2_commonOf 11 (some .long), Cond.methodLink RX1 61 yX1_passOn, Cond.instanceMethod yX1_passOn, Cond.selects RX1 yX1_passOn yX1_passOn, Cond.code yX1_passOn cX1_passOn 3 none, Cond.fieldLink RX1 81 "SwingCircuits$Circuit" "links" "I", Cond.fieldLink RX1 84 "SwingCircuits$Circuit" "from" "[I", Cond.fieldLink RX1 87 "SwingCircuits$Circuit" "at" "[I", Cond.fieldLink RX1 29 "SwingCircuits$Swing" "counts" "[I", Cond.fieldLink RX1 90 "SwingCircuits$Circuit" "nth" "[I", Cond.methodLink RX1 93 yX1_doAct, Cond.instanceMethod yX1_doAct, Cond.selects RX1 yX1_doAct yX1_doAct, Cond.code yX1_doAct cX1_doAct 4 none, Cond.fieldLink RX1 97 "SwingCircuits$Circuit" "to" "[I", Cond.fieldLink RX1 100 "SwingCircuits$Circuit" "act" "[I", Cond.fieldLink RX1 103 "SwingCircuits$Circuit" "by" "[I", Cond.methodLink RX1 106 yX1_keepBetweenBars, Cond.instanceMethod yX1_keepBetweenBars, Cond.selects RX1 yX1_keepBetweenBars yX1_keepBetweenBars, Cond.code yX1_keepBetweenBars cX1_keepBetweenBars 3 none, Cond.methodLink RX1 64 yX1_isSpent, Cond.instanceMethod yX1_isSpent]
def wsX1_advance_r3 : List Cond := [Cond.selects RX1 yX1_isSpent yX1_isSpent, Cond.code yX1_isSpent cX1_isSpent 3 (some .boolean), Cond.methodLink RX1 109 yX1_isTooLong, Cond.static yX1_isTooLong, Cond.code yX1_isTooLong cX1_isTooLong 4 (some .boolean), Cond.constantLong RX1 113 (1000000), Cond.constantLong RX1 115 (-1000000)]
def wsX1_advance : List Cond := .code yX1_advance cX1_advance 2 (some .boolean) :: ((wsX1_advance_r1 ++ (wsX1_advance_r2 ++ wsX1_advance_r3)) ++ wsX00 ++ wsX10)
def wsX2_packed : List Cond := .code yX2_packed cX2_packed 4 (some .long) :: ([])
def wsX1_packedEvent : List Cond := .code yX1_packedEvent cX1_packedEvent 1 (some .long) :: ([.fieldLink RX1 9 "SwingCircuits$Swing" "timeNum" "J", .fieldLink RX1 15 "SwingCircuits$Swing" "timeDen" "J", .fieldLink RX1 33 "SwingCircuits$Swing" "turned" "I", .fieldLink RX1 37 "SwingCircuits$Swing" "side" "I", .static yX2_packed, .initialized RX2, .code yX2_packed cX2_packed 4 (some .long)] ++ wsX10)
def wsX1_packedMarks : List Cond := .code yX1_packedMarks cX1_packedMarks 4 (some .long) :: ([.constantLong RX1 120 (2), .fieldLink RX1 25 "SwingCircuits$Swing" "filling" "[Z", .fieldLink RX1 29 "SwingCircuits$Swing" "counts" "[I"] ++ wsX10)
def wsX2_init_r1 : List Cond := [Cond.methodLink RX2 3 objectInit, Cond.instanceMethod objectInit, Cond.code objectInit ⟨#[0xb1]⟩ 1 none, Cond.classLink RX2 9 RX0, Cond.instantiable RX0 12, Cond.initialized RX0, Cond.fieldLink RX2 12 "SwingCircuits" "circuit" "LSwingCircuits$Circuit;", Cond.classLink RX2 16 RX1, Cond.instantiable RX1 10, Cond.initialized RX1, Cond.fieldLink RX2 19 "SwingCircuits" "now" "LSwingCircuits$Swing;", Cond.fieldLink RX2 23 "SwingCircuits" "trial" "LSwingCircuits$Swing;", Cond.fieldLink RX2 26 "SwingCircuits" "happened" "I", Cond.arrayClass .int, Cond.fieldLink RX2 30 "SwingCircuits" "tops" "[I", Cond.fieldLink RX2 34 "SwingCircuits" "bottoms" "[I", Cond.arrayClass .long, Cond.fieldLink RX2 37 "SwingCircuits" "kept" "[J", Cond.fieldLink RX2 41 "SwingCircuits" "trail" "[J", Cond.fieldLink RX2 44 "SwingCircuits" "ringAnswers" "[J", Cond.fieldLink RX2 47 "SwingCircuits" "ringFound" "Z", Cond.fieldLink RX2 51 "SwingCircuits" "stock" "[I", Cond.fieldLink RX2 54 "SwingCircuits" "stocked" "I", Cond.fieldLink RX2 57 "SwingCircuits" "measuredNum" "[I"]
def wsX2_init_r2 : List Cond := [Cond.fieldLink RX2 60 "SwingCircuits" "measuredDen" "[I", Cond.fieldLink RX2 63 "SwingCircuits" "measures" "I", Cond.fieldLink RX2 66 "SwingCircuits" "waysFound" "[I", Cond.fieldLink RX2 69 "SwingCircuits" "faultsFound" "[I", Cond.instanceMethod yX0_init, Cond.code yX0_init cX0_init 1 none, Cond.methodLink RX0 3 objectInit, Cond.fieldLink RX0 9 "SwingCircuits$Circuit" "cells" "I", Cond.fieldLink RX0 15 "SwingCircuits$Circuit" "low" "[I", Cond.fieldLink RX0 19 "SwingCircuits$Circuit" "high" "[I", Cond.fieldLink RX0 22 "SwingCircuits$Circuit" "rise" "[I", Cond.fieldLink RX0 25 "SwingCircuits$Circuit" "fall" "[I", Cond.fieldLink RX0 28 "SwingCircuits$Circuit" "links" "I", Cond.fieldLink RX0 31 "SwingCircuits$Circuit" "from" "[I", Cond.fieldLink RX0 34 "SwingCircuits$Circuit" "at" "[I", Cond.fieldLink RX0 37 "SwingCircuits$Circuit" "nth" "[I", Cond.fieldLink RX0 40 "SwingCircuits$Circuit" "to" "[I", Cond.fieldLink RX0 43 "SwingCircuits$Circuit" "act" "[I", Cond.fieldLink RX0 46 "SwingCircuits$Circuit" "by" "[I", Cond.instanceMethod yX1_init, Cond.code yX1_init cX1_init 1 none, Cond.methodLink RX1 3 objectInit, Cond.fieldLink RX1 9 "SwingCircuits$Swing" "timeNum" "J", Cond.fieldLink RX1 15 "SwingCircuits$Swing" "timeDen" "J"]
def wsX2_init_r3 : List Cond := [Cond.fieldLink RX1 18 "SwingCircuits$Swing" "num" "[J", Cond.fieldLink RX1 22 "SwingCircuits$Swing" "den" "[J", Cond.arrayClass .boolean, Cond.fieldLink RX1 25 "SwingCircuits$Swing" "filling" "[Z", Cond.fieldLink RX1 29 "SwingCircuits$Swing" "counts" "[I", Cond.fieldLink RX1 33 "SwingCircuits$Swing" "turned" "I", Cond.fieldLink RX1 37 "SwingCircuits$Swing" "side" "I", Cond.fieldLink RX1 40 "SwingCircuits$Swing" "waitNum" "J", Cond.fieldLink RX1 43 "SwingCircuits$Swing" "waitDen" "J"]
def wsX2_init : List Cond := .code yX2_init cX2_init 1 none :: ((wsX2_init_r1 ++ (wsX2_init_r2 ++ wsX2_init_r3)) ++ wsX00 ++ wsX20 ++ wsX10)
def wsX2_isRate : List Cond := .code yX2_isRate cX2_isRate 1 (some .boolean) :: ([])
def wsX2_startAgain : List Cond := .code yX2_startAgain cX2_startAgain 2 none :: ([.fieldLink RX2 19 "SwingCircuits" "now" "LSwingCircuits$Swing;", .fieldLink RX2 12 "SwingCircuits" "circuit" "LSwingCircuits$Circuit;", .fieldLink RX2 26 "SwingCircuits" "happened" "I", .fieldLink RX2 30 "SwingCircuits" "tops" "[I", .fieldLink RX2 34 "SwingCircuits" "bottoms" "[I", .methodLink RX2 223 yX1_restart, .instanceMethod yX1_restart, .selects RX1 yX1_restart yX1_restart, .initialized RX1, .code yX1_restart cX1_restart 3 none, .fieldLink RX1 9 "SwingCircuits$Swing" "timeNum" "J", .fieldLink RX1 15 "SwingCircuits$Swing" "timeDen" "J", .fieldLink RX1 18 "SwingCircuits$Swing" "num" "[J", .fieldLink RX1 46 "SwingCircuits$Circuit" "low" "[I", .fieldLink RX1 22 "SwingCircuits$Swing" "den" "[J", .fieldLink RX1 25 "SwingCircuits$Swing" "filling" "[Z", .fieldLink RX1 29 "SwingCircuits$Swing" "counts" "[I"] ++ wsX20 ++ wsX10 ++ wsX00)
def wsX2_cell_r1 : List Cond := [Cond.fieldLink RX2 12 "SwingCircuits" "circuit" "LSwingCircuits$Circuit;", Cond.fieldLink RX2 76 "SwingCircuits$Circuit" "cells" "I", Cond.fieldLink RX2 79 "SwingCircuits$Circuit" "low" "[I", Cond.fieldLink RX2 82 "SwingCircuits$Circuit" "high" "[I", Cond.fieldLink RX2 85 "SwingCircuits$Circuit" "rise" "[I", Cond.fieldLink RX2 88 "SwingCircuits$Circuit" "fall" "[I", Cond.methodLink RX2 72 yX2_isRate, Cond.static yX2_isRate, Cond.initialized RX2, Cond.code yX2_isRate cX2_isRate 1 (some .boolean), Cond.methodLink RX2 91 yX2_startAgain, Cond.instanceMethod yX2_startAgain, Cond.selects RX2 yX2_startAgain yX2_startAgain, Cond.code yX2_startAgain cX2_startAgain 2 none, Cond.fieldLink RX2 19 "SwingCircuits" "now" "LSwingCircuits$Swing;", Cond.fieldLink RX2 26 "SwingCircuits" "happened" "I", Cond.fieldLink RX2 30 "SwingCircuits" "tops" "[I", Cond.fieldLink RX2 34 "SwingCircuits" "bottoms" "[I", Cond.methodLink RX2 223 yX1_restart, Cond.instanceMethod yX1_restart, Cond.selects RX1 yX1_restart yX1_restart, Cond.initialized RX1, Cond.code yX1_restart cX1_restart 3 none, Cond.fieldLink RX1 9 "SwingCircuits$Swing" "timeNum" "J"]
def wsX2_cell_r2 : List Cond := [Cond.fieldLink RX1 15 "SwingCircuits$Swing" "timeDen" "J", Cond.fieldLink RX1 18 "SwingCircuits$Swing" "num" "[J", Cond.fieldLink RX1 46 "SwingCircuits$Circuit" "low" "[I", Cond.fieldLink RX1 22 "SwingCircuits$Swing" "den" "[J", Cond.fieldLink RX1 25 "SwingCircuits$Swing" "filling" "[Z", Cond.fieldLink RX1 29 "SwingCircuits$Swing" "counts" "[I"]
def wsX2_cell : List Cond := .code yX2_cell cX2_cell 7 (some .int) :: ((wsX2_cell_r1 ++ wsX2_cell_r2) ++ wsX20 ++ wsX00 ++ wsX10)
def wsX2_isCell : List Cond := .code yX2_isCell cX2_isCell 2 (some .boolean) :: ([.fieldLink RX2 12 "SwingCircuits" "circuit" "LSwingCircuits$Circuit;", .fieldLink RX2 76 "SwingCircuits$Circuit" "cells" "I"] ++ wsX20 ++ wsX00)
def wsX2_isAct : List Cond := .code yX2_isAct cX2_isAct 2 (some .boolean) :: ([])
def wsX2_link_r1 : List Cond := [Cond.fieldLink RX2 12 "SwingCircuits" "circuit" "LSwingCircuits$Circuit;", Cond.fieldLink RX2 101 "SwingCircuits$Circuit" "links" "I", Cond.fieldLink RX2 104 "SwingCircuits$Circuit" "from" "[I", Cond.fieldLink RX2 107 "SwingCircuits$Circuit" "at" "[I", Cond.fieldLink RX2 110 "SwingCircuits$Circuit" "nth" "[I", Cond.fieldLink RX2 113 "SwingCircuits$Circuit" "to" "[I", Cond.fieldLink RX2 116 "SwingCircuits$Circuit" "act" "[I", Cond.fieldLink RX2 119 "SwingCircuits$Circuit" "by" "[I", Cond.methodLink RX2 94 yX2_isCell, Cond.instanceMethod yX2_isCell, Cond.selects RX2 yX2_isCell yX2_isCell, Cond.initialized RX2, Cond.code yX2_isCell cX2_isCell 2 (some .boolean), Cond.fieldLink RX2 76 "SwingCircuits$Circuit" "cells" "I", Cond.methodLink RX2 97 yX2_isAct, Cond.static yX2_isAct, Cond.code yX2_isAct cX2_isAct 2 (some .boolean), Cond.methodLink RX2 91 yX2_startAgain, Cond.instanceMethod yX2_startAgain, Cond.selects RX2 yX2_startAgain yX2_startAgain, Cond.code yX2_startAgain cX2_startAgain 2 none, Cond.fieldLink RX2 19 "SwingCircuits" "now" "LSwingCircuits$Swing;", Cond.fieldLink RX2 26 "SwingCircuits" "happened" "I", Cond.fieldLink RX2 30 "SwingCircuits" "tops" "[I"]
def wsX2_link_r2 : List Cond := [Cond.fieldLink RX2 34 "SwingCircuits" "bottoms" "[I", Cond.methodLink RX2 223 yX1_restart, Cond.instanceMethod yX1_restart, Cond.selects RX1 yX1_restart yX1_restart, Cond.initialized RX1, Cond.code yX1_restart cX1_restart 3 none, Cond.fieldLink RX1 9 "SwingCircuits$Swing" "timeNum" "J", Cond.fieldLink RX1 15 "SwingCircuits$Swing" "timeDen" "J", Cond.fieldLink RX1 18 "SwingCircuits$Swing" "num" "[J", Cond.fieldLink RX1 46 "SwingCircuits$Circuit" "low" "[I", Cond.fieldLink RX1 22 "SwingCircuits$Swing" "den" "[J", Cond.fieldLink RX1 25 "SwingCircuits$Swing" "filling" "[Z", Cond.fieldLink RX1 29 "SwingCircuits$Swing" "counts" "[I"]
def wsX2_link : List Cond := .code yX2_link cX2_link 8 (some .int) :: ((wsX2_link_r1 ++ wsX2_link_r2) ++ wsX20 ++ wsX00 ++ wsX10)
def wsX2_clear : List Cond := .code yX2_clear cX2_clear 2 (some .int) :: ([.fieldLink RX2 12 "SwingCircuits" "circuit" "LSwingCircuits$Circuit;", .fieldLink RX2 76 "SwingCircuits$Circuit" "cells" "I", .fieldLink RX2 101 "SwingCircuits$Circuit" "links" "I", .methodLink RX2 91 yX2_startAgain, .instanceMethod yX2_startAgain, .selects RX2 yX2_startAgain yX2_startAgain, .initialized RX2, .code yX2_startAgain cX2_startAgain 2 none, .fieldLink RX2 19 "SwingCircuits" "now" "LSwingCircuits$Swing;", .fieldLink RX2 26 "SwingCircuits" "happened" "I", .fieldLink RX2 30 "SwingCircuits" "tops" "[I", .fieldLink RX2 34 "SwingCircuits" "bottoms" "[I", .methodLink RX2 223 yX1_restart, .instanceMethod yX1_restart, .selects RX1 yX1_restart yX1_restart, .initialized RX1, .code yX1_restart cX1_restart 3 none, .fieldLink RX1 9 "SwingCircuits$Swing" "timeNum" "J", .fieldLink RX1 15 "SwingCircuits$Swing" "timeDen" "J", .fieldLink RX1 18 "SwingCircuits$Swing" "num" "[J", .fieldLink RX1 46 "SwingCircuits$Circuit" "low" "[I", .fieldLink RX1 22 "SwingCircuits$Swing" "den" "[J", .fieldLink RX1 25 "SwingCircuits$Swing" "filling" "[Z", .fieldLink RX1 29 "SwingCircuits$Swing" "counts" "[I"] ++ wsX20 ++ wsX00 ++ wsX10)
def wsX2_reset : List Cond := .code yX2_reset cX2_reset 2 (some .int) :: ([.fieldLink RX2 26 "SwingCircuits" "happened" "I", .methodLink RX2 91 yX2_startAgain, .instanceMethod yX2_startAgain, .selects RX2 yX2_startAgain yX2_startAgain, .initialized RX2, .code yX2_startAgain cX2_startAgain 2 none, .fieldLink RX2 19 "SwingCircuits" "now" "LSwingCircuits$Swing;", .fieldLink RX2 12 "SwingCircuits" "circuit" "LSwingCircuits$Circuit;", .fieldLink RX2 30 "SwingCircuits" "tops" "[I", .fieldLink RX2 34 "SwingCircuits" "bottoms" "[I", .methodLink RX2 223 yX1_restart, .instanceMethod yX1_restart, .selects RX1 yX1_restart yX1_restart, .initialized RX1, .code yX1_restart cX1_restart 3 none, .fieldLink RX1 9 "SwingCircuits$Swing" "timeNum" "J", .fieldLink RX1 15 "SwingCircuits$Swing" "timeDen" "J", .fieldLink RX1 18 "SwingCircuits$Swing" "num" "[J", .fieldLink RX1 46 "SwingCircuits$Circuit" "low" "[I", .fieldLink RX1 22 "SwingCircuits$Swing" "den" "[J", .fieldLink RX1 25 "SwingCircuits$Swing" "filling" "[Z", .fieldLink RX1 29 "SwingCircuits$Swing" "counts" "[I"] ++ wsX20 ++ wsX10 ++ wsX00)
def wsX2_set_r1 : List Cond := [Cond.fieldLink RX2 12 "SwingCircuits" "circuit" "LSwingCircuits$Circuit;", Cond.methodLink RX2 94 yX2_isCell, Cond.instanceMethod yX2_isCell, Cond.selects RX2 yX2_isCell yX2_isCell, Cond.initialized RX2, Cond.code yX2_isCell cX2_isCell 2 (some .boolean), Cond.fieldLink RX2 76 "SwingCircuits$Circuit" "cells" "I", Cond.methodLink RX2 72 yX2_isRate, Cond.static yX2_isRate, Cond.code yX2_isRate cX2_isRate 1 (some .boolean), Cond.methodLink RX2 122 yX0_ratesOf, Cond.instanceMethod yX0_ratesOf, Cond.selects RX0 yX0_ratesOf yX0_ratesOf, Cond.initialized RX0, Cond.code yX0_ratesOf cX0_ratesOf 2 (some (.array .int)), Cond.fieldLink RX0 22 "SwingCircuits$Circuit" "rise" "[I", Cond.fieldLink RX0 25 "SwingCircuits$Circuit" "fall" "[I", Cond.methodLink RX2 91 yX2_startAgain, Cond.instanceMethod yX2_startAgain, Cond.selects RX2 yX2_startAgain yX2_startAgain, Cond.code yX2_startAgain cX2_startAgain 2 none, Cond.fieldLink RX2 19 "SwingCircuits" "now" "LSwingCircuits$Swing;", Cond.fieldLink RX2 26 "SwingCircuits" "happened" "I", Cond.fieldLink RX2 30 "SwingCircuits" "tops" "[I"]
def wsX2_set_r2 : List Cond := [Cond.fieldLink RX2 34 "SwingCircuits" "bottoms" "[I", Cond.methodLink RX2 223 yX1_restart, Cond.instanceMethod yX1_restart, Cond.selects RX1 yX1_restart yX1_restart, Cond.initialized RX1, Cond.code yX1_restart cX1_restart 3 none, Cond.fieldLink RX1 9 "SwingCircuits$Swing" "timeNum" "J", Cond.fieldLink RX1 15 "SwingCircuits$Swing" "timeDen" "J", Cond.fieldLink RX1 18 "SwingCircuits$Swing" "num" "[J", Cond.fieldLink RX1 46 "SwingCircuits$Circuit" "low" "[I", Cond.fieldLink RX1 22 "SwingCircuits$Swing" "den" "[J", Cond.fieldLink RX1 25 "SwingCircuits$Swing" "filling" "[Z", Cond.fieldLink RX1 29 "SwingCircuits$Swing" "counts" "[I"]
def wsX2_set : List Cond := .code yX2_set cX2_set 6 (some .int) :: ((wsX2_set_r1 ++ wsX2_set_r2) ++ wsX20 ++ wsX00 ++ wsX10)
def wsX2_noteEvent : List Cond := .code yX2_noteEvent cX2_noteEvent 1 none :: ([.fieldLink RX2 26 "SwingCircuits" "happened" "I", .fieldLink RX2 37 "SwingCircuits" "kept" "[J", .fieldLink RX2 19 "SwingCircuits" "now" "LSwingCircuits$Swing;", .fieldLink RX2 231 "SwingCircuits$Swing" "side" "I", .fieldLink RX2 30 "SwingCircuits" "tops" "[I", .fieldLink RX2 234 "SwingCircuits$Swing" "turned" "I", .fieldLink RX2 34 "SwingCircuits" "bottoms" "[I", .methodLink RX2 227 yX1_packedEvent, .instanceMethod yX1_packedEvent, .selects RX1 yX1_packedEvent yX1_packedEvent, .initialized RX1, .code yX1_packedEvent cX1_packedEvent 1 (some .long), .fieldLink RX1 9 "SwingCircuits$Swing" "timeNum" "J", .fieldLink RX1 15 "SwingCircuits$Swing" "timeDen" "J", .fieldLink RX1 33 "SwingCircuits$Swing" "turned" "I", .fieldLink RX1 37 "SwingCircuits$Swing" "side" "I", .static yX2_packed, .initialized RX2, .code yX2_packed cX2_packed 4 (some .long)] ++ wsX20 ++ wsX10)
def wsX2_run_r1 : List Cond := [Cond.fieldLink RX2 23 "SwingCircuits" "trial" "LSwingCircuits$Swing;", Cond.fieldLink RX2 19 "SwingCircuits" "now" "LSwingCircuits$Swing;", Cond.fieldLink RX2 12 "SwingCircuits" "circuit" "LSwingCircuits$Circuit;", Cond.methodLink RX2 126 yX1_copyFrom, Cond.instanceMethod yX1_copyFrom, Cond.selects RX1 yX1_copyFrom yX1_copyFrom, Cond.initialized RX1, Cond.code yX1_copyFrom cX1_copyFrom 3 none, Cond.fieldLink RX1 9 "SwingCircuits$Swing" "timeNum" "J", Cond.fieldLink RX1 15 "SwingCircuits$Swing" "timeDen" "J", Cond.fieldLink RX1 18 "SwingCircuits$Swing" "num" "[J", Cond.fieldLink RX1 22 "SwingCircuits$Swing" "den" "[J", Cond.fieldLink RX1 25 "SwingCircuits$Swing" "filling" "[Z", Cond.fieldLink RX1 29 "SwingCircuits$Swing" "counts" "[I", Cond.methodLink RX2 130 yX1_advance, Cond.instanceMethod yX1_advance, Cond.selects RX1 yX1_advance yX1_advance, Cond.code yX1_advance cX1_advance 2 (some .boolean), Cond.fieldLink RX1 51 "SwingCircuits$Circuit" "cells" "I", Cond.fieldLink RX1 33 "SwingCircuits$Swing" "turned" "I", Cond.fieldLink RX1 37 "SwingCircuits$Swing" "side" "I", Cond.methodLink RX1 54 yX1_chooseTurning, Cond.instanceMethod yX1_chooseTurning, Cond.selects RX1 yX1_chooseTurning yX1_chooseTurning]
def wsX2_run_r2 : List Cond := [Cond.code yX1_chooseTurning cX1_chooseTurning 7 none, Cond.fieldLink RX1 68 "SwingCircuits$Circuit" "high" "[I", Cond.fieldLink RX1 46 "SwingCircuits$Circuit" "low" "[I", Cond.fieldLink RX1 71 "SwingCircuits$Circuit" "rise" "[I", Cond.fieldLink RX1 74 "SwingCircuits$Circuit" "fall" "[I", Cond.fieldLink RX1 43 "SwingCircuits$Swing" "waitDen" "J", Cond.fieldLink RX1 40 "SwingCircuits$Swing" "waitNum" "J", Cond.methodLink RX1 58 yX1_letTimePass, Cond.instanceMethod yX1_letTimePass, Cond.selects RX1 yX1_letTimePass yX1_letTimePass, Cond.code yX1_letTimePass cX1_letTimePass 11 none, Cond.static yX2_commonOf, Cond.initialized RX2, Cond.code yX2_commonOf cX2_commonOf 11 (some .long), Cond.methodLink RX1 61 yX1_passOn, Cond.instanceMethod yX1_passOn, Cond.selects RX1 yX1_passOn yX1_passOn, Cond.code yX1_passOn cX1_passOn 3 none, Cond.fieldLink RX1 81 "SwingCircuits$Circuit" "links" "I", Cond.fieldLink RX1 84 "SwingCircuits$Circuit" "from" "[I", Cond.fieldLink RX1 87 "SwingCircuits$Circuit" "at" "[I", Cond.fieldLink RX1 90 "SwingCircuits$Circuit" "nth" "[I", Cond.methodLink RX1 93 yX1_doAct, Cond.instanceMethod yX1_doAct]
def wsX2_run_r3 : List Cond := [Cond.selects RX1 yX1_doAct yX1_doAct, Cond.code yX1_doAct cX1_doAct 4 none, Cond.fieldLink RX1 97 "SwingCircuits$Circuit" "to" "[I", Cond.fieldLink RX1 100 "SwingCircuits$Circuit" "act" "[I", Cond.fieldLink RX1 103 "SwingCircuits$Circuit" "by" "[I", Cond.methodLink RX1 106 yX1_keepBetweenBars, Cond.instanceMethod yX1_keepBetweenBars, Cond.selects RX1 yX1_keepBetweenBars yX1_keepBetweenBars, Cond.code yX1_keepBetweenBars cX1_keepBetweenBars 3 none, Cond.methodLink RX1 64 yX1_isSpent, Cond.instanceMethod yX1_isSpent, Cond.selects RX1 yX1_isSpent yX1_isSpent, Cond.code yX1_isSpent cX1_isSpent 3 (some .boolean), Cond.methodLink RX1 109 yX1_isTooLong, Cond.static yX1_isTooLong, Cond.code yX1_isTooLong cX1_isTooLong 4 (some .boolean), Cond.constantLong RX1 113 (1000000), Cond.constantLong RX1 115 (-1000000), Cond.methodLink RX2 134 yX2_noteEvent, Cond.instanceMethod yX2_noteEvent, Cond.selects RX2 yX2_noteEvent yX2_noteEvent, Cond.code yX2_noteEvent cX2_noteEvent 1 none, Cond.fieldLink RX2 26 "SwingCircuits" "happened" "I", Cond.fieldLink RX2 37 "SwingCircuits" "kept" "[J"]
def wsX2_run_r4 : List Cond := [Cond.fieldLink RX2 231 "SwingCircuits$Swing" "side" "I", Cond.fieldLink RX2 30 "SwingCircuits" "tops" "[I", Cond.fieldLink RX2 234 "SwingCircuits$Swing" "turned" "I", Cond.fieldLink RX2 34 "SwingCircuits" "bottoms" "[I", Cond.methodLink RX2 227 yX1_packedEvent, Cond.instanceMethod yX1_packedEvent, Cond.selects RX1 yX1_packedEvent yX1_packedEvent, Cond.code yX1_packedEvent cX1_packedEvent 1 (some .long), Cond.static yX2_packed, Cond.code yX2_packed cX2_packed 4 (some .long)]
def wsX2_run : List Cond := .code yX2_run cX2_run 4 (some .int) :: ((wsX2_run_r1 ++ (wsX2_run_r2 ++ (wsX2_run_r3 ++ wsX2_run_r4))) ++ wsX20 ++ wsX10 ++ wsX00)
def wsX2_isNextSpent_r1 : List Cond := [Cond.fieldLink RX2 12 "SwingCircuits" "circuit" "LSwingCircuits$Circuit;", Cond.fieldLink RX2 76 "SwingCircuits$Circuit" "cells" "I", Cond.fieldLink RX2 23 "SwingCircuits" "trial" "LSwingCircuits$Swing;", Cond.fieldLink RX2 19 "SwingCircuits" "now" "LSwingCircuits$Swing;", Cond.methodLink RX2 126 yX1_copyFrom, Cond.instanceMethod yX1_copyFrom, Cond.selects RX1 yX1_copyFrom yX1_copyFrom, Cond.initialized RX1, Cond.code yX1_copyFrom cX1_copyFrom 3 none, Cond.fieldLink RX1 9 "SwingCircuits$Swing" "timeNum" "J", Cond.fieldLink RX1 15 "SwingCircuits$Swing" "timeDen" "J", Cond.fieldLink RX1 18 "SwingCircuits$Swing" "num" "[J", Cond.fieldLink RX1 22 "SwingCircuits$Swing" "den" "[J", Cond.fieldLink RX1 25 "SwingCircuits$Swing" "filling" "[Z", Cond.fieldLink RX1 29 "SwingCircuits$Swing" "counts" "[I", Cond.methodLink RX2 130 yX1_advance, Cond.instanceMethod yX1_advance, Cond.selects RX1 yX1_advance yX1_advance, Cond.code yX1_advance cX1_advance 2 (some .boolean), Cond.fieldLink RX1 51 "SwingCircuits$Circuit" "cells" "I", Cond.fieldLink RX1 33 "SwingCircuits$Swing" "turned" "I", Cond.fieldLink RX1 37 "SwingCircuits$Swing" "side" "I", Cond.methodLink RX1 54 yX1_chooseTurning, Cond.instanceMethod yX1_chooseTurning]
def wsX2_isNextSpent_r2 : List Cond := [Cond.selects RX1 yX1_chooseTurning yX1_chooseTurning, Cond.code yX1_chooseTurning cX1_chooseTurning 7 none, Cond.fieldLink RX1 68 "SwingCircuits$Circuit" "high" "[I", Cond.fieldLink RX1 46 "SwingCircuits$Circuit" "low" "[I", Cond.fieldLink RX1 71 "SwingCircuits$Circuit" "rise" "[I", Cond.fieldLink RX1 74 "SwingCircuits$Circuit" "fall" "[I", Cond.fieldLink RX1 43 "SwingCircuits$Swing" "waitDen" "J", Cond.fieldLink RX1 40 "SwingCircuits$Swing" "waitNum" "J", Cond.methodLink RX1 58 yX1_letTimePass, Cond.instanceMethod yX1_letTimePass, Cond.selects RX1 yX1_letTimePass yX1_letTimePass, Cond.code yX1_letTimePass cX1_letTimePass 11 none, Cond.static yX2_commonOf, Cond.initialized RX2, Cond.code yX2_commonOf cX2_commonOf 11 (some .long), Cond.methodLink RX1 61 yX1_passOn, Cond.instanceMethod yX1_passOn, Cond.selects RX1 yX1_passOn yX1_passOn, Cond.code yX1_passOn cX1_passOn 3 none, Cond.fieldLink RX1 81 "SwingCircuits$Circuit" "links" "I", Cond.fieldLink RX1 84 "SwingCircuits$Circuit" "from" "[I", Cond.fieldLink RX1 87 "SwingCircuits$Circuit" "at" "[I", Cond.fieldLink RX1 90 "SwingCircuits$Circuit" "nth" "[I", Cond.methodLink RX1 93 yX1_doAct]
def wsX2_isNextSpent_r3 : List Cond := [Cond.instanceMethod yX1_doAct, Cond.selects RX1 yX1_doAct yX1_doAct, Cond.code yX1_doAct cX1_doAct 4 none, Cond.fieldLink RX1 97 "SwingCircuits$Circuit" "to" "[I", Cond.fieldLink RX1 100 "SwingCircuits$Circuit" "act" "[I", Cond.fieldLink RX1 103 "SwingCircuits$Circuit" "by" "[I", Cond.methodLink RX1 106 yX1_keepBetweenBars, Cond.instanceMethod yX1_keepBetweenBars, Cond.selects RX1 yX1_keepBetweenBars yX1_keepBetweenBars, Cond.code yX1_keepBetweenBars cX1_keepBetweenBars 3 none, Cond.methodLink RX1 64 yX1_isSpent, Cond.instanceMethod yX1_isSpent, Cond.selects RX1 yX1_isSpent yX1_isSpent, Cond.code yX1_isSpent cX1_isSpent 3 (some .boolean), Cond.methodLink RX1 109 yX1_isTooLong, Cond.static yX1_isTooLong, Cond.code yX1_isTooLong cX1_isTooLong 4 (some .boolean), Cond.constantLong RX1 113 (1000000), Cond.constantLong RX1 115 (-1000000)]
def wsX2_isNextSpent : List Cond := .code yX2_isNextSpent cX2_isNextSpent 1 (some .boolean) :: ((wsX2_isNextSpent_r1 ++ (wsX2_isNextSpent_r2 ++ wsX2_isNextSpent_r3)) ++ wsX20 ++ wsX00 ++ wsX10)
def wsX2_count_r1 : List Cond := [Cond.fieldLink RX2 12 "SwingCircuits" "circuit" "LSwingCircuits$Circuit;", Cond.fieldLink RX2 76 "SwingCircuits$Circuit" "cells" "I", Cond.fieldLink RX2 101 "SwingCircuits$Circuit" "links" "I", Cond.fieldLink RX2 26 "SwingCircuits" "happened" "I", Cond.fieldLink RX2 19 "SwingCircuits" "now" "LSwingCircuits$Swing;", Cond.fieldLink RX2 137 "SwingCircuits$Swing" "timeNum" "J", Cond.fieldLink RX2 141 "SwingCircuits$Swing" "timeDen" "J", Cond.fieldLink RX2 54 "SwingCircuits" "stocked" "I", Cond.fieldLink RX2 63 "SwingCircuits" "measures" "I", Cond.methodLink RX2 144 yX2_isNextSpent, Cond.instanceMethod yX2_isNextSpent, Cond.selects RX2 yX2_isNextSpent yX2_isNextSpent, Cond.initialized RX2, Cond.code yX2_isNextSpent cX2_isNextSpent 1 (some .boolean), Cond.fieldLink RX2 23 "SwingCircuits" "trial" "LSwingCircuits$Swing;", Cond.methodLink RX2 126 yX1_copyFrom, Cond.instanceMethod yX1_copyFrom, Cond.selects RX1 yX1_copyFrom yX1_copyFrom, Cond.initialized RX1, Cond.code yX1_copyFrom cX1_copyFrom 3 none, Cond.fieldLink RX1 9 "SwingCircuits$Swing" "timeNum" "J", Cond.fieldLink RX1 15 "SwingCircuits$Swing" "timeDen" "J", Cond.fieldLink RX1 18 "SwingCircuits$Swing" "num" "[J", Cond.fieldLink RX1 22 "SwingCircuits$Swing" "den" "[J"]
def wsX2_count_r2 : List Cond := [Cond.fieldLink RX1 25 "SwingCircuits$Swing" "filling" "[Z", Cond.fieldLink RX1 29 "SwingCircuits$Swing" "counts" "[I", Cond.methodLink RX2 130 yX1_advance, Cond.instanceMethod yX1_advance, Cond.selects RX1 yX1_advance yX1_advance, Cond.code yX1_advance cX1_advance 2 (some .boolean), Cond.fieldLink RX1 51 "SwingCircuits$Circuit" "cells" "I", Cond.fieldLink RX1 33 "SwingCircuits$Swing" "turned" "I", Cond.fieldLink RX1 37 "SwingCircuits$Swing" "side" "I", Cond.methodLink RX1 54 yX1_chooseTurning, Cond.instanceMethod yX1_chooseTurning, Cond.selects RX1 yX1_chooseTurning yX1_chooseTurning, Cond.code yX1_chooseTurning cX1_chooseTurning 7 none, Cond.fieldLink RX1 68 "SwingCircuits$Circuit" "high" "[I", Cond.fieldLink RX1 46 "SwingCircuits$Circuit" "low" "[I", Cond.fieldLink RX1 71 "SwingCircuits$Circuit" "rise" "[I", Cond.fieldLink RX1 74 "SwingCircuits$Circuit" "fall" "[I", Cond.fieldLink RX1 43 "SwingCircuits$Swing" "waitDen" "J", Cond.fieldLink RX1 40 "SwingCircuits$Swing" "waitNum" "J", Cond.methodLink RX1 58 yX1_letTimePass, Cond.instanceMethod yX1_letTimePass, Cond.selects RX1 yX1_letTimePass yX1_letTimePass, Cond.code yX1_letTimePass cX1_letTimePass 11 none, Cond.static yX2_commonOf]
def wsX2_count_r3 : List Cond := [Cond.code yX2_commonOf cX2_commonOf 11 (some .long), Cond.methodLink RX1 61 yX1_passOn, Cond.instanceMethod yX1_passOn, Cond.selects RX1 yX1_passOn yX1_passOn, Cond.code yX1_passOn cX1_passOn 3 none, Cond.fieldLink RX1 81 "SwingCircuits$Circuit" "links" "I", Cond.fieldLink RX1 84 "SwingCircuits$Circuit" "from" "[I", Cond.fieldLink RX1 87 "SwingCircuits$Circuit" "at" "[I", Cond.fieldLink RX1 90 "SwingCircuits$Circuit" "nth" "[I", Cond.methodLink RX1 93 yX1_doAct, Cond.instanceMethod yX1_doAct, Cond.selects RX1 yX1_doAct yX1_doAct, Cond.code yX1_doAct cX1_doAct 4 none, Cond.fieldLink RX1 97 "SwingCircuits$Circuit" "to" "[I", Cond.fieldLink RX1 100 "SwingCircuits$Circuit" "act" "[I", Cond.fieldLink RX1 103 "SwingCircuits$Circuit" "by" "[I", Cond.methodLink RX1 106 yX1_keepBetweenBars, Cond.instanceMethod yX1_keepBetweenBars, Cond.selects RX1 yX1_keepBetweenBars yX1_keepBetweenBars, Cond.code yX1_keepBetweenBars cX1_keepBetweenBars 3 none, Cond.methodLink RX1 64 yX1_isSpent, Cond.instanceMethod yX1_isSpent, Cond.selects RX1 yX1_isSpent yX1_isSpent, Cond.code yX1_isSpent cX1_isSpent 3 (some .boolean)]
def wsX2_count_r4 : List Cond := [Cond.methodLink RX1 109 yX1_isTooLong, Cond.static yX1_isTooLong, Cond.code yX1_isTooLong cX1_isTooLong 4 (some .boolean), Cond.constantLong RX1 113 (1000000), Cond.constantLong RX1 115 (-1000000)]
def wsX2_count : List Cond := .code yX2_count cX2_count 2 (some .int) :: ((wsX2_count_r1 ++ (wsX2_count_r2 ++ (wsX2_count_r3 ++ wsX2_count_r4))) ++ wsX20 ++ wsX00 ++ wsX10)
def wsX2_beatTerm : List Cond := .code yX2_beatTerm cX2_beatTerm 7 (some .int) :: ([.fieldLink RX2 12 "SwingCircuits" "circuit" "LSwingCircuits$Circuit;", .fieldLink RX2 85 "SwingCircuits$Circuit" "rise" "[I", .fieldLink RX2 88 "SwingCircuits$Circuit" "fall" "[I", .methodLink RX2 260 yX0_span, .instanceMethod yX0_span, .selects RX0 yX0_span yX0_span, .initialized RX0, .code yX0_span cX0_span 2 (some .int), .fieldLink RX0 19 "SwingCircuits$Circuit" "high" "[I", .fieldLink RX0 15 "SwingCircuits$Circuit" "low" "[I", .methodLink RX2 257 yX2_commonOf, .static yX2_commonOf, .initialized RX2, .code yX2_commonOf cX2_commonOf 11 (some .long)] ++ wsX20 ++ wsX00)
/-! own: the printed words of the throw take pool number 7 for the super call of NoSuchElementException(String); its class file has 13 -/
def ne_code : ByteArray := ⟨#[0x2a, 0x2b, 0xb7, 0x00, 0x0d, 0xb1]⟩
def ne_NE : String := "java/util/NoSuchElementException"
def ne_RE : String := "java/lang/RuntimeException"
def ne_EX : String := "java/lang/Exception"
def ne_last : List Cond := [.methodLink RX2 152 (Bundle.initS ne_NE), .instantiable ne_NE 6, .castable ne_NE ne_NE, .selects ne_NE Bundle.tFill0 Bundle.tFill0, .selects ne_NE Bundle.tFill Bundle.tFill, .lays ne_NE Bundle.tN "cause" "Ljava/lang/Throwable;", .lays ne_NE Bundle.tN "stackTrace" Bundle.steD, .lays ne_NE Bundle.tN "suppressedExceptions" Bundle.listD, .lays ne_NE Bundle.tN "detailMessage" "Ljava/lang/String;", .isRef (.static Bundle.tN "UNASSIGNED_STACK" Bundle.steD), .isRef (.static Bundle.tN "SUPPRESSED_SENTINEL" Bundle.listD), .fieldLink Bundle.tN 198 Bundle.tN "backtrace" "Ljava/lang/Object;", .lays Bundle.tN Bundle.tN "backtrace" "Ljava/lang/Object;", .lays ne_NE Bundle.tN "backtrace" "Ljava/lang/Object;"]
def ne_all : List Cond := Bundle.throwableAtoms ++ Bundle.throwableSAtoms ++ (Bundle.passSAtoms ne_NE ne_RE 13 ne_code ++ Bundle.chainSAtoms ne_RE [ne_EX]) ++ ne_last
def wsNE : List Cond := (ne_all.filter vx_no).filter goodWord
def wsX2_of_r1 : List Cond := [Cond.classLink RX2 148 "java/util/NoSuchElementException", Cond.initialized "java/util/NoSuchElementException", Cond.fieldLink RX2 19 "SwingCircuits" "now" "LSwingCircuits$Swing;", Cond.fieldLink RX2 155 "SwingCircuits$Swing" "num" "[J", Cond.fieldLink RX2 158 "SwingCircuits$Swing" "den" "[J", Cond.fieldLink RX2 161 "SwingCircuits$Swing" "filling" "[Z", Cond.fieldLink RX2 30 "SwingCircuits" "tops" "[I", Cond.fieldLink RX2 34 "SwingCircuits" "bottoms" "[I", Cond.methodLink RX2 94 yX2_isCell, Cond.instanceMethod yX2_isCell, Cond.selects RX2 yX2_isCell yX2_isCell, Cond.initialized RX2, Cond.code yX2_isCell cX2_isCell 2 (some .boolean), Cond.fieldLink RX2 12 "SwingCircuits" "circuit" "LSwingCircuits$Circuit;", Cond.fieldLink RX2 76 "SwingCircuits$Circuit" "cells" "I", Cond.methodLink RX2 165 yX2_beatTerm, Cond.instanceMethod yX2_beatTerm, Cond.selects RX2 yX2_beatTerm yX2_beatTerm, Cond.code yX2_beatTerm cX2_beatTerm 7 (some .int), Cond.fieldLink RX2 85 "SwingCircuits$Circuit" "rise" "[I", Cond.fieldLink RX2 88 "SwingCircuits$Circuit" "fall" "[I", Cond.methodLink RX2 260 yX0_span, Cond.instanceMethod yX0_span, Cond.selects RX0 yX0_span yX0_span]
def wsX2_of_r2 : List Cond := [Cond.initialized RX0, Cond.code yX0_span cX0_span 2 (some .int), Cond.fieldLink RX0 19 "SwingCircuits$Circuit" "high" "[I", Cond.fieldLink RX0 15 "SwingCircuits$Circuit" "low" "[I", Cond.methodLink RX2 257 yX2_commonOf, Cond.static yX2_commonOf, Cond.code yX2_commonOf cX2_commonOf 11 (some .long)]
def wsX2_of : List Cond := .code yX2_of cX2_of 3 (some .int) :: ((wsX2_of_r1 ++ wsX2_of_r2) ++ wsX20 ++ wsX10 ++ wsX00 ++ wsNE)
def wsX2_counted : List Cond := .code yX2_counted cX2_counted 2 (some .int) :: ([.fieldLink RX2 12 "SwingCircuits" "circuit" "LSwingCircuits$Circuit;", .fieldLink RX2 101 "SwingCircuits$Circuit" "links" "I", .fieldLink RX2 19 "SwingCircuits" "now" "LSwingCircuits$Swing;", .fieldLink RX2 171 "SwingCircuits$Swing" "counts" "[I"] ++ wsX20 ++ wsX00 ++ wsX10)
def wsX2_turnedIn : List Cond := .code yX2_turnedIn cX2_turnedIn 2 (some .int) :: ([])
def wsX2_sideIn : List Cond := .code yX2_sideIn cX2_sideIn 2 (some .int) :: ([])
def wsX2_timeNumIn : List Cond := .code yX2_timeNumIn cX2_timeNumIn 2 (some .long) :: ([])
def wsX2_timeDenIn : List Cond := .code yX2_timeDenIn cX2_timeDenIn 2 (some .long) :: ([.constantLong RX2 267 (1048575)])
def wsX2_event : List Cond := .code yX2_event cX2_event 3 (some .int) :: ([.fieldLink RX2 26 "SwingCircuits" "happened" "I", .fieldLink RX2 37 "SwingCircuits" "kept" "[J", .methodLink RX2 174 yX2_turnedIn, .static yX2_turnedIn, .initialized RX2, .code yX2_turnedIn cX2_turnedIn 2 (some .int), .methodLink RX2 178 yX2_sideIn, .static yX2_sideIn, .code yX2_sideIn cX2_sideIn 2 (some .int), .methodLink RX2 181 yX2_timeNumIn, .static yX2_timeNumIn, .code yX2_timeNumIn cX2_timeNumIn 2 (some .long), .methodLink RX2 185 yX2_timeDenIn, .static yX2_timeDenIn, .code yX2_timeDenIn cX2_timeDenIn 2 (some .long), .constantLong RX2 267 (1048575)] ++ wsX20)
def wsX2_writeTrail : List Cond := .code yX2_writeTrail cX2_writeTrail 4 none :: ([.fieldLink RX2 41 "SwingCircuits" "trail" "[J", .fieldLink RX2 23 "SwingCircuits" "trial" "LSwingCircuits$Swing;", .fieldLink RX2 155 "SwingCircuits$Swing" "num" "[J", .fieldLink RX2 158 "SwingCircuits$Swing" "den" "[J", .methodLink RX2 237 yX2_packed, .static yX2_packed, .initialized RX2, .code yX2_packed cX2_packed 4 (some .long), .methodLink RX2 241 yX1_packedMarks, .instanceMethod yX1_packedMarks, .selects RX1 yX1_packedMarks yX1_packedMarks, .initialized RX1, .code yX1_packedMarks cX1_packedMarks 4 (some .long), .constantLong RX1 120 (2), .fieldLink RX1 25 "SwingCircuits$Swing" "filling" "[Z", .fieldLink RX1 29 "SwingCircuits$Swing" "counts" "[I", .methodLink RX2 227 yX1_packedEvent, .instanceMethod yX1_packedEvent, .selects RX1 yX1_packedEvent yX1_packedEvent, .code yX1_packedEvent cX1_packedEvent 1 (some .long), .fieldLink RX1 9 "SwingCircuits$Swing" "timeNum" "J", .fieldLink RX1 15 "SwingCircuits$Swing" "timeDen" "J", .fieldLink RX1 33 "SwingCircuits$Swing" "turned" "I", .fieldLink RX1 37 "SwingCircuits$Swing" "side" "I"] ++ wsX20 ++ wsX10)
def wsX2_isSameState : List Cond := .code yX2_isSameState cX2_isSameState 4 (some .boolean) :: ([.fieldLink RX2 41 "SwingCircuits" "trail" "[J"] ++ wsX20)
def wsX2_sameAhead : List Cond := .code yX2_sameAhead cX2_sameAhead 3 (some .int) :: ([.methodLink RX2 244 yX2_isSameState, .instanceMethod yX2_isSameState, .selects RX2 yX2_isSameState yX2_isSameState, .initialized RX2, .code yX2_isSameState cX2_isSameState 4 (some .boolean), .fieldLink RX2 41 "SwingCircuits" "trail" "[J"] ++ wsX20)
def wsX2_eventInRow : List Cond := .code yX2_eventInRow cX2_eventInRow 2 (some .long) :: ([.fieldLink RX2 41 "SwingCircuits" "trail" "[J"] ++ wsX20)
def wsX2_betweenNum : List Cond := .code yX2_betweenNum cX2_betweenNum 4 (some .long) :: ([.methodLink RX2 181 yX2_timeNumIn, .static yX2_timeNumIn, .initialized RX2, .code yX2_timeNumIn cX2_timeNumIn 2 (some .long), .methodLink RX2 185 yX2_timeDenIn, .static yX2_timeDenIn, .code yX2_timeDenIn cX2_timeDenIn 2 (some .long), .constantLong RX2 267 (1048575)])
def wsX2_betweenDen : List Cond := .code yX2_betweenDen cX2_betweenDen 4 (some .long) :: ([.methodLink RX2 185 yX2_timeDenIn, .static yX2_timeDenIn, .initialized RX2, .code yX2_timeDenIn cX2_timeDenIn 2 (some .long), .constantLong RX2 267 (1048575)])
def wsX2_keepRing_r1 : List Cond := [Cond.fieldLink RX2 44 "SwingCircuits" "ringAnswers" "[J", Cond.fieldLink RX2 47 "SwingCircuits" "ringFound" "Z", Cond.methodLink RX2 247 yX2_eventInRow, Cond.instanceMethod yX2_eventInRow, Cond.selects RX2 yX2_eventInRow yX2_eventInRow, Cond.initialized RX2, Cond.code yX2_eventInRow cX2_eventInRow 2 (some .long), Cond.fieldLink RX2 41 "SwingCircuits" "trail" "[J", Cond.methodLink RX2 251 yX2_betweenNum, Cond.static yX2_betweenNum, Cond.code yX2_betweenNum cX2_betweenNum 4 (some .long), Cond.methodLink RX2 181 yX2_timeNumIn, Cond.static yX2_timeNumIn, Cond.code yX2_timeNumIn cX2_timeNumIn 2 (some .long), Cond.methodLink RX2 185 yX2_timeDenIn, Cond.static yX2_timeDenIn, Cond.code yX2_timeDenIn cX2_timeDenIn 2 (some .long), Cond.constantLong RX2 267 (1048575), Cond.methodLink RX2 254 yX2_betweenDen, Cond.static yX2_betweenDen, Cond.code yX2_betweenDen cX2_betweenDen 4 (some .long), Cond.methodLink RX2 257 yX2_commonOf, Cond.static yX2_commonOf, Cond.code yX2_commonOf cX2_commonOf 11 (some .long)]
def wsX2_keepRing_r2 : List Cond := [Cond.methodLink RX2 178 yX2_sideIn, Cond.static yX2_sideIn, Cond.code yX2_sideIn cX2_sideIn 2 (some .int), Cond.methodLink RX2 174 yX2_turnedIn, Cond.static yX2_turnedIn, Cond.code yX2_turnedIn cX2_turnedIn 2 (some .int)]
def wsX2_keepRing : List Cond := .code yX2_keepRing cX2_keepRing 10 none :: ((wsX2_keepRing_r1 ++ wsX2_keepRing_r2) ++ wsX20)
def wsX2_ring_r1 : List Cond := [Cond.fieldLink RX2 12 "SwingCircuits" "circuit" "LSwingCircuits$Circuit;", Cond.fieldLink RX2 76 "SwingCircuits$Circuit" "cells" "I", Cond.fieldLink RX2 23 "SwingCircuits" "trial" "LSwingCircuits$Swing;", Cond.fieldLink RX2 19 "SwingCircuits" "now" "LSwingCircuits$Swing;", Cond.methodLink RX2 126 yX1_copyFrom, Cond.instanceMethod yX1_copyFrom, Cond.selects RX1 yX1_copyFrom yX1_copyFrom, Cond.initialized RX1, Cond.code yX1_copyFrom cX1_copyFrom 3 none, Cond.fieldLink RX1 9 "SwingCircuits$Swing" "timeNum" "J", Cond.fieldLink RX1 15 "SwingCircuits$Swing" "timeDen" "J", Cond.fieldLink RX1 18 "SwingCircuits$Swing" "num" "[J", Cond.fieldLink RX1 22 "SwingCircuits$Swing" "den" "[J", Cond.fieldLink RX1 25 "SwingCircuits$Swing" "filling" "[Z", Cond.fieldLink RX1 29 "SwingCircuits$Swing" "counts" "[I", Cond.methodLink RX2 188 yX2_writeTrail, Cond.instanceMethod yX2_writeTrail, Cond.selects RX2 yX2_writeTrail yX2_writeTrail, Cond.initialized RX2, Cond.code yX2_writeTrail cX2_writeTrail 4 none, Cond.fieldLink RX2 41 "SwingCircuits" "trail" "[J", Cond.fieldLink RX2 155 "SwingCircuits$Swing" "num" "[J", Cond.fieldLink RX2 158 "SwingCircuits$Swing" "den" "[J", Cond.methodLink RX2 237 yX2_packed]
def wsX2_ring_r2 : List Cond := [Cond.static yX2_packed, Cond.code yX2_packed cX2_packed 4 (some .long), Cond.methodLink RX2 241 yX1_packedMarks, Cond.instanceMethod yX1_packedMarks, Cond.selects RX1 yX1_packedMarks yX1_packedMarks, Cond.code yX1_packedMarks cX1_packedMarks 4 (some .long), Cond.constantLong RX1 120 (2), Cond.methodLink RX2 227 yX1_packedEvent, Cond.instanceMethod yX1_packedEvent, Cond.selects RX1 yX1_packedEvent yX1_packedEvent, Cond.code yX1_packedEvent cX1_packedEvent 1 (some .long), Cond.fieldLink RX1 33 "SwingCircuits$Swing" "turned" "I", Cond.fieldLink RX1 37 "SwingCircuits$Swing" "side" "I", Cond.methodLink RX2 130 yX1_advance, Cond.instanceMethod yX1_advance, Cond.selects RX1 yX1_advance yX1_advance, Cond.code yX1_advance cX1_advance 2 (some .boolean), Cond.fieldLink RX1 51 "SwingCircuits$Circuit" "cells" "I", Cond.methodLink RX1 54 yX1_chooseTurning, Cond.instanceMethod yX1_chooseTurning, Cond.selects RX1 yX1_chooseTurning yX1_chooseTurning, Cond.code yX1_chooseTurning cX1_chooseTurning 7 none, Cond.fieldLink RX1 68 "SwingCircuits$Circuit" "high" "[I", Cond.fieldLink RX1 46 "SwingCircuits$Circuit" "low" "[I"]
def wsX2_ring_r3 : List Cond := [Cond.fieldLink RX1 71 "SwingCircuits$Circuit" "rise" "[I", Cond.fieldLink RX1 74 "SwingCircuits$Circuit" "fall" "[I", Cond.fieldLink RX1 43 "SwingCircuits$Swing" "waitDen" "J", Cond.fieldLink RX1 40 "SwingCircuits$Swing" "waitNum" "J", Cond.methodLink RX1 58 yX1_letTimePass, Cond.instanceMethod yX1_letTimePass, Cond.selects RX1 yX1_letTimePass yX1_letTimePass, Cond.code yX1_letTimePass cX1_letTimePass 11 none, Cond.static yX2_commonOf, Cond.code yX2_commonOf cX2_commonOf 11 (some .long), Cond.methodLink RX1 61 yX1_passOn, Cond.instanceMethod yX1_passOn, Cond.selects RX1 yX1_passOn yX1_passOn, Cond.code yX1_passOn cX1_passOn 3 none, Cond.fieldLink RX1 81 "SwingCircuits$Circuit" "links" "I", Cond.fieldLink RX1 84 "SwingCircuits$Circuit" "from" "[I", Cond.fieldLink RX1 87 "SwingCircuits$Circuit" "at" "[I", Cond.fieldLink RX1 90 "SwingCircuits$Circuit" "nth" "[I", Cond.methodLink RX1 93 yX1_doAct, Cond.instanceMethod yX1_doAct, Cond.selects RX1 yX1_doAct yX1_doAct, Cond.code yX1_doAct cX1_doAct 4 none, Cond.fieldLink RX1 97 "SwingCircuits$Circuit" "to" "[I", Cond.fieldLink RX1 100 "SwingCircuits$Circuit" "act" "[I"]
def wsX2_ring_r4 : List Cond := [Cond.fieldLink RX1 103 "SwingCircuits$Circuit" "by" "[I", Cond.methodLink RX1 106 yX1_keepBetweenBars, Cond.instanceMethod yX1_keepBetweenBars, Cond.selects RX1 yX1_keepBetweenBars yX1_keepBetweenBars, Cond.code yX1_keepBetweenBars cX1_keepBetweenBars 3 none, Cond.methodLink RX1 64 yX1_isSpent, Cond.instanceMethod yX1_isSpent, Cond.selects RX1 yX1_isSpent yX1_isSpent, Cond.code yX1_isSpent cX1_isSpent 3 (some .boolean), Cond.methodLink RX1 109 yX1_isTooLong, Cond.static yX1_isTooLong, Cond.code yX1_isTooLong cX1_isTooLong 4 (some .boolean), Cond.constantLong RX1 113 (1000000), Cond.constantLong RX1 115 (-1000000), Cond.methodLink RX2 192 yX2_sameAhead, Cond.instanceMethod yX2_sameAhead, Cond.selects RX2 yX2_sameAhead yX2_sameAhead, Cond.code yX2_sameAhead cX2_sameAhead 3 (some .int), Cond.methodLink RX2 244 yX2_isSameState, Cond.instanceMethod yX2_isSameState, Cond.selects RX2 yX2_isSameState yX2_isSameState, Cond.code yX2_isSameState cX2_isSameState 4 (some .boolean), Cond.methodLink RX2 196 yX2_keepRing, Cond.instanceMethod yX2_keepRing]
def wsX2_ring_r5 : List Cond := [Cond.selects RX2 yX2_keepRing yX2_keepRing, Cond.code yX2_keepRing cX2_keepRing 10 none, Cond.fieldLink RX2 44 "SwingCircuits" "ringAnswers" "[J", Cond.fieldLink RX2 47 "SwingCircuits" "ringFound" "Z", Cond.methodLink RX2 247 yX2_eventInRow, Cond.instanceMethod yX2_eventInRow, Cond.selects RX2 yX2_eventInRow yX2_eventInRow, Cond.code yX2_eventInRow cX2_eventInRow 2 (some .long), Cond.methodLink RX2 251 yX2_betweenNum, Cond.static yX2_betweenNum, Cond.code yX2_betweenNum cX2_betweenNum 4 (some .long), Cond.methodLink RX2 181 yX2_timeNumIn, Cond.static yX2_timeNumIn, Cond.code yX2_timeNumIn cX2_timeNumIn 2 (some .long), Cond.methodLink RX2 185 yX2_timeDenIn, Cond.static yX2_timeDenIn, Cond.code yX2_timeDenIn cX2_timeDenIn 2 (some .long), Cond.constantLong RX2 267 (1048575), Cond.methodLink RX2 254 yX2_betweenDen, Cond.static yX2_betweenDen, Cond.code yX2_betweenDen cX2_betweenDen 4 (some .long), Cond.methodLink RX2 257 yX2_commonOf, Cond.methodLink RX2 178 yX2_sideIn, Cond.static yX2_sideIn]
def wsX2_ring_r6 : List Cond := [Cond.code yX2_sideIn cX2_sideIn 2 (some .int), Cond.methodLink RX2 174 yX2_turnedIn, Cond.static yX2_turnedIn, Cond.code yX2_turnedIn cX2_turnedIn 2 (some .int)]
def wsX2_ring : List Cond := .code yX2_ring cX2_ring 4 (some .int) :: ((wsX2_ring_r1 ++ (wsX2_ring_r2 ++ (wsX2_ring_r3 ++ (wsX2_ring_r4 ++ (wsX2_ring_r5 ++ wsX2_ring_r6))))) ++ wsX20 ++ wsX00 ++ wsX10)
def wsX2_ringed : List Cond := .code yX2_ringed cX2_ringed 2 (some .long) :: ([.fieldLink RX2 47 "SwingCircuits" "ringFound" "Z", .fieldLink RX2 44 "SwingCircuits" "ringAnswers" "[J", .constantLong RX2 200 (-1)] ++ wsX20)
def wsX2_isStocked : List Cond := .code yX2_isStocked cX2_isStocked 3 (some .boolean) :: ([.fieldLink RX2 54 "SwingCircuits" "stocked" "I", .fieldLink RX2 51 "SwingCircuits" "stock" "[I"] ++ wsX20)
def wsX2_drawer : List Cond := .code yX2_drawer cX2_drawer 2 (some .int) :: ([.fieldLink RX2 54 "SwingCircuits" "stocked" "I", .fieldLink RX2 51 "SwingCircuits" "stock" "[I", .methodLink RX2 72 yX2_isRate, .static yX2_isRate, .initialized RX2, .code yX2_isRate cX2_isRate 1 (some .boolean), .methodLink RX2 202 yX2_isStocked, .instanceMethod yX2_isStocked, .selects RX2 yX2_isStocked yX2_isStocked, .code yX2_isStocked cX2_isStocked 3 (some .boolean)] ++ wsX20)
def wsX2_isTerm : List Cond := .code yX2_isTerm cX2_isTerm 1 (some .boolean) :: ([.constant RX2 222 (1000000)])
def wsX2_findWays : List Cond := .code yX2_findWays cX2_findWays 11 (some .int) :: ([.fieldLink RX2 54 "SwingCircuits" "stocked" "I", .fieldLink RX2 12 "SwingCircuits" "circuit" "LSwingCircuits$Circuit;", .fieldLink RX2 51 "SwingCircuits" "stock" "[I", .fieldLink RX2 66 "SwingCircuits" "waysFound" "[I", .methodLink RX2 260 yX0_span, .instanceMethod yX0_span, .selects RX0 yX0_span yX0_span, .initialized RX0, .code yX0_span cX0_span 2 (some .int), .fieldLink RX0 19 "SwingCircuits$Circuit" "high" "[I", .fieldLink RX0 15 "SwingCircuits$Circuit" "low" "[I"] ++ wsX20 ++ wsX00)
def wsX2_parts_r1 : List Cond := [Cond.methodLink RX2 94 yX2_isCell, Cond.instanceMethod yX2_isCell, Cond.selects RX2 yX2_isCell yX2_isCell, Cond.initialized RX2, Cond.code yX2_isCell cX2_isCell 2 (some .boolean), Cond.fieldLink RX2 12 "SwingCircuits" "circuit" "LSwingCircuits$Circuit;", Cond.fieldLink RX2 76 "SwingCircuits$Circuit" "cells" "I", Cond.methodLink RX2 205 yX2_isTerm, Cond.static yX2_isTerm, Cond.code yX2_isTerm cX2_isTerm 1 (some .boolean), Cond.constant RX2 222 (1000000), Cond.methodLink RX2 208 yX2_findWays, Cond.instanceMethod yX2_findWays, Cond.selects RX2 yX2_findWays yX2_findWays, Cond.code yX2_findWays cX2_findWays 11 (some .int), Cond.fieldLink RX2 54 "SwingCircuits" "stocked" "I", Cond.fieldLink RX2 51 "SwingCircuits" "stock" "[I", Cond.fieldLink RX2 66 "SwingCircuits" "waysFound" "[I", Cond.methodLink RX2 260 yX0_span, Cond.instanceMethod yX0_span, Cond.selects RX0 yX0_span yX0_span, Cond.initialized RX0, Cond.code yX0_span cX0_span 2 (some .int), Cond.fieldLink RX0 19 "SwingCircuits$Circuit" "high" "[I"]
def wsX2_parts_r2 : List Cond := [Cond.fieldLink RX0 15 "SwingCircuits$Circuit" "low" "[I"]
def wsX2_parts : List Cond := .code yX2_parts cX2_parts 4 (some .int) :: ((wsX2_parts_r1 ++ wsX2_parts_r2) ++ wsX20 ++ wsX00)
def wsX2_part_r1 : List Cond := [Cond.fieldLink RX2 66 "SwingCircuits" "waysFound" "[I", Cond.methodLink RX2 212 yX2_parts, Cond.instanceMethod yX2_parts, Cond.selects RX2 yX2_parts yX2_parts, Cond.initialized RX2, Cond.code yX2_parts cX2_parts 4 (some .int), Cond.methodLink RX2 94 yX2_isCell, Cond.instanceMethod yX2_isCell, Cond.selects RX2 yX2_isCell yX2_isCell, Cond.code yX2_isCell cX2_isCell 2 (some .boolean), Cond.fieldLink RX2 12 "SwingCircuits" "circuit" "LSwingCircuits$Circuit;", Cond.fieldLink RX2 76 "SwingCircuits$Circuit" "cells" "I", Cond.methodLink RX2 205 yX2_isTerm, Cond.static yX2_isTerm, Cond.code yX2_isTerm cX2_isTerm 1 (some .boolean), Cond.constant RX2 222 (1000000), Cond.methodLink RX2 208 yX2_findWays, Cond.instanceMethod yX2_findWays, Cond.selects RX2 yX2_findWays yX2_findWays, Cond.code yX2_findWays cX2_findWays 11 (some .int), Cond.fieldLink RX2 54 "SwingCircuits" "stocked" "I", Cond.fieldLink RX2 51 "SwingCircuits" "stock" "[I", Cond.methodLink RX2 260 yX0_span, Cond.instanceMethod yX0_span]
def wsX2_part_r2 : List Cond := [Cond.selects RX0 yX0_span yX0_span, Cond.initialized RX0, Cond.code yX0_span cX0_span 2 (some .int), Cond.fieldLink RX0 19 "SwingCircuits$Circuit" "high" "[I", Cond.fieldLink RX0 15 "SwingCircuits$Circuit" "low" "[I"]
def wsX2_part : List Cond := .code yX2_part cX2_part 6 (some .int) :: ((wsX2_part_r1 ++ wsX2_part_r2) ++ wsX20 ++ wsX00)
def wsX2_measure : List Cond := .code yX2_measure cX2_measure 3 (some .int) :: ([.fieldLink RX2 63 "SwingCircuits" "measures" "I", .fieldLink RX2 57 "SwingCircuits" "measuredNum" "[I", .fieldLink RX2 60 "SwingCircuits" "measuredDen" "[I", .methodLink RX2 205 yX2_isTerm, .static yX2_isTerm, .initialized RX2, .code yX2_isTerm cX2_isTerm 1 (some .boolean), .constant RX2 222 (1000000)] ++ wsX20)
def wsX2_forget : List Cond := .code yX2_forget cX2_forget 2 (some .int) :: ([.fieldLink RX2 63 "SwingCircuits" "measures" "I"] ++ wsX20)
def wsX2_isMeasure : List Cond := .code yX2_isMeasure cX2_isMeasure 6 (some .boolean) :: ([.fieldLink RX2 60 "SwingCircuits" "measuredDen" "[I", .fieldLink RX2 57 "SwingCircuits" "measuredNum" "[I", .methodLink RX2 251 yX2_betweenNum, .static yX2_betweenNum, .initialized RX2, .code yX2_betweenNum cX2_betweenNum 4 (some .long), .methodLink RX2 181 yX2_timeNumIn, .static yX2_timeNumIn, .code yX2_timeNumIn cX2_timeNumIn 2 (some .long), .methodLink RX2 185 yX2_timeDenIn, .static yX2_timeDenIn, .code yX2_timeDenIn cX2_timeDenIn 2 (some .long), .constantLong RX2 267 (1048575), .methodLink RX2 254 yX2_betweenDen, .static yX2_betweenDen, .code yX2_betweenDen cX2_betweenDen 4 (some .long)] ++ wsX20)
def wsX2_isMeasuredSo_r1 : List Cond := [Cond.fieldLink RX2 63 "SwingCircuits" "measures" "I", Cond.fieldLink RX2 23 "SwingCircuits" "trial" "LSwingCircuits$Swing;", Cond.fieldLink RX2 12 "SwingCircuits" "circuit" "LSwingCircuits$Circuit;", Cond.fieldLink RX2 234 "SwingCircuits$Swing" "turned" "I", Cond.fieldLink RX2 231 "SwingCircuits$Swing" "side" "I", Cond.methodLink RX2 223 yX1_restart, Cond.instanceMethod yX1_restart, Cond.selects RX1 yX1_restart yX1_restart, Cond.initialized RX1, Cond.code yX1_restart cX1_restart 3 none, Cond.fieldLink RX1 9 "SwingCircuits$Swing" "timeNum" "J", Cond.fieldLink RX1 15 "SwingCircuits$Swing" "timeDen" "J", Cond.fieldLink RX1 18 "SwingCircuits$Swing" "num" "[J", Cond.fieldLink RX1 46 "SwingCircuits$Circuit" "low" "[I", Cond.fieldLink RX1 22 "SwingCircuits$Swing" "den" "[J", Cond.fieldLink RX1 25 "SwingCircuits$Swing" "filling" "[Z", Cond.fieldLink RX1 29 "SwingCircuits$Swing" "counts" "[I", Cond.methodLink RX2 130 yX1_advance, Cond.instanceMethod yX1_advance, Cond.selects RX1 yX1_advance yX1_advance, Cond.code yX1_advance cX1_advance 2 (some .boolean), Cond.fieldLink RX1 51 "SwingCircuits$Circuit" "cells" "I", Cond.fieldLink RX1 33 "SwingCircuits$Swing" "turned" "I", Cond.fieldLink RX1 37 "SwingCircuits$Swing" "side" "I"]
def wsX2_isMeasuredSo_r2 : List Cond := [Cond.methodLink RX1 54 yX1_chooseTurning, Cond.instanceMethod yX1_chooseTurning, Cond.selects RX1 yX1_chooseTurning yX1_chooseTurning, Cond.code yX1_chooseTurning cX1_chooseTurning 7 none, Cond.fieldLink RX1 68 "SwingCircuits$Circuit" "high" "[I", Cond.fieldLink RX1 71 "SwingCircuits$Circuit" "rise" "[I", Cond.fieldLink RX1 74 "SwingCircuits$Circuit" "fall" "[I", Cond.fieldLink RX1 43 "SwingCircuits$Swing" "waitDen" "J", Cond.fieldLink RX1 40 "SwingCircuits$Swing" "waitNum" "J", Cond.methodLink RX1 58 yX1_letTimePass, Cond.instanceMethod yX1_letTimePass, Cond.selects RX1 yX1_letTimePass yX1_letTimePass, Cond.code yX1_letTimePass cX1_letTimePass 11 none, Cond.static yX2_commonOf, Cond.initialized RX2, Cond.code yX2_commonOf cX2_commonOf 11 (some .long), Cond.methodLink RX1 61 yX1_passOn, Cond.instanceMethod yX1_passOn, Cond.selects RX1 yX1_passOn yX1_passOn, Cond.code yX1_passOn cX1_passOn 3 none, Cond.fieldLink RX1 81 "SwingCircuits$Circuit" "links" "I", Cond.fieldLink RX1 84 "SwingCircuits$Circuit" "from" "[I", Cond.fieldLink RX1 87 "SwingCircuits$Circuit" "at" "[I", Cond.fieldLink RX1 90 "SwingCircuits$Circuit" "nth" "[I"]
def wsX2_isMeasuredSo_r3 : List Cond := [Cond.methodLink RX1 93 yX1_doAct, Cond.instanceMethod yX1_doAct, Cond.selects RX1 yX1_doAct yX1_doAct, Cond.code yX1_doAct cX1_doAct 4 none, Cond.fieldLink RX1 97 "SwingCircuits$Circuit" "to" "[I", Cond.fieldLink RX1 100 "SwingCircuits$Circuit" "act" "[I", Cond.fieldLink RX1 103 "SwingCircuits$Circuit" "by" "[I", Cond.methodLink RX1 106 yX1_keepBetweenBars, Cond.instanceMethod yX1_keepBetweenBars, Cond.selects RX1 yX1_keepBetweenBars yX1_keepBetweenBars, Cond.code yX1_keepBetweenBars cX1_keepBetweenBars 3 none, Cond.methodLink RX1 64 yX1_isSpent, Cond.instanceMethod yX1_isSpent, Cond.selects RX1 yX1_isSpent yX1_isSpent, Cond.code yX1_isSpent cX1_isSpent 3 (some .boolean), Cond.methodLink RX1 109 yX1_isTooLong, Cond.static yX1_isTooLong, Cond.code yX1_isTooLong cX1_isTooLong 4 (some .boolean), Cond.constantLong RX1 113 (1000000), Cond.constantLong RX1 115 (-1000000), Cond.methodLink RX2 227 yX1_packedEvent, Cond.instanceMethod yX1_packedEvent, Cond.selects RX1 yX1_packedEvent yX1_packedEvent, Cond.code yX1_packedEvent cX1_packedEvent 1 (some .long)]
def wsX2_isMeasuredSo_r4 : List Cond := [Cond.static yX2_packed, Cond.code yX2_packed cX2_packed 4 (some .long), Cond.methodLink RX2 263 yX2_isMeasure, Cond.instanceMethod yX2_isMeasure, Cond.selects RX2 yX2_isMeasure yX2_isMeasure, Cond.code yX2_isMeasure cX2_isMeasure 6 (some .boolean), Cond.fieldLink RX2 60 "SwingCircuits" "measuredDen" "[I", Cond.fieldLink RX2 57 "SwingCircuits" "measuredNum" "[I", Cond.methodLink RX2 251 yX2_betweenNum, Cond.static yX2_betweenNum, Cond.code yX2_betweenNum cX2_betweenNum 4 (some .long), Cond.methodLink RX2 181 yX2_timeNumIn, Cond.static yX2_timeNumIn, Cond.code yX2_timeNumIn cX2_timeNumIn 2 (some .long), Cond.methodLink RX2 185 yX2_timeDenIn, Cond.static yX2_timeDenIn, Cond.code yX2_timeDenIn cX2_timeDenIn 2 (some .long), Cond.constantLong RX2 267 (1048575), Cond.methodLink RX2 254 yX2_betweenDen, Cond.static yX2_betweenDen, Cond.code yX2_betweenDen cX2_betweenDen 4 (some .long)]
def wsX2_isMeasuredSo : List Cond := .code yX2_isMeasuredSo cX2_isMeasuredSo 8 (some .boolean) :: ((wsX2_isMeasuredSo_r1 ++ (wsX2_isMeasuredSo_r2 ++ (wsX2_isMeasuredSo_r3 ++ wsX2_isMeasuredSo_r4))) ++ wsX20 ++ wsX10 ++ wsX00)
def wsX2_findFaults_r1 : List Cond := [Cond.fieldLink RX2 12 "SwingCircuits" "circuit" "LSwingCircuits$Circuit;", Cond.fieldLink RX2 76 "SwingCircuits$Circuit" "cells" "I", Cond.fieldLink RX2 54 "SwingCircuits" "stocked" "I", Cond.fieldLink RX2 51 "SwingCircuits" "stock" "[I", Cond.fieldLink RX2 69 "SwingCircuits" "faultsFound" "[I", Cond.methodLink RX2 122 yX0_ratesOf, Cond.instanceMethod yX0_ratesOf, Cond.selects RX0 yX0_ratesOf yX0_ratesOf, Cond.initialized RX0, Cond.code yX0_ratesOf cX0_ratesOf 2 (some (.array .int)), Cond.fieldLink RX0 22 "SwingCircuits$Circuit" "rise" "[I", Cond.fieldLink RX0 25 "SwingCircuits$Circuit" "fall" "[I", Cond.methodLink RX2 219 yX2_isMeasuredSo, Cond.instanceMethod yX2_isMeasuredSo, Cond.selects RX2 yX2_isMeasuredSo yX2_isMeasuredSo, Cond.initialized RX2, Cond.code yX2_isMeasuredSo cX2_isMeasuredSo 8 (some .boolean), Cond.fieldLink RX2 63 "SwingCircuits" "measures" "I", Cond.fieldLink RX2 23 "SwingCircuits" "trial" "LSwingCircuits$Swing;", Cond.fieldLink RX2 234 "SwingCircuits$Swing" "turned" "I", Cond.fieldLink RX2 231 "SwingCircuits$Swing" "side" "I", Cond.methodLink RX2 223 yX1_restart, Cond.instanceMethod yX1_restart, Cond.selects RX1 yX1_restart yX1_restart]
def wsX2_findFaults_r2 : List Cond := [Cond.initialized RX1, Cond.code yX1_restart cX1_restart 3 none, Cond.fieldLink RX1 9 "SwingCircuits$Swing" "timeNum" "J", Cond.fieldLink RX1 15 "SwingCircuits$Swing" "timeDen" "J", Cond.fieldLink RX1 18 "SwingCircuits$Swing" "num" "[J", Cond.fieldLink RX1 46 "SwingCircuits$Circuit" "low" "[I", Cond.fieldLink RX1 22 "SwingCircuits$Swing" "den" "[J", Cond.fieldLink RX1 25 "SwingCircuits$Swing" "filling" "[Z", Cond.fieldLink RX1 29 "SwingCircuits$Swing" "counts" "[I", Cond.methodLink RX2 130 yX1_advance, Cond.instanceMethod yX1_advance, Cond.selects RX1 yX1_advance yX1_advance, Cond.code yX1_advance cX1_advance 2 (some .boolean), Cond.fieldLink RX1 51 "SwingCircuits$Circuit" "cells" "I", Cond.fieldLink RX1 33 "SwingCircuits$Swing" "turned" "I", Cond.fieldLink RX1 37 "SwingCircuits$Swing" "side" "I", Cond.methodLink RX1 54 yX1_chooseTurning, Cond.instanceMethod yX1_chooseTurning, Cond.selects RX1 yX1_chooseTurning yX1_chooseTurning, Cond.code yX1_chooseTurning cX1_chooseTurning 7 none, Cond.fieldLink RX1 68 "SwingCircuits$Circuit" "high" "[I", Cond.fieldLink RX1 71 "SwingCircuits$Circuit" "rise" "[I", Cond.fieldLink RX1 74 "SwingCircuits$Circuit" "fall" "[I", Cond.fieldLink RX1 43 "SwingCircuits$Swing" "waitDen" "J"]
def wsX2_findFaults_r3 : List Cond := [Cond.fieldLink RX1 40 "SwingCircuits$Swing" "waitNum" "J", Cond.methodLink RX1 58 yX1_letTimePass, Cond.instanceMethod yX1_letTimePass, Cond.selects RX1 yX1_letTimePass yX1_letTimePass, Cond.code yX1_letTimePass cX1_letTimePass 11 none, Cond.static yX2_commonOf, Cond.code yX2_commonOf cX2_commonOf 11 (some .long), Cond.methodLink RX1 61 yX1_passOn, Cond.instanceMethod yX1_passOn, Cond.selects RX1 yX1_passOn yX1_passOn, Cond.code yX1_passOn cX1_passOn 3 none, Cond.fieldLink RX1 81 "SwingCircuits$Circuit" "links" "I", Cond.fieldLink RX1 84 "SwingCircuits$Circuit" "from" "[I", Cond.fieldLink RX1 87 "SwingCircuits$Circuit" "at" "[I", Cond.fieldLink RX1 90 "SwingCircuits$Circuit" "nth" "[I", Cond.methodLink RX1 93 yX1_doAct, Cond.instanceMethod yX1_doAct, Cond.selects RX1 yX1_doAct yX1_doAct, Cond.code yX1_doAct cX1_doAct 4 none, Cond.fieldLink RX1 97 "SwingCircuits$Circuit" "to" "[I", Cond.fieldLink RX1 100 "SwingCircuits$Circuit" "act" "[I", Cond.fieldLink RX1 103 "SwingCircuits$Circuit" "by" "[I", Cond.methodLink RX1 106 yX1_keepBetweenBars, Cond.instanceMethod yX1_keepBetweenBars]
def wsX2_findFaults_r4 : List Cond := [Cond.selects RX1 yX1_keepBetweenBars yX1_keepBetweenBars, Cond.code yX1_keepBetweenBars cX1_keepBetweenBars 3 none, Cond.methodLink RX1 64 yX1_isSpent, Cond.instanceMethod yX1_isSpent, Cond.selects RX1 yX1_isSpent yX1_isSpent, Cond.code yX1_isSpent cX1_isSpent 3 (some .boolean), Cond.methodLink RX1 109 yX1_isTooLong, Cond.static yX1_isTooLong, Cond.code yX1_isTooLong cX1_isTooLong 4 (some .boolean), Cond.constantLong RX1 113 (1000000), Cond.constantLong RX1 115 (-1000000), Cond.methodLink RX2 227 yX1_packedEvent, Cond.instanceMethod yX1_packedEvent, Cond.selects RX1 yX1_packedEvent yX1_packedEvent, Cond.code yX1_packedEvent cX1_packedEvent 1 (some .long), Cond.static yX2_packed, Cond.code yX2_packed cX2_packed 4 (some .long), Cond.methodLink RX2 263 yX2_isMeasure, Cond.instanceMethod yX2_isMeasure, Cond.selects RX2 yX2_isMeasure yX2_isMeasure, Cond.code yX2_isMeasure cX2_isMeasure 6 (some .boolean), Cond.fieldLink RX2 60 "SwingCircuits" "measuredDen" "[I", Cond.fieldLink RX2 57 "SwingCircuits" "measuredNum" "[I", Cond.methodLink RX2 251 yX2_betweenNum]
def wsX2_findFaults_r5 : List Cond := [Cond.static yX2_betweenNum, Cond.code yX2_betweenNum cX2_betweenNum 4 (some .long), Cond.methodLink RX2 181 yX2_timeNumIn, Cond.static yX2_timeNumIn, Cond.code yX2_timeNumIn cX2_timeNumIn 2 (some .long), Cond.methodLink RX2 185 yX2_timeDenIn, Cond.static yX2_timeDenIn, Cond.code yX2_timeDenIn cX2_timeDenIn 2 (some .long), Cond.constantLong RX2 267 (1048575), Cond.methodLink RX2 254 yX2_betweenDen, Cond.static yX2_betweenDen, Cond.code yX2_betweenDen cX2_betweenDen 4 (some .long)]
def wsX2_findFaults : List Cond := .code yX2_findFaults cX2_findFaults 8 (some .int) :: ((wsX2_findFaults_r1 ++ (wsX2_findFaults_r2 ++ (wsX2_findFaults_r3 ++ (wsX2_findFaults_r4 ++ wsX2_findFaults_r5)))) ++ wsX20 ++ wsX00 ++ wsX10)
def wsX2_faults_r1 : List Cond := [Cond.methodLink RX2 94 yX2_isCell, Cond.instanceMethod yX2_isCell, Cond.selects RX2 yX2_isCell yX2_isCell, Cond.initialized RX2, Cond.code yX2_isCell cX2_isCell 2 (some .boolean), Cond.fieldLink RX2 12 "SwingCircuits" "circuit" "LSwingCircuits$Circuit;", Cond.fieldLink RX2 76 "SwingCircuits$Circuit" "cells" "I", Cond.methodLink RX2 216 yX2_findFaults, Cond.instanceMethod yX2_findFaults, Cond.selects RX2 yX2_findFaults yX2_findFaults, Cond.code yX2_findFaults cX2_findFaults 8 (some .int), Cond.fieldLink RX2 54 "SwingCircuits" "stocked" "I", Cond.fieldLink RX2 51 "SwingCircuits" "stock" "[I", Cond.fieldLink RX2 69 "SwingCircuits" "faultsFound" "[I", Cond.methodLink RX2 122 yX0_ratesOf, Cond.instanceMethod yX0_ratesOf, Cond.selects RX0 yX0_ratesOf yX0_ratesOf, Cond.initialized RX0, Cond.code yX0_ratesOf cX0_ratesOf 2 (some (.array .int)), Cond.fieldLink RX0 22 "SwingCircuits$Circuit" "rise" "[I", Cond.fieldLink RX0 25 "SwingCircuits$Circuit" "fall" "[I", Cond.methodLink RX2 219 yX2_isMeasuredSo, Cond.instanceMethod yX2_isMeasuredSo, Cond.selects RX2 yX2_isMeasuredSo yX2_isMeasuredSo]
def wsX2_faults_r2 : List Cond := [Cond.code yX2_isMeasuredSo cX2_isMeasuredSo 8 (some .boolean), Cond.fieldLink RX2 63 "SwingCircuits" "measures" "I", Cond.fieldLink RX2 23 "SwingCircuits" "trial" "LSwingCircuits$Swing;", Cond.fieldLink RX2 234 "SwingCircuits$Swing" "turned" "I", Cond.fieldLink RX2 231 "SwingCircuits$Swing" "side" "I", Cond.methodLink RX2 223 yX1_restart, Cond.instanceMethod yX1_restart, Cond.selects RX1 yX1_restart yX1_restart, Cond.initialized RX1, Cond.code yX1_restart cX1_restart 3 none, Cond.fieldLink RX1 9 "SwingCircuits$Swing" "timeNum" "J", Cond.fieldLink RX1 15 "SwingCircuits$Swing" "timeDen" "J", Cond.fieldLink RX1 18 "SwingCircuits$Swing" "num" "[J", Cond.fieldLink RX1 46 "SwingCircuits$Circuit" "low" "[I", Cond.fieldLink RX1 22 "SwingCircuits$Swing" "den" "[J", Cond.fieldLink RX1 25 "SwingCircuits$Swing" "filling" "[Z", Cond.fieldLink RX1 29 "SwingCircuits$Swing" "counts" "[I", Cond.methodLink RX2 130 yX1_advance, Cond.instanceMethod yX1_advance, Cond.selects RX1 yX1_advance yX1_advance, Cond.code yX1_advance cX1_advance 2 (some .boolean), Cond.fieldLink RX1 51 "SwingCircuits$Circuit" "cells" "I", Cond.fieldLink RX1 33 "SwingCircuits$Swing" "turned" "I", Cond.fieldLink RX1 37 "SwingCircuits$Swing" "side" "I"]
def wsX2_faults_r3 : List Cond := [Cond.methodLink RX1 54 yX1_chooseTurning, Cond.instanceMethod yX1_chooseTurning, Cond.selects RX1 yX1_chooseTurning yX1_chooseTurning, Cond.code yX1_chooseTurning cX1_chooseTurning 7 none, Cond.fieldLink RX1 68 "SwingCircuits$Circuit" "high" "[I", Cond.fieldLink RX1 71 "SwingCircuits$Circuit" "rise" "[I", Cond.fieldLink RX1 74 "SwingCircuits$Circuit" "fall" "[I", Cond.fieldLink RX1 43 "SwingCircuits$Swing" "waitDen" "J", Cond.fieldLink RX1 40 "SwingCircuits$Swing" "waitNum" "J", Cond.methodLink RX1 58 yX1_letTimePass, Cond.instanceMethod yX1_letTimePass, Cond.selects RX1 yX1_letTimePass yX1_letTimePass, Cond.code yX1_letTimePass cX1_letTimePass 11 none, Cond.static yX2_commonOf, Cond.code yX2_commonOf cX2_commonOf 11 (some .long), Cond.methodLink RX1 61 yX1_passOn, Cond.instanceMethod yX1_passOn, Cond.selects RX1 yX1_passOn yX1_passOn, Cond.code yX1_passOn cX1_passOn 3 none, Cond.fieldLink RX1 81 "SwingCircuits$Circuit" "links" "I", Cond.fieldLink RX1 84 "SwingCircuits$Circuit" "from" "[I", Cond.fieldLink RX1 87 "SwingCircuits$Circuit" "at" "[I", Cond.fieldLink RX1 90 "SwingCircuits$Circuit" "nth" "[I", Cond.methodLink RX1 93 yX1_doAct]
def wsX2_faults_r4 : List Cond := [Cond.instanceMethod yX1_doAct, Cond.selects RX1 yX1_doAct yX1_doAct, Cond.code yX1_doAct cX1_doAct 4 none, Cond.fieldLink RX1 97 "SwingCircuits$Circuit" "to" "[I", Cond.fieldLink RX1 100 "SwingCircuits$Circuit" "act" "[I", Cond.fieldLink RX1 103 "SwingCircuits$Circuit" "by" "[I", Cond.methodLink RX1 106 yX1_keepBetweenBars, Cond.instanceMethod yX1_keepBetweenBars, Cond.selects RX1 yX1_keepBetweenBars yX1_keepBetweenBars, Cond.code yX1_keepBetweenBars cX1_keepBetweenBars 3 none, Cond.methodLink RX1 64 yX1_isSpent, Cond.instanceMethod yX1_isSpent, Cond.selects RX1 yX1_isSpent yX1_isSpent, Cond.code yX1_isSpent cX1_isSpent 3 (some .boolean), Cond.methodLink RX1 109 yX1_isTooLong, Cond.static yX1_isTooLong, Cond.code yX1_isTooLong cX1_isTooLong 4 (some .boolean), Cond.constantLong RX1 113 (1000000), Cond.constantLong RX1 115 (-1000000), Cond.methodLink RX2 227 yX1_packedEvent, Cond.instanceMethod yX1_packedEvent, Cond.selects RX1 yX1_packedEvent yX1_packedEvent, Cond.code yX1_packedEvent cX1_packedEvent 1 (some .long), Cond.static yX2_packed]
def wsX2_faults_r5 : List Cond := [Cond.code yX2_packed cX2_packed 4 (some .long), Cond.methodLink RX2 263 yX2_isMeasure, Cond.instanceMethod yX2_isMeasure, Cond.selects RX2 yX2_isMeasure yX2_isMeasure, Cond.code yX2_isMeasure cX2_isMeasure 6 (some .boolean), Cond.fieldLink RX2 60 "SwingCircuits" "measuredDen" "[I", Cond.fieldLink RX2 57 "SwingCircuits" "measuredNum" "[I", Cond.methodLink RX2 251 yX2_betweenNum, Cond.static yX2_betweenNum, Cond.code yX2_betweenNum cX2_betweenNum 4 (some .long), Cond.methodLink RX2 181 yX2_timeNumIn, Cond.static yX2_timeNumIn, Cond.code yX2_timeNumIn cX2_timeNumIn 2 (some .long), Cond.methodLink RX2 185 yX2_timeDenIn, Cond.static yX2_timeDenIn, Cond.code yX2_timeDenIn cX2_timeDenIn 2 (some .long), Cond.constantLong RX2 267 (1048575), Cond.methodLink RX2 254 yX2_betweenDen, Cond.static yX2_betweenDen, Cond.code yX2_betweenDen cX2_betweenDen 4 (some .long)]
def wsX2_faults : List Cond := .code yX2_faults cX2_faults 2 (some .int) :: ((wsX2_faults_r1 ++ (wsX2_faults_r2 ++ (wsX2_faults_r3 ++ (wsX2_faults_r4 ++ wsX2_faults_r5)))) ++ wsX20 ++ wsX00 ++ wsX10)
def wsX2_fault_r1 : List Cond := [Cond.fieldLink RX2 69 "SwingCircuits" "faultsFound" "[I", Cond.methodLink RX2 94 yX2_isCell, Cond.instanceMethod yX2_isCell, Cond.selects RX2 yX2_isCell yX2_isCell, Cond.initialized RX2, Cond.code yX2_isCell cX2_isCell 2 (some .boolean), Cond.fieldLink RX2 12 "SwingCircuits" "circuit" "LSwingCircuits$Circuit;", Cond.fieldLink RX2 76 "SwingCircuits$Circuit" "cells" "I", Cond.methodLink RX2 216 yX2_findFaults, Cond.instanceMethod yX2_findFaults, Cond.selects RX2 yX2_findFaults yX2_findFaults, Cond.code yX2_findFaults cX2_findFaults 8 (some .int), Cond.fieldLink RX2 54 "SwingCircuits" "stocked" "I", Cond.fieldLink RX2 51 "SwingCircuits" "stock" "[I", Cond.methodLink RX2 122 yX0_ratesOf, Cond.instanceMethod yX0_ratesOf, Cond.selects RX0 yX0_ratesOf yX0_ratesOf, Cond.initialized RX0, Cond.code yX0_ratesOf cX0_ratesOf 2 (some (.array .int)), Cond.fieldLink RX0 22 "SwingCircuits$Circuit" "rise" "[I", Cond.fieldLink RX0 25 "SwingCircuits$Circuit" "fall" "[I", Cond.methodLink RX2 219 yX2_isMeasuredSo, Cond.instanceMethod yX2_isMeasuredSo, Cond.selects RX2 yX2_isMeasuredSo yX2_isMeasuredSo]
def wsX2_fault_r2 : List Cond := [Cond.code yX2_isMeasuredSo cX2_isMeasuredSo 8 (some .boolean), Cond.fieldLink RX2 63 "SwingCircuits" "measures" "I", Cond.fieldLink RX2 23 "SwingCircuits" "trial" "LSwingCircuits$Swing;", Cond.fieldLink RX2 234 "SwingCircuits$Swing" "turned" "I", Cond.fieldLink RX2 231 "SwingCircuits$Swing" "side" "I", Cond.methodLink RX2 223 yX1_restart, Cond.instanceMethod yX1_restart, Cond.selects RX1 yX1_restart yX1_restart, Cond.initialized RX1, Cond.code yX1_restart cX1_restart 3 none, Cond.fieldLink RX1 9 "SwingCircuits$Swing" "timeNum" "J", Cond.fieldLink RX1 15 "SwingCircuits$Swing" "timeDen" "J", Cond.fieldLink RX1 18 "SwingCircuits$Swing" "num" "[J", Cond.fieldLink RX1 46 "SwingCircuits$Circuit" "low" "[I", Cond.fieldLink RX1 22 "SwingCircuits$Swing" "den" "[J", Cond.fieldLink RX1 25 "SwingCircuits$Swing" "filling" "[Z", Cond.fieldLink RX1 29 "SwingCircuits$Swing" "counts" "[I", Cond.methodLink RX2 130 yX1_advance, Cond.instanceMethod yX1_advance, Cond.selects RX1 yX1_advance yX1_advance, Cond.code yX1_advance cX1_advance 2 (some .boolean), Cond.fieldLink RX1 51 "SwingCircuits$Circuit" "cells" "I", Cond.fieldLink RX1 33 "SwingCircuits$Swing" "turned" "I", Cond.fieldLink RX1 37 "SwingCircuits$Swing" "side" "I"]
def wsX2_fault_r3 : List Cond := [Cond.methodLink RX1 54 yX1_chooseTurning, Cond.instanceMethod yX1_chooseTurning, Cond.selects RX1 yX1_chooseTurning yX1_chooseTurning, Cond.code yX1_chooseTurning cX1_chooseTurning 7 none, Cond.fieldLink RX1 68 "SwingCircuits$Circuit" "high" "[I", Cond.fieldLink RX1 71 "SwingCircuits$Circuit" "rise" "[I", Cond.fieldLink RX1 74 "SwingCircuits$Circuit" "fall" "[I", Cond.fieldLink RX1 43 "SwingCircuits$Swing" "waitDen" "J", Cond.fieldLink RX1 40 "SwingCircuits$Swing" "waitNum" "J", Cond.methodLink RX1 58 yX1_letTimePass, Cond.instanceMethod yX1_letTimePass, Cond.selects RX1 yX1_letTimePass yX1_letTimePass, Cond.code yX1_letTimePass cX1_letTimePass 11 none, Cond.static yX2_commonOf, Cond.code yX2_commonOf cX2_commonOf 11 (some .long), Cond.methodLink RX1 61 yX1_passOn, Cond.instanceMethod yX1_passOn, Cond.selects RX1 yX1_passOn yX1_passOn, Cond.code yX1_passOn cX1_passOn 3 none, Cond.fieldLink RX1 81 "SwingCircuits$Circuit" "links" "I", Cond.fieldLink RX1 84 "SwingCircuits$Circuit" "from" "[I", Cond.fieldLink RX1 87 "SwingCircuits$Circuit" "at" "[I", Cond.fieldLink RX1 90 "SwingCircuits$Circuit" "nth" "[I", Cond.methodLink RX1 93 yX1_doAct]
def wsX2_fault_r4 : List Cond := [Cond.instanceMethod yX1_doAct, Cond.selects RX1 yX1_doAct yX1_doAct, Cond.code yX1_doAct cX1_doAct 4 none, Cond.fieldLink RX1 97 "SwingCircuits$Circuit" "to" "[I", Cond.fieldLink RX1 100 "SwingCircuits$Circuit" "act" "[I", Cond.fieldLink RX1 103 "SwingCircuits$Circuit" "by" "[I", Cond.methodLink RX1 106 yX1_keepBetweenBars, Cond.instanceMethod yX1_keepBetweenBars, Cond.selects RX1 yX1_keepBetweenBars yX1_keepBetweenBars, Cond.code yX1_keepBetweenBars cX1_keepBetweenBars 3 none, Cond.methodLink RX1 64 yX1_isSpent, Cond.instanceMethod yX1_isSpent, Cond.selects RX1 yX1_isSpent yX1_isSpent, Cond.code yX1_isSpent cX1_isSpent 3 (some .boolean), Cond.methodLink RX1 109 yX1_isTooLong, Cond.static yX1_isTooLong, Cond.code yX1_isTooLong cX1_isTooLong 4 (some .boolean), Cond.constantLong RX1 113 (1000000), Cond.constantLong RX1 115 (-1000000), Cond.methodLink RX2 227 yX1_packedEvent, Cond.instanceMethod yX1_packedEvent, Cond.selects RX1 yX1_packedEvent yX1_packedEvent, Cond.code yX1_packedEvent cX1_packedEvent 1 (some .long), Cond.static yX2_packed]
def wsX2_fault_r5 : List Cond := [Cond.code yX2_packed cX2_packed 4 (some .long), Cond.methodLink RX2 263 yX2_isMeasure, Cond.instanceMethod yX2_isMeasure, Cond.selects RX2 yX2_isMeasure yX2_isMeasure, Cond.code yX2_isMeasure cX2_isMeasure 6 (some .boolean), Cond.fieldLink RX2 60 "SwingCircuits" "measuredDen" "[I", Cond.fieldLink RX2 57 "SwingCircuits" "measuredNum" "[I", Cond.methodLink RX2 251 yX2_betweenNum, Cond.static yX2_betweenNum, Cond.code yX2_betweenNum cX2_betweenNum 4 (some .long), Cond.methodLink RX2 181 yX2_timeNumIn, Cond.static yX2_timeNumIn, Cond.code yX2_timeNumIn cX2_timeNumIn 2 (some .long), Cond.methodLink RX2 185 yX2_timeDenIn, Cond.static yX2_timeDenIn, Cond.code yX2_timeDenIn cX2_timeDenIn 2 (some .long), Cond.constantLong RX2 267 (1048575), Cond.methodLink RX2 254 yX2_betweenDen, Cond.static yX2_betweenDen, Cond.code yX2_betweenDen cX2_betweenDen 4 (some .long)]
def wsX2_fault : List Cond := .code yX2_fault cX2_fault 4 (some .int) :: ((wsX2_fault_r1 ++ (wsX2_fault_r2 ++ (wsX2_fault_r3 ++ (wsX2_fault_r4 ++ wsX2_fault_r5)))) ++ wsX20 ++ wsX00 ++ wsX10)
def wsX2_fits_r1 : List Cond := [Cond.methodLink RX2 94 yX2_isCell, Cond.instanceMethod yX2_isCell, Cond.selects RX2 yX2_isCell yX2_isCell, Cond.initialized RX2, Cond.code yX2_isCell cX2_isCell 2 (some .boolean), Cond.fieldLink RX2 12 "SwingCircuits" "circuit" "LSwingCircuits$Circuit;", Cond.fieldLink RX2 76 "SwingCircuits$Circuit" "cells" "I", Cond.methodLink RX2 219 yX2_isMeasuredSo, Cond.instanceMethod yX2_isMeasuredSo, Cond.selects RX2 yX2_isMeasuredSo yX2_isMeasuredSo, Cond.code yX2_isMeasuredSo cX2_isMeasuredSo 8 (some .boolean), Cond.fieldLink RX2 63 "SwingCircuits" "measures" "I", Cond.fieldLink RX2 23 "SwingCircuits" "trial" "LSwingCircuits$Swing;", Cond.fieldLink RX2 234 "SwingCircuits$Swing" "turned" "I", Cond.fieldLink RX2 231 "SwingCircuits$Swing" "side" "I", Cond.methodLink RX2 223 yX1_restart, Cond.instanceMethod yX1_restart, Cond.selects RX1 yX1_restart yX1_restart, Cond.initialized RX1, Cond.code yX1_restart cX1_restart 3 none, Cond.fieldLink RX1 9 "SwingCircuits$Swing" "timeNum" "J", Cond.fieldLink RX1 15 "SwingCircuits$Swing" "timeDen" "J", Cond.fieldLink RX1 18 "SwingCircuits$Swing" "num" "[J", Cond.fieldLink RX1 46 "SwingCircuits$Circuit" "low" "[I"]
def wsX2_fits_r2 : List Cond := [Cond.fieldLink RX1 22 "SwingCircuits$Swing" "den" "[J", Cond.fieldLink RX1 25 "SwingCircuits$Swing" "filling" "[Z", Cond.fieldLink RX1 29 "SwingCircuits$Swing" "counts" "[I", Cond.methodLink RX2 130 yX1_advance, Cond.instanceMethod yX1_advance, Cond.selects RX1 yX1_advance yX1_advance, Cond.code yX1_advance cX1_advance 2 (some .boolean), Cond.fieldLink RX1 51 "SwingCircuits$Circuit" "cells" "I", Cond.fieldLink RX1 33 "SwingCircuits$Swing" "turned" "I", Cond.fieldLink RX1 37 "SwingCircuits$Swing" "side" "I", Cond.methodLink RX1 54 yX1_chooseTurning, Cond.instanceMethod yX1_chooseTurning, Cond.selects RX1 yX1_chooseTurning yX1_chooseTurning, Cond.code yX1_chooseTurning cX1_chooseTurning 7 none, Cond.fieldLink RX1 68 "SwingCircuits$Circuit" "high" "[I", Cond.fieldLink RX1 71 "SwingCircuits$Circuit" "rise" "[I", Cond.fieldLink RX1 74 "SwingCircuits$Circuit" "fall" "[I", Cond.fieldLink RX1 43 "SwingCircuits$Swing" "waitDen" "J", Cond.fieldLink RX1 40 "SwingCircuits$Swing" "waitNum" "J", Cond.methodLink RX1 58 yX1_letTimePass, Cond.instanceMethod yX1_letTimePass, Cond.selects RX1 yX1_letTimePass yX1_letTimePass, Cond.code yX1_letTimePass cX1_letTimePass 11 none, Cond.static yX2_commonOf]
def wsX2_fits_r3 : List Cond := [Cond.code yX2_commonOf cX2_commonOf 11 (some .long), Cond.methodLink RX1 61 yX1_passOn, Cond.instanceMethod yX1_passOn, Cond.selects RX1 yX1_passOn yX1_passOn, Cond.code yX1_passOn cX1_passOn 3 none, Cond.fieldLink RX1 81 "SwingCircuits$Circuit" "links" "I", Cond.fieldLink RX1 84 "SwingCircuits$Circuit" "from" "[I", Cond.fieldLink RX1 87 "SwingCircuits$Circuit" "at" "[I", Cond.fieldLink RX1 90 "SwingCircuits$Circuit" "nth" "[I", Cond.methodLink RX1 93 yX1_doAct, Cond.instanceMethod yX1_doAct, Cond.selects RX1 yX1_doAct yX1_doAct, Cond.code yX1_doAct cX1_doAct 4 none, Cond.fieldLink RX1 97 "SwingCircuits$Circuit" "to" "[I", Cond.fieldLink RX1 100 "SwingCircuits$Circuit" "act" "[I", Cond.fieldLink RX1 103 "SwingCircuits$Circuit" "by" "[I", Cond.methodLink RX1 106 yX1_keepBetweenBars, Cond.instanceMethod yX1_keepBetweenBars, Cond.selects RX1 yX1_keepBetweenBars yX1_keepBetweenBars, Cond.code yX1_keepBetweenBars cX1_keepBetweenBars 3 none, Cond.methodLink RX1 64 yX1_isSpent, Cond.instanceMethod yX1_isSpent, Cond.selects RX1 yX1_isSpent yX1_isSpent, Cond.code yX1_isSpent cX1_isSpent 3 (some .boolean)]
def wsX2_fits_r4 : List Cond := [Cond.methodLink RX1 109 yX1_isTooLong, Cond.static yX1_isTooLong, Cond.code yX1_isTooLong cX1_isTooLong 4 (some .boolean), Cond.constantLong RX1 113 (1000000), Cond.constantLong RX1 115 (-1000000), Cond.methodLink RX2 227 yX1_packedEvent, Cond.instanceMethod yX1_packedEvent, Cond.selects RX1 yX1_packedEvent yX1_packedEvent, Cond.code yX1_packedEvent cX1_packedEvent 1 (some .long), Cond.static yX2_packed, Cond.code yX2_packed cX2_packed 4 (some .long), Cond.methodLink RX2 263 yX2_isMeasure, Cond.instanceMethod yX2_isMeasure, Cond.selects RX2 yX2_isMeasure yX2_isMeasure, Cond.code yX2_isMeasure cX2_isMeasure 6 (some .boolean), Cond.fieldLink RX2 60 "SwingCircuits" "measuredDen" "[I", Cond.fieldLink RX2 57 "SwingCircuits" "measuredNum" "[I", Cond.methodLink RX2 251 yX2_betweenNum, Cond.static yX2_betweenNum, Cond.code yX2_betweenNum cX2_betweenNum 4 (some .long), Cond.methodLink RX2 181 yX2_timeNumIn, Cond.static yX2_timeNumIn, Cond.code yX2_timeNumIn cX2_timeNumIn 2 (some .long), Cond.methodLink RX2 185 yX2_timeDenIn]
def wsX2_fits_r5 : List Cond := [Cond.static yX2_timeDenIn, Cond.code yX2_timeDenIn cX2_timeDenIn 2 (some .long), Cond.constantLong RX2 267 (1048575), Cond.methodLink RX2 254 yX2_betweenDen, Cond.static yX2_betweenDen, Cond.code yX2_betweenDen cX2_betweenDen 4 (some .long)]
def wsX2_fits : List Cond := .code yX2_fits cX2_fits 2 (some .int) :: ((wsX2_fits_r1 ++ (wsX2_fits_r2 ++ (wsX2_fits_r3 ++ (wsX2_fits_r4 ++ wsX2_fits_r5)))) ++ wsX20 ++ wsX00 ++ wsX10)
def wsX3_resetAll : List Cond := .code yX3_resetAll cX3_resetAll 2 none :: ([.fieldLink RX3 25 "SwingCircuitsModel" "now" "[J", .fieldLink RX3 9 "SwingCircuitsModel" "low" "[I"] ++ wsX30)
def wsX3_init_r1 : List Cond := [Cond.methodLink RX3 1 objectInit, Cond.instanceMethod objectInit, Cond.code objectInit ⟨#[0xb1]⟩ 1 none, Cond.arrayClass .int, Cond.fieldLink RX3 9 "SwingCircuitsModel" "low" "[I", Cond.fieldLink RX3 13 "SwingCircuitsModel" "high" "[I", Cond.fieldLink RX3 16 "SwingCircuitsModel" "rise" "[I", Cond.fieldLink RX3 19 "SwingCircuitsModel" "fall" "[I", Cond.fieldLink RX3 22 "SwingCircuitsModel" "links" "[I", Cond.arrayClass .long, Cond.fieldLink RX3 25 "SwingCircuitsModel" "now" "[J", Cond.fieldLink RX3 29 "SwingCircuitsModel" "before" "[J", Cond.fieldLink RX3 32 "SwingCircuitsModel" "aside" "[J", Cond.fieldLink RX3 35 "SwingCircuitsModel" "logCell" "[I", Cond.fieldLink RX3 38 "SwingCircuitsModel" "logAt" "[I", Cond.fieldLink RX3 41 "SwingCircuitsModel" "logNum" "[J", Cond.fieldLink RX3 44 "SwingCircuitsModel" "logDen" "[J", Cond.fieldLink RX3 47 "SwingCircuitsModel" "isLogged" "Z", Cond.fieldLink RX3 51 "SwingCircuitsModel" "states" "[J", Cond.fieldLink RX3 54 "SwingCircuitsModel" "ringed" "[J", Cond.fieldLink RX3 57 "SwingCircuitsModel" "drawer" "[I", Cond.fieldLink RX3 60 "SwingCircuitsModel" "measuredNum" "[J", Cond.fieldLink RX3 63 "SwingCircuitsModel" "measuredDen" "[J", Cond.methodLink RX3 66 yX3_resetAll]
def wsX3_init_r2 : List Cond := [Cond.instanceMethod yX3_resetAll, Cond.selects RX3 yX3_resetAll yX3_resetAll, Cond.initialized RX3, Cond.code yX3_resetAll cX3_resetAll 2 none]
def wsX3_init : List Cond := .code yX3_init cX3_init 1 none :: ((wsX3_init_r1 ++ wsX3_init_r2) ++ wsX30)
def wsX3_thrown : List Cond := .code yX3_thrown cX3_thrown 1 (some .int) :: ([.fieldLink RX3 69 "SwingCircuitsModel" "thrown" "I"] ++ wsX30)
def wsX3_in : List Cond := .code yX3_in cX3_in 3 (some .boolean) :: ([])
def wsX3_isCell : List Cond := .code yX3_isCell cX3_isCell 2 (some .boolean) :: ([.fieldLink RX3 73 "SwingCircuitsModel" "cells" "I", .methodLink RX3 76 yX3_in, .static yX3_in, .initialized RX3, .code yX3_in cX3_in 3 (some .boolean)] ++ wsX30)
def wsX3_common : List Cond := .code yX3_common cX3_common 4 (some .long) :: ([.methodLink RX3 80 yX3_common, .static yX3_common, .initialized RX3])
def wsX3_make : List Cond := .code yX3_make cX3_make 7 none :: ([.methodLink RX3 84 Lib.MathLoose.abs_long.x, .static Lib.MathLoose.abs_long.x, .initialized "java/lang/Math", .code Lib.MathLoose.abs_long.x Lib.MathLoose.abs_long.code 2 (some .long), .fieldLink RX3 90 "SwingCircuitsModel" "num" "J", .fieldLink RX3 94 "SwingCircuitsModel" "den" "J", .methodLink RX3 80 yX3_common, .static yX3_common, .initialized RX3, .code yX3_common cX3_common 4 (some .long)] ++ wsX30)
def wsX3_store : List Cond := .code yX3_store cX3_store 2 none :: ([.fieldLink RX3 25 "SwingCircuitsModel" "now" "[J", .fieldLink RX3 90 "SwingCircuitsModel" "num" "J", .fieldLink RX3 94 "SwingCircuitsModel" "den" "J"] ++ wsX30)
def wsX3_cell : List Cond := .code yX3_cell cX3_cell 5 (some .int) :: ([.fieldLink RX3 69 "SwingCircuitsModel" "thrown" "I", .fieldLink RX3 73 "SwingCircuitsModel" "cells" "I", .fieldLink RX3 9 "SwingCircuitsModel" "low" "[I", .fieldLink RX3 13 "SwingCircuitsModel" "high" "[I", .fieldLink RX3 16 "SwingCircuitsModel" "rise" "[I", .fieldLink RX3 19 "SwingCircuitsModel" "fall" "[I", .methodLink RX3 76 yX3_in, .static yX3_in, .initialized RX3, .code yX3_in cX3_in 3 (some .boolean), .methodLink RX3 66 yX3_resetAll, .instanceMethod yX3_resetAll, .selects RX3 yX3_resetAll yX3_resetAll, .code yX3_resetAll cX3_resetAll 2 none, .fieldLink RX3 25 "SwingCircuitsModel" "now" "[J"] ++ wsX30)
def wsX3_link : List Cond := .code yX3_link cX3_link 9 (some .int) :: ([.fieldLink RX3 69 "SwingCircuitsModel" "thrown" "I", .fieldLink RX3 101 "SwingCircuitsModel" "linkMany" "I", .arrayClass .int, .fieldLink RX3 22 "SwingCircuitsModel" "links" "[I", .methodLink RX3 97 yX3_isCell, .instanceMethod yX3_isCell, .selects RX3 yX3_isCell yX3_isCell, .initialized RX3, .code yX3_isCell cX3_isCell 2 (some .boolean), .fieldLink RX3 73 "SwingCircuitsModel" "cells" "I", .methodLink RX3 76 yX3_in, .static yX3_in, .code yX3_in cX3_in 3 (some .boolean), .methodLink RX3 66 yX3_resetAll, .instanceMethod yX3_resetAll, .selects RX3 yX3_resetAll yX3_resetAll, .code yX3_resetAll cX3_resetAll 2 none, .fieldLink RX3 25 "SwingCircuitsModel" "now" "[J", .fieldLink RX3 9 "SwingCircuitsModel" "low" "[I"] ++ wsX30)
def wsX3_clear : List Cond := .code yX3_clear cX3_clear 2 (some .int) :: ([.fieldLink RX3 69 "SwingCircuitsModel" "thrown" "I", .fieldLink RX3 73 "SwingCircuitsModel" "cells" "I", .fieldLink RX3 101 "SwingCircuitsModel" "linkMany" "I", .methodLink RX3 66 yX3_resetAll, .instanceMethod yX3_resetAll, .selects RX3 yX3_resetAll yX3_resetAll, .initialized RX3, .code yX3_resetAll cX3_resetAll 2 none, .fieldLink RX3 25 "SwingCircuitsModel" "now" "[J", .fieldLink RX3 9 "SwingCircuitsModel" "low" "[I"] ++ wsX30)
def wsX3_reset : List Cond := .code yX3_reset cX3_reset 2 (some .int) :: ([.fieldLink RX3 69 "SwingCircuitsModel" "thrown" "I", .fieldLink RX3 25 "SwingCircuitsModel" "now" "[J", .methodLink RX3 66 yX3_resetAll, .instanceMethod yX3_resetAll, .selects RX3 yX3_resetAll yX3_resetAll, .initialized RX3, .code yX3_resetAll cX3_resetAll 2 none, .fieldLink RX3 9 "SwingCircuitsModel" "low" "[I"] ++ wsX30)
def wsX3_set : List Cond := .code yX3_set cX3_set 5 (some .int) :: ([.fieldLink RX3 69 "SwingCircuitsModel" "thrown" "I", .fieldLink RX3 16 "SwingCircuitsModel" "rise" "[I", .fieldLink RX3 19 "SwingCircuitsModel" "fall" "[I", .methodLink RX3 97 yX3_isCell, .instanceMethod yX3_isCell, .selects RX3 yX3_isCell yX3_isCell, .initialized RX3, .code yX3_isCell cX3_isCell 2 (some .boolean), .fieldLink RX3 73 "SwingCircuitsModel" "cells" "I", .methodLink RX3 76 yX3_in, .static yX3_in, .code yX3_in cX3_in 3 (some .boolean), .methodLink RX3 66 yX3_resetAll, .instanceMethod yX3_resetAll, .selects RX3 yX3_resetAll yX3_resetAll, .code yX3_resetAll cX3_resetAll 2 none, .fieldLink RX3 25 "SwingCircuitsModel" "now" "[J", .fieldLink RX3 9 "SwingCircuitsModel" "low" "[I"] ++ wsX30)
def wsX3_copy : List Cond := .code yX3_copy cX3_copy 3 none :: ([])
def wsX3_isFilling : List Cond := .code yX3_isFilling cX3_isFilling 2 (some .boolean) :: ([.fieldLink RX3 25 "SwingCircuitsModel" "now" "[J"] ++ wsX30)
def wsX3_waitOf : List Cond := .code yX3_waitOf cX3_waitOf 6 none :: ([.fieldLink RX3 25 "SwingCircuitsModel" "now" "[J", .fieldLink RX3 13 "SwingCircuitsModel" "high" "[I", .fieldLink RX3 16 "SwingCircuitsModel" "rise" "[I", .fieldLink RX3 9 "SwingCircuitsModel" "low" "[I", .fieldLink RX3 19 "SwingCircuitsModel" "fall" "[I", .methodLink RX3 104 yX3_isFilling, .instanceMethod yX3_isFilling, .selects RX3 yX3_isFilling yX3_isFilling, .initialized RX3, .code yX3_isFilling cX3_isFilling 2 (some .boolean), .methodLink RX3 107 yX3_make, .instanceMethod yX3_make, .selects RX3 yX3_make yX3_make, .code yX3_make cX3_make 7 none, .methodLink RX3 84 Lib.MathLoose.abs_long.x, .static Lib.MathLoose.abs_long.x, .initialized "java/lang/Math", .code Lib.MathLoose.abs_long.x Lib.MathLoose.abs_long.code 2 (some .long), .fieldLink RX3 90 "SwingCircuitsModel" "num" "J", .fieldLink RX3 94 "SwingCircuitsModel" "den" "J", .methodLink RX3 80 yX3_common, .static yX3_common, .code yX3_common cX3_common 4 (some .long)] ++ wsX30)
def wsX3_isOver : List Cond := .code yX3_isOver cX3_isOver 4 (some .boolean) :: ([.methodLink RX3 84 Lib.MathLoose.abs_long.x, .static Lib.MathLoose.abs_long.x, .initialized "java/lang/Math", .code Lib.MathLoose.abs_long.x Lib.MathLoose.abs_long.code 2 (some .long), .constantLong RX3 111 (1000000)])
def wsX3_isSpent : List Cond := .code yX3_isSpent cX3_isSpent 2 (some .boolean) :: ([.fieldLink RX3 25 "SwingCircuitsModel" "now" "[J", .fieldLink RX3 73 "SwingCircuitsModel" "cells" "I", .methodLink RX3 113 yX3_isOver, .static yX3_isOver, .initialized RX3, .code yX3_isOver cX3_isOver 4 (some .boolean), .methodLink RX3 84 Lib.MathLoose.abs_long.x, .static Lib.MathLoose.abs_long.x, .initialized "java/lang/Math", .code Lib.MathLoose.abs_long.x Lib.MathLoose.abs_long.code 2 (some .long), .constantLong RX3 111 (1000000)] ++ wsX30)
def wsX3_act : List Cond := .code yX3_act cX3_act 8 none :: ([.fieldLink RX3 22 "SwingCircuitsModel" "links" "[I", .fieldLink RX3 125 "SwingCircuitsModel" "nextCell" "I", .fieldLink RX3 128 "SwingCircuitsModel" "nextAt" "I", .fieldLink RX3 25 "SwingCircuitsModel" "now" "[J", .fieldLink RX3 13 "SwingCircuitsModel" "high" "[I", .fieldLink RX3 9 "SwingCircuitsModel" "low" "[I", .methodLink RX3 107 yX3_make, .instanceMethod yX3_make, .selects RX3 yX3_make yX3_make, .initialized RX3, .code yX3_make cX3_make 7 none, .methodLink RX3 84 Lib.MathLoose.abs_long.x, .static Lib.MathLoose.abs_long.x, .initialized "java/lang/Math", .code Lib.MathLoose.abs_long.x Lib.MathLoose.abs_long.code 2 (some .long), .fieldLink RX3 90 "SwingCircuitsModel" "num" "J", .fieldLink RX3 94 "SwingCircuitsModel" "den" "J", .methodLink RX3 80 yX3_common, .static yX3_common, .code yX3_common cX3_common 4 (some .long), .methodLink RX3 131 yX3_store, .instanceMethod yX3_store, .selects RX3 yX3_store yX3_store, .code yX3_store cX3_store 2 none] ++ wsX30)
def wsX3_step_r1 : List Cond := [Cond.fieldLink RX3 73 "SwingCircuitsModel" "cells" "I", Cond.fieldLink RX3 25 "SwingCircuitsModel" "now" "[J", Cond.fieldLink RX3 29 "SwingCircuitsModel" "before" "[J", Cond.fieldLink RX3 90 "SwingCircuitsModel" "num" "J", Cond.fieldLink RX3 94 "SwingCircuitsModel" "den" "J", Cond.fieldLink RX3 125 "SwingCircuitsModel" "nextCell" "I", Cond.fieldLink RX3 128 "SwingCircuitsModel" "nextAt" "I", Cond.fieldLink RX3 16 "SwingCircuitsModel" "rise" "[I", Cond.fieldLink RX3 19 "SwingCircuitsModel" "fall" "[I", Cond.fieldLink RX3 101 "SwingCircuitsModel" "linkMany" "I", Cond.fieldLink RX3 47 "SwingCircuitsModel" "isLogged" "Z", Cond.constantLong RX3 141 (500), Cond.fieldLink RX3 35 "SwingCircuitsModel" "logCell" "[I", Cond.fieldLink RX3 38 "SwingCircuitsModel" "logAt" "[I", Cond.fieldLink RX3 41 "SwingCircuitsModel" "logNum" "[J", Cond.fieldLink RX3 44 "SwingCircuitsModel" "logDen" "[J", Cond.methodLink RX3 117 yX3_copy, Cond.static yX3_copy, Cond.initialized RX3, Cond.code yX3_copy cX3_copy 3 none, Cond.methodLink RX3 121 yX3_waitOf, Cond.instanceMethod yX3_waitOf, Cond.selects RX3 yX3_waitOf yX3_waitOf, Cond.code yX3_waitOf cX3_waitOf 6 none]
def wsX3_step_r2 : List Cond := [Cond.fieldLink RX3 13 "SwingCircuitsModel" "high" "[I", Cond.fieldLink RX3 9 "SwingCircuitsModel" "low" "[I", Cond.methodLink RX3 104 yX3_isFilling, Cond.instanceMethod yX3_isFilling, Cond.selects RX3 yX3_isFilling yX3_isFilling, Cond.code yX3_isFilling cX3_isFilling 2 (some .boolean), Cond.methodLink RX3 107 yX3_make, Cond.instanceMethod yX3_make, Cond.selects RX3 yX3_make yX3_make, Cond.code yX3_make cX3_make 7 none, Cond.methodLink RX3 84 Lib.MathLoose.abs_long.x, Cond.static Lib.MathLoose.abs_long.x, Cond.initialized "java/lang/Math", Cond.code Lib.MathLoose.abs_long.x Lib.MathLoose.abs_long.code 2 (some .long), Cond.methodLink RX3 80 yX3_common, Cond.static yX3_common, Cond.code yX3_common cX3_common 4 (some .long), Cond.methodLink RX3 131 yX3_store, Cond.instanceMethod yX3_store, Cond.selects RX3 yX3_store yX3_store, Cond.code yX3_store cX3_store 2 none, Cond.methodLink RX3 134 yX3_act, Cond.instanceMethod yX3_act, Cond.selects RX3 yX3_act yX3_act]
def wsX3_step_r3 : List Cond := [Cond.code yX3_act cX3_act 8 none, Cond.fieldLink RX3 22 "SwingCircuitsModel" "links" "[I", Cond.methodLink RX3 137 yX3_isSpent, Cond.instanceMethod yX3_isSpent, Cond.selects RX3 yX3_isSpent yX3_isSpent, Cond.code yX3_isSpent cX3_isSpent 2 (some .boolean), Cond.methodLink RX3 113 yX3_isOver, Cond.static yX3_isOver, Cond.code yX3_isOver cX3_isOver 4 (some .boolean), Cond.constantLong RX3 111 (1000000)]
def wsX3_step : List Cond := .code yX3_step cX3_step 12 (some .boolean) :: ((wsX3_step_r1 ++ (wsX3_step_r2 ++ wsX3_step_r3)) ++ wsX30)
def wsX3_run_r1 : List Cond := [Cond.fieldLink RX3 69 "SwingCircuitsModel" "thrown" "I", Cond.methodLink RX3 76 yX3_in, Cond.static yX3_in, Cond.initialized RX3, Cond.code yX3_in cX3_in 3 (some .boolean), Cond.methodLink RX3 143 yX3_step, Cond.instanceMethod yX3_step, Cond.selects RX3 yX3_step yX3_step, Cond.code yX3_step cX3_step 12 (some .boolean), Cond.fieldLink RX3 73 "SwingCircuitsModel" "cells" "I", Cond.fieldLink RX3 25 "SwingCircuitsModel" "now" "[J", Cond.fieldLink RX3 29 "SwingCircuitsModel" "before" "[J", Cond.fieldLink RX3 90 "SwingCircuitsModel" "num" "J", Cond.fieldLink RX3 94 "SwingCircuitsModel" "den" "J", Cond.fieldLink RX3 125 "SwingCircuitsModel" "nextCell" "I", Cond.fieldLink RX3 128 "SwingCircuitsModel" "nextAt" "I", Cond.fieldLink RX3 16 "SwingCircuitsModel" "rise" "[I", Cond.fieldLink RX3 19 "SwingCircuitsModel" "fall" "[I", Cond.fieldLink RX3 101 "SwingCircuitsModel" "linkMany" "I", Cond.fieldLink RX3 47 "SwingCircuitsModel" "isLogged" "Z", Cond.constantLong RX3 141 (500), Cond.fieldLink RX3 35 "SwingCircuitsModel" "logCell" "[I", Cond.fieldLink RX3 38 "SwingCircuitsModel" "logAt" "[I", Cond.fieldLink RX3 41 "SwingCircuitsModel" "logNum" "[J"]
def wsX3_run_r2 : List Cond := [Cond.fieldLink RX3 44 "SwingCircuitsModel" "logDen" "[J", Cond.methodLink RX3 117 yX3_copy, Cond.static yX3_copy, Cond.code yX3_copy cX3_copy 3 none, Cond.methodLink RX3 121 yX3_waitOf, Cond.instanceMethod yX3_waitOf, Cond.selects RX3 yX3_waitOf yX3_waitOf, Cond.code yX3_waitOf cX3_waitOf 6 none, Cond.fieldLink RX3 13 "SwingCircuitsModel" "high" "[I", Cond.fieldLink RX3 9 "SwingCircuitsModel" "low" "[I", Cond.methodLink RX3 104 yX3_isFilling, Cond.instanceMethod yX3_isFilling, Cond.selects RX3 yX3_isFilling yX3_isFilling, Cond.code yX3_isFilling cX3_isFilling 2 (some .boolean), Cond.methodLink RX3 107 yX3_make, Cond.instanceMethod yX3_make, Cond.selects RX3 yX3_make yX3_make, Cond.code yX3_make cX3_make 7 none, Cond.methodLink RX3 84 Lib.MathLoose.abs_long.x, Cond.static Lib.MathLoose.abs_long.x, Cond.initialized "java/lang/Math", Cond.code Lib.MathLoose.abs_long.x Lib.MathLoose.abs_long.code 2 (some .long), Cond.methodLink RX3 80 yX3_common, Cond.static yX3_common]
def wsX3_run_r3 : List Cond := [Cond.code yX3_common cX3_common 4 (some .long), Cond.methodLink RX3 131 yX3_store, Cond.instanceMethod yX3_store, Cond.selects RX3 yX3_store yX3_store, Cond.code yX3_store cX3_store 2 none, Cond.methodLink RX3 134 yX3_act, Cond.instanceMethod yX3_act, Cond.selects RX3 yX3_act yX3_act, Cond.code yX3_act cX3_act 8 none, Cond.fieldLink RX3 22 "SwingCircuitsModel" "links" "[I", Cond.methodLink RX3 137 yX3_isSpent, Cond.instanceMethod yX3_isSpent, Cond.selects RX3 yX3_isSpent yX3_isSpent, Cond.code yX3_isSpent cX3_isSpent 2 (some .boolean), Cond.methodLink RX3 113 yX3_isOver, Cond.static yX3_isOver, Cond.code yX3_isOver cX3_isOver 4 (some .boolean), Cond.constantLong RX3 111 (1000000)]
def wsX3_run : List Cond := .code yX3_run cX3_run 3 (some .int) :: ((wsX3_run_r1 ++ (wsX3_run_r2 ++ wsX3_run_r3)) ++ wsX30)
def wsX3_wouldBeSpent_r1 : List Cond := [Cond.fieldLink RX3 73 "SwingCircuitsModel" "cells" "I", Cond.fieldLink RX3 25 "SwingCircuitsModel" "now" "[J", Cond.fieldLink RX3 32 "SwingCircuitsModel" "aside" "[J", Cond.fieldLink RX3 47 "SwingCircuitsModel" "isLogged" "Z", Cond.methodLink RX3 117 yX3_copy, Cond.static yX3_copy, Cond.initialized RX3, Cond.code yX3_copy cX3_copy 3 none, Cond.methodLink RX3 143 yX3_step, Cond.instanceMethod yX3_step, Cond.selects RX3 yX3_step yX3_step, Cond.code yX3_step cX3_step 12 (some .boolean), Cond.fieldLink RX3 29 "SwingCircuitsModel" "before" "[J", Cond.fieldLink RX3 90 "SwingCircuitsModel" "num" "J", Cond.fieldLink RX3 94 "SwingCircuitsModel" "den" "J", Cond.fieldLink RX3 125 "SwingCircuitsModel" "nextCell" "I", Cond.fieldLink RX3 128 "SwingCircuitsModel" "nextAt" "I", Cond.fieldLink RX3 16 "SwingCircuitsModel" "rise" "[I", Cond.fieldLink RX3 19 "SwingCircuitsModel" "fall" "[I", Cond.fieldLink RX3 101 "SwingCircuitsModel" "linkMany" "I", Cond.constantLong RX3 141 (500), Cond.fieldLink RX3 35 "SwingCircuitsModel" "logCell" "[I", Cond.fieldLink RX3 38 "SwingCircuitsModel" "logAt" "[I", Cond.fieldLink RX3 41 "SwingCircuitsModel" "logNum" "[J"]
def wsX3_wouldBeSpent_r2 : List Cond := [Cond.fieldLink RX3 44 "SwingCircuitsModel" "logDen" "[J", Cond.methodLink RX3 121 yX3_waitOf, Cond.instanceMethod yX3_waitOf, Cond.selects RX3 yX3_waitOf yX3_waitOf, Cond.code yX3_waitOf cX3_waitOf 6 none, Cond.fieldLink RX3 13 "SwingCircuitsModel" "high" "[I", Cond.fieldLink RX3 9 "SwingCircuitsModel" "low" "[I", Cond.methodLink RX3 104 yX3_isFilling, Cond.instanceMethod yX3_isFilling, Cond.selects RX3 yX3_isFilling yX3_isFilling, Cond.code yX3_isFilling cX3_isFilling 2 (some .boolean), Cond.methodLink RX3 107 yX3_make, Cond.instanceMethod yX3_make, Cond.selects RX3 yX3_make yX3_make, Cond.code yX3_make cX3_make 7 none, Cond.methodLink RX3 84 Lib.MathLoose.abs_long.x, Cond.static Lib.MathLoose.abs_long.x, Cond.initialized "java/lang/Math", Cond.code Lib.MathLoose.abs_long.x Lib.MathLoose.abs_long.code 2 (some .long), Cond.methodLink RX3 80 yX3_common, Cond.static yX3_common, Cond.code yX3_common cX3_common 4 (some .long), Cond.methodLink RX3 131 yX3_store, Cond.instanceMethod yX3_store]
def wsX3_wouldBeSpent_r3 : List Cond := [Cond.selects RX3 yX3_store yX3_store, Cond.code yX3_store cX3_store 2 none, Cond.methodLink RX3 134 yX3_act, Cond.instanceMethod yX3_act, Cond.selects RX3 yX3_act yX3_act, Cond.code yX3_act cX3_act 8 none, Cond.fieldLink RX3 22 "SwingCircuitsModel" "links" "[I", Cond.methodLink RX3 137 yX3_isSpent, Cond.instanceMethod yX3_isSpent, Cond.selects RX3 yX3_isSpent yX3_isSpent, Cond.code yX3_isSpent cX3_isSpent 2 (some .boolean), Cond.methodLink RX3 113 yX3_isOver, Cond.static yX3_isOver, Cond.code yX3_isOver cX3_isOver 4 (some .boolean), Cond.constantLong RX3 111 (1000000)]
def wsX3_wouldBeSpent : List Cond := .code yX3_wouldBeSpent cX3_wouldBeSpent 2 (some .boolean) :: ((wsX3_wouldBeSpent_r1 ++ (wsX3_wouldBeSpent_r2 ++ wsX3_wouldBeSpent_r3)) ++ wsX30)
def wsX3_count_r1 : List Cond := [Cond.fieldLink RX3 69 "SwingCircuitsModel" "thrown" "I", Cond.fieldLink RX3 73 "SwingCircuitsModel" "cells" "I", Cond.fieldLink RX3 101 "SwingCircuitsModel" "linkMany" "I", Cond.fieldLink RX3 25 "SwingCircuitsModel" "now" "[J", Cond.fieldLink RX3 149 "SwingCircuitsModel" "drawn" "I", Cond.fieldLink RX3 152 "SwingCircuitsModel" "measured" "I", Cond.methodLink RX3 146 yX3_wouldBeSpent, Cond.instanceMethod yX3_wouldBeSpent, Cond.selects RX3 yX3_wouldBeSpent yX3_wouldBeSpent, Cond.initialized RX3, Cond.code yX3_wouldBeSpent cX3_wouldBeSpent 2 (some .boolean), Cond.fieldLink RX3 32 "SwingCircuitsModel" "aside" "[J", Cond.fieldLink RX3 47 "SwingCircuitsModel" "isLogged" "Z", Cond.methodLink RX3 117 yX3_copy, Cond.static yX3_copy, Cond.code yX3_copy cX3_copy 3 none, Cond.methodLink RX3 143 yX3_step, Cond.instanceMethod yX3_step, Cond.selects RX3 yX3_step yX3_step, Cond.code yX3_step cX3_step 12 (some .boolean), Cond.fieldLink RX3 29 "SwingCircuitsModel" "before" "[J", Cond.fieldLink RX3 90 "SwingCircuitsModel" "num" "J", Cond.fieldLink RX3 94 "SwingCircuitsModel" "den" "J", Cond.fieldLink RX3 125 "SwingCircuitsModel" "nextCell" "I"]
def wsX3_count_r2 : List Cond := [Cond.fieldLink RX3 128 "SwingCircuitsModel" "nextAt" "I", Cond.fieldLink RX3 16 "SwingCircuitsModel" "rise" "[I", Cond.fieldLink RX3 19 "SwingCircuitsModel" "fall" "[I", Cond.constantLong RX3 141 (500), Cond.fieldLink RX3 35 "SwingCircuitsModel" "logCell" "[I", Cond.fieldLink RX3 38 "SwingCircuitsModel" "logAt" "[I", Cond.fieldLink RX3 41 "SwingCircuitsModel" "logNum" "[J", Cond.fieldLink RX3 44 "SwingCircuitsModel" "logDen" "[J", Cond.methodLink RX3 121 yX3_waitOf, Cond.instanceMethod yX3_waitOf, Cond.selects RX3 yX3_waitOf yX3_waitOf, Cond.code yX3_waitOf cX3_waitOf 6 none, Cond.fieldLink RX3 13 "SwingCircuitsModel" "high" "[I", Cond.fieldLink RX3 9 "SwingCircuitsModel" "low" "[I", Cond.methodLink RX3 104 yX3_isFilling, Cond.instanceMethod yX3_isFilling, Cond.selects RX3 yX3_isFilling yX3_isFilling, Cond.code yX3_isFilling cX3_isFilling 2 (some .boolean), Cond.methodLink RX3 107 yX3_make, Cond.instanceMethod yX3_make, Cond.selects RX3 yX3_make yX3_make, Cond.code yX3_make cX3_make 7 none, Cond.methodLink RX3 84 Lib.MathLoose.abs_long.x, Cond.static Lib.MathLoose.abs_long.x]
def wsX3_count_r3 : List Cond := [Cond.initialized "java/lang/Math", Cond.code Lib.MathLoose.abs_long.x Lib.MathLoose.abs_long.code 2 (some .long), Cond.methodLink RX3 80 yX3_common, Cond.static yX3_common, Cond.code yX3_common cX3_common 4 (some .long), Cond.methodLink RX3 131 yX3_store, Cond.instanceMethod yX3_store, Cond.selects RX3 yX3_store yX3_store, Cond.code yX3_store cX3_store 2 none, Cond.methodLink RX3 134 yX3_act, Cond.instanceMethod yX3_act, Cond.selects RX3 yX3_act yX3_act, Cond.code yX3_act cX3_act 8 none, Cond.fieldLink RX3 22 "SwingCircuitsModel" "links" "[I", Cond.methodLink RX3 137 yX3_isSpent, Cond.instanceMethod yX3_isSpent, Cond.selects RX3 yX3_isSpent yX3_isSpent, Cond.code yX3_isSpent cX3_isSpent 2 (some .boolean), Cond.methodLink RX3 113 yX3_isOver, Cond.static yX3_isOver, Cond.code yX3_isOver cX3_isOver 4 (some .boolean), Cond.constantLong RX3 111 (1000000)]
def wsX3_count : List Cond := .code yX3_count cX3_count 2 (some .int) :: ((wsX3_count_r1 ++ (wsX3_count_r2 ++ wsX3_count_r3)) ++ wsX30)
def wsX3_beat : List Cond := .code yX3_beat cX3_beat 4 none :: ([.fieldLink RX3 13 "SwingCircuitsModel" "high" "[I", .fieldLink RX3 9 "SwingCircuitsModel" "low" "[I", .methodLink RX3 107 yX3_make, .instanceMethod yX3_make, .selects RX3 yX3_make yX3_make, .initialized RX3, .code yX3_make cX3_make 7 none, .methodLink RX3 84 Lib.MathLoose.abs_long.x, .static Lib.MathLoose.abs_long.x, .initialized "java/lang/Math", .code Lib.MathLoose.abs_long.x Lib.MathLoose.abs_long.code 2 (some .long), .fieldLink RX3 90 "SwingCircuitsModel" "num" "J", .fieldLink RX3 94 "SwingCircuitsModel" "den" "J", .methodLink RX3 80 yX3_common, .static yX3_common, .code yX3_common cX3_common 4 (some .long)] ++ wsX30)
def wsX3_of_r1 : List Cond := [Cond.fieldLink RX3 69 "SwingCircuitsModel" "thrown" "I", Cond.fieldLink RX3 16 "SwingCircuitsModel" "rise" "[I", Cond.fieldLink RX3 19 "SwingCircuitsModel" "fall" "[I", Cond.fieldLink RX3 25 "SwingCircuitsModel" "now" "[J", Cond.fieldLink RX3 90 "SwingCircuitsModel" "num" "J", Cond.fieldLink RX3 94 "SwingCircuitsModel" "den" "J", Cond.methodLink RX3 97 yX3_isCell, Cond.instanceMethod yX3_isCell, Cond.selects RX3 yX3_isCell yX3_isCell, Cond.initialized RX3, Cond.code yX3_isCell cX3_isCell 2 (some .boolean), Cond.fieldLink RX3 73 "SwingCircuitsModel" "cells" "I", Cond.methodLink RX3 76 yX3_in, Cond.static yX3_in, Cond.code yX3_in cX3_in 3 (some .boolean), Cond.methodLink RX3 155 yX3_beat, Cond.instanceMethod yX3_beat, Cond.selects RX3 yX3_beat yX3_beat, Cond.code yX3_beat cX3_beat 4 none, Cond.fieldLink RX3 13 "SwingCircuitsModel" "high" "[I", Cond.fieldLink RX3 9 "SwingCircuitsModel" "low" "[I", Cond.methodLink RX3 107 yX3_make, Cond.instanceMethod yX3_make, Cond.selects RX3 yX3_make yX3_make]
def wsX3_of_r2 : List Cond := [Cond.code yX3_make cX3_make 7 none, Cond.methodLink RX3 84 Lib.MathLoose.abs_long.x, Cond.static Lib.MathLoose.abs_long.x, Cond.initialized "java/lang/Math", Cond.code Lib.MathLoose.abs_long.x Lib.MathLoose.abs_long.code 2 (some .long), Cond.methodLink RX3 80 yX3_common, Cond.static yX3_common, Cond.code yX3_common cX3_common 4 (some .long)]
def wsX3_of : List Cond := .code yX3_of cX3_of 3 (some .int) :: ((wsX3_of_r1 ++ wsX3_of_r2) ++ wsX30)
def wsX3_counted : List Cond := .code yX3_counted cX3_counted 2 (some .int) :: ([.fieldLink RX3 69 "SwingCircuitsModel" "thrown" "I", .fieldLink RX3 101 "SwingCircuitsModel" "linkMany" "I", .fieldLink RX3 25 "SwingCircuitsModel" "now" "[J", .methodLink RX3 76 yX3_in, .static yX3_in, .initialized RX3, .code yX3_in cX3_in 3 (some .boolean)] ++ wsX30)
def wsX3_event : List Cond := .code yX3_event cX3_event 3 (some .int) :: ([.fieldLink RX3 69 "SwingCircuitsModel" "thrown" "I", .fieldLink RX3 25 "SwingCircuitsModel" "now" "[J", .fieldLink RX3 35 "SwingCircuitsModel" "logCell" "[I", .fieldLink RX3 38 "SwingCircuitsModel" "logAt" "[I", .fieldLink RX3 41 "SwingCircuitsModel" "logNum" "[J", .fieldLink RX3 44 "SwingCircuitsModel" "logDen" "[J"] ++ wsX30)
def wsX3_areAlike : List Cond := .code yX3_areAlike cX3_areAlike 4 (some .boolean) :: ([.fieldLink RX3 51 "SwingCircuitsModel" "states" "[J"] ++ wsX30)
def wsX3_keep : List Cond := .code yX3_keep cX3_keep 3 none :: ([.fieldLink RX3 51 "SwingCircuitsModel" "states" "[J", .fieldLink RX3 25 "SwingCircuitsModel" "now" "[J"] ++ wsX30)
def wsX3_tell : List Cond := .code yX3_tell cX3_tell 6 none :: ([.fieldLink RX3 170 "SwingCircuitsModel" "wasRing" "Z", .fieldLink RX3 51 "SwingCircuitsModel" "states" "[J", .fieldLink RX3 54 "SwingCircuitsModel" "ringed" "[J", .fieldLink RX3 90 "SwingCircuitsModel" "num" "J", .fieldLink RX3 94 "SwingCircuitsModel" "den" "J", .methodLink RX3 107 yX3_make, .instanceMethod yX3_make, .selects RX3 yX3_make yX3_make, .initialized RX3, .code yX3_make cX3_make 7 none, .methodLink RX3 84 Lib.MathLoose.abs_long.x, .static Lib.MathLoose.abs_long.x, .initialized "java/lang/Math", .code Lib.MathLoose.abs_long.x Lib.MathLoose.abs_long.code 2 (some .long), .methodLink RX3 80 yX3_common, .static yX3_common, .code yX3_common cX3_common 4 (some .long)] ++ wsX30)
def wsX3_seek_r1 : List Cond := [Cond.methodLink RX3 159 yX3_keep, Cond.instanceMethod yX3_keep, Cond.selects RX3 yX3_keep yX3_keep, Cond.initialized RX3, Cond.code yX3_keep cX3_keep 3 none, Cond.fieldLink RX3 51 "SwingCircuitsModel" "states" "[J", Cond.fieldLink RX3 25 "SwingCircuitsModel" "now" "[J", Cond.methodLink RX3 143 yX3_step, Cond.instanceMethod yX3_step, Cond.selects RX3 yX3_step yX3_step, Cond.code yX3_step cX3_step 12 (some .boolean), Cond.fieldLink RX3 73 "SwingCircuitsModel" "cells" "I", Cond.fieldLink RX3 29 "SwingCircuitsModel" "before" "[J", Cond.fieldLink RX3 90 "SwingCircuitsModel" "num" "J", Cond.fieldLink RX3 94 "SwingCircuitsModel" "den" "J", Cond.fieldLink RX3 125 "SwingCircuitsModel" "nextCell" "I", Cond.fieldLink RX3 128 "SwingCircuitsModel" "nextAt" "I", Cond.fieldLink RX3 16 "SwingCircuitsModel" "rise" "[I", Cond.fieldLink RX3 19 "SwingCircuitsModel" "fall" "[I", Cond.fieldLink RX3 101 "SwingCircuitsModel" "linkMany" "I", Cond.fieldLink RX3 47 "SwingCircuitsModel" "isLogged" "Z", Cond.constantLong RX3 141 (500), Cond.fieldLink RX3 35 "SwingCircuitsModel" "logCell" "[I", Cond.fieldLink RX3 38 "SwingCircuitsModel" "logAt" "[I"]
def wsX3_seek_r2 : List Cond := [Cond.fieldLink RX3 41 "SwingCircuitsModel" "logNum" "[J", Cond.fieldLink RX3 44 "SwingCircuitsModel" "logDen" "[J", Cond.methodLink RX3 117 yX3_copy, Cond.static yX3_copy, Cond.code yX3_copy cX3_copy 3 none, Cond.methodLink RX3 121 yX3_waitOf, Cond.instanceMethod yX3_waitOf, Cond.selects RX3 yX3_waitOf yX3_waitOf, Cond.code yX3_waitOf cX3_waitOf 6 none, Cond.fieldLink RX3 13 "SwingCircuitsModel" "high" "[I", Cond.fieldLink RX3 9 "SwingCircuitsModel" "low" "[I", Cond.methodLink RX3 104 yX3_isFilling, Cond.instanceMethod yX3_isFilling, Cond.selects RX3 yX3_isFilling yX3_isFilling, Cond.code yX3_isFilling cX3_isFilling 2 (some .boolean), Cond.methodLink RX3 107 yX3_make, Cond.instanceMethod yX3_make, Cond.selects RX3 yX3_make yX3_make, Cond.code yX3_make cX3_make 7 none, Cond.methodLink RX3 84 Lib.MathLoose.abs_long.x, Cond.static Lib.MathLoose.abs_long.x, Cond.initialized "java/lang/Math", Cond.code Lib.MathLoose.abs_long.x Lib.MathLoose.abs_long.code 2 (some .long), Cond.methodLink RX3 80 yX3_common]
def wsX3_seek_r3 : List Cond := [Cond.static yX3_common, Cond.code yX3_common cX3_common 4 (some .long), Cond.methodLink RX3 131 yX3_store, Cond.instanceMethod yX3_store, Cond.selects RX3 yX3_store yX3_store, Cond.code yX3_store cX3_store 2 none, Cond.methodLink RX3 134 yX3_act, Cond.instanceMethod yX3_act, Cond.selects RX3 yX3_act yX3_act, Cond.code yX3_act cX3_act 8 none, Cond.fieldLink RX3 22 "SwingCircuitsModel" "links" "[I", Cond.methodLink RX3 137 yX3_isSpent, Cond.instanceMethod yX3_isSpent, Cond.selects RX3 yX3_isSpent yX3_isSpent, Cond.code yX3_isSpent cX3_isSpent 2 (some .boolean), Cond.methodLink RX3 113 yX3_isOver, Cond.static yX3_isOver, Cond.code yX3_isOver cX3_isOver 4 (some .boolean), Cond.constantLong RX3 111 (1000000), Cond.methodLink RX3 162 yX3_areAlike, Cond.instanceMethod yX3_areAlike, Cond.selects RX3 yX3_areAlike yX3_areAlike, Cond.code yX3_areAlike cX3_areAlike 4 (some .boolean), Cond.methodLink RX3 166 yX3_tell]
def wsX3_seek_r4 : List Cond := [Cond.instanceMethod yX3_tell, Cond.selects RX3 yX3_tell yX3_tell, Cond.code yX3_tell cX3_tell 6 none, Cond.fieldLink RX3 170 "SwingCircuitsModel" "wasRing" "Z", Cond.fieldLink RX3 54 "SwingCircuitsModel" "ringed" "[J"]
def wsX3_seek : List Cond := .code yX3_seek cX3_seek 4 (some .int) :: ((wsX3_seek_r1 ++ (wsX3_seek_r2 ++ (wsX3_seek_r3 ++ wsX3_seek_r4))) ++ wsX30)
def wsX3_ring_r1 : List Cond := [Cond.fieldLink RX3 69 "SwingCircuitsModel" "thrown" "I", Cond.fieldLink RX3 73 "SwingCircuitsModel" "cells" "I", Cond.fieldLink RX3 25 "SwingCircuitsModel" "now" "[J", Cond.fieldLink RX3 32 "SwingCircuitsModel" "aside" "[J", Cond.fieldLink RX3 47 "SwingCircuitsModel" "isLogged" "Z", Cond.methodLink RX3 76 yX3_in, Cond.static yX3_in, Cond.initialized RX3, Cond.code yX3_in cX3_in 3 (some .boolean), Cond.methodLink RX3 117 yX3_copy, Cond.static yX3_copy, Cond.code yX3_copy cX3_copy 3 none, Cond.methodLink RX3 173 yX3_seek, Cond.instanceMethod yX3_seek, Cond.selects RX3 yX3_seek yX3_seek, Cond.code yX3_seek cX3_seek 4 (some .int), Cond.methodLink RX3 159 yX3_keep, Cond.instanceMethod yX3_keep, Cond.selects RX3 yX3_keep yX3_keep, Cond.code yX3_keep cX3_keep 3 none, Cond.fieldLink RX3 51 "SwingCircuitsModel" "states" "[J", Cond.methodLink RX3 143 yX3_step, Cond.instanceMethod yX3_step, Cond.selects RX3 yX3_step yX3_step]
def wsX3_ring_r2 : List Cond := [Cond.code yX3_step cX3_step 12 (some .boolean), Cond.fieldLink RX3 29 "SwingCircuitsModel" "before" "[J", Cond.fieldLink RX3 90 "SwingCircuitsModel" "num" "J", Cond.fieldLink RX3 94 "SwingCircuitsModel" "den" "J", Cond.fieldLink RX3 125 "SwingCircuitsModel" "nextCell" "I", Cond.fieldLink RX3 128 "SwingCircuitsModel" "nextAt" "I", Cond.fieldLink RX3 16 "SwingCircuitsModel" "rise" "[I", Cond.fieldLink RX3 19 "SwingCircuitsModel" "fall" "[I", Cond.fieldLink RX3 101 "SwingCircuitsModel" "linkMany" "I", Cond.constantLong RX3 141 (500), Cond.fieldLink RX3 35 "SwingCircuitsModel" "logCell" "[I", Cond.fieldLink RX3 38 "SwingCircuitsModel" "logAt" "[I", Cond.fieldLink RX3 41 "SwingCircuitsModel" "logNum" "[J", Cond.fieldLink RX3 44 "SwingCircuitsModel" "logDen" "[J", Cond.methodLink RX3 121 yX3_waitOf, Cond.instanceMethod yX3_waitOf, Cond.selects RX3 yX3_waitOf yX3_waitOf, Cond.code yX3_waitOf cX3_waitOf 6 none, Cond.fieldLink RX3 13 "SwingCircuitsModel" "high" "[I", Cond.fieldLink RX3 9 "SwingCircuitsModel" "low" "[I", Cond.methodLink RX3 104 yX3_isFilling, Cond.instanceMethod yX3_isFilling, Cond.selects RX3 yX3_isFilling yX3_isFilling, Cond.code yX3_isFilling cX3_isFilling 2 (some .boolean)]
def wsX3_ring_r3 : List Cond := [Cond.methodLink RX3 107 yX3_make, Cond.instanceMethod yX3_make, Cond.selects RX3 yX3_make yX3_make, Cond.code yX3_make cX3_make 7 none, Cond.methodLink RX3 84 Lib.MathLoose.abs_long.x, Cond.static Lib.MathLoose.abs_long.x, Cond.initialized "java/lang/Math", Cond.code Lib.MathLoose.abs_long.x Lib.MathLoose.abs_long.code 2 (some .long), Cond.methodLink RX3 80 yX3_common, Cond.static yX3_common, Cond.code yX3_common cX3_common 4 (some .long), Cond.methodLink RX3 131 yX3_store, Cond.instanceMethod yX3_store, Cond.selects RX3 yX3_store yX3_store, Cond.code yX3_store cX3_store 2 none, Cond.methodLink RX3 134 yX3_act, Cond.instanceMethod yX3_act, Cond.selects RX3 yX3_act yX3_act, Cond.code yX3_act cX3_act 8 none, Cond.fieldLink RX3 22 "SwingCircuitsModel" "links" "[I", Cond.methodLink RX3 137 yX3_isSpent, Cond.instanceMethod yX3_isSpent, Cond.selects RX3 yX3_isSpent yX3_isSpent, Cond.code yX3_isSpent cX3_isSpent 2 (some .boolean)]
def wsX3_ring_r4 : List Cond := [Cond.methodLink RX3 113 yX3_isOver, Cond.static yX3_isOver, Cond.code yX3_isOver cX3_isOver 4 (some .boolean), Cond.constantLong RX3 111 (1000000), Cond.methodLink RX3 162 yX3_areAlike, Cond.instanceMethod yX3_areAlike, Cond.selects RX3 yX3_areAlike yX3_areAlike, Cond.code yX3_areAlike cX3_areAlike 4 (some .boolean), Cond.methodLink RX3 166 yX3_tell, Cond.instanceMethod yX3_tell, Cond.selects RX3 yX3_tell yX3_tell, Cond.code yX3_tell cX3_tell 6 none, Cond.fieldLink RX3 170 "SwingCircuitsModel" "wasRing" "Z", Cond.fieldLink RX3 54 "SwingCircuitsModel" "ringed" "[J"]
def wsX3_ring : List Cond := .code yX3_ring cX3_ring 3 (some .int) :: ((wsX3_ring_r1 ++ (wsX3_ring_r2 ++ (wsX3_ring_r3 ++ wsX3_ring_r4))) ++ wsX30)
def wsX3_ringed : List Cond := .code yX3_ringed cX3_ringed 2 (some .long) :: ([.fieldLink RX3 69 "SwingCircuitsModel" "thrown" "I", .fieldLink RX3 170 "SwingCircuitsModel" "wasRing" "Z", .fieldLink RX3 54 "SwingCircuitsModel" "ringed" "[J", .constantLong RX3 177 (-1), .methodLink RX3 76 yX3_in, .static yX3_in, .initialized RX3, .code yX3_in cX3_in 3 (some .boolean)] ++ wsX30)
def wsX3_drawer : List Cond := .code yX3_drawer cX3_drawer 3 (some .int) :: ([.fieldLink RX3 69 "SwingCircuitsModel" "thrown" "I", .fieldLink RX3 149 "SwingCircuitsModel" "drawn" "I", .fieldLink RX3 57 "SwingCircuitsModel" "drawer" "[I", .methodLink RX3 76 yX3_in, .static yX3_in, .initialized RX3, .code yX3_in cX3_in 3 (some .boolean)] ++ wsX30)
def wsX3_isFraction : List Cond := .code yX3_isFraction cX3_isFraction 2 (some .boolean) :: ([.constant RX3 179 (1000000), .methodLink RX3 76 yX3_in, .static yX3_in, .initialized RX3, .code yX3_in cX3_in 3 (some .boolean)])
def wsX3_ways : List Cond := .code yX3_ways cX3_ways 8 (some .int) :: ([.fieldLink RX3 149 "SwingCircuitsModel" "drawn" "I", .fieldLink RX3 57 "SwingCircuitsModel" "drawer" "[I", .fieldLink RX3 90 "SwingCircuitsModel" "num" "J", .fieldLink RX3 94 "SwingCircuitsModel" "den" "J", .methodLink RX3 155 yX3_beat, .instanceMethod yX3_beat, .selects RX3 yX3_beat yX3_beat, .initialized RX3, .code yX3_beat cX3_beat 4 none, .fieldLink RX3 13 "SwingCircuitsModel" "high" "[I", .fieldLink RX3 9 "SwingCircuitsModel" "low" "[I", .methodLink RX3 107 yX3_make, .instanceMethod yX3_make, .selects RX3 yX3_make yX3_make, .code yX3_make cX3_make 7 none, .methodLink RX3 84 Lib.MathLoose.abs_long.x, .static Lib.MathLoose.abs_long.x, .initialized "java/lang/Math", .code Lib.MathLoose.abs_long.x Lib.MathLoose.abs_long.code 2 (some .long), .methodLink RX3 80 yX3_common, .static yX3_common, .code yX3_common cX3_common 4 (some .long)] ++ wsX30)
def wsX3_parts_r1 : List Cond := [Cond.fieldLink RX3 69 "SwingCircuitsModel" "thrown" "I", Cond.methodLink RX3 97 yX3_isCell, Cond.instanceMethod yX3_isCell, Cond.selects RX3 yX3_isCell yX3_isCell, Cond.initialized RX3, Cond.code yX3_isCell cX3_isCell 2 (some .boolean), Cond.fieldLink RX3 73 "SwingCircuitsModel" "cells" "I", Cond.methodLink RX3 76 yX3_in, Cond.static yX3_in, Cond.code yX3_in cX3_in 3 (some .boolean), Cond.methodLink RX3 180 yX3_isFraction, Cond.static yX3_isFraction, Cond.code yX3_isFraction cX3_isFraction 2 (some .boolean), Cond.constant RX3 179 (1000000), Cond.methodLink RX3 183 yX3_ways, Cond.instanceMethod yX3_ways, Cond.selects RX3 yX3_ways yX3_ways, Cond.code yX3_ways cX3_ways 8 (some .int), Cond.fieldLink RX3 149 "SwingCircuitsModel" "drawn" "I", Cond.fieldLink RX3 57 "SwingCircuitsModel" "drawer" "[I", Cond.fieldLink RX3 90 "SwingCircuitsModel" "num" "J", Cond.fieldLink RX3 94 "SwingCircuitsModel" "den" "J", Cond.methodLink RX3 155 yX3_beat, Cond.instanceMethod yX3_beat]
def wsX3_parts_r2 : List Cond := [Cond.selects RX3 yX3_beat yX3_beat, Cond.code yX3_beat cX3_beat 4 none, Cond.fieldLink RX3 13 "SwingCircuitsModel" "high" "[I", Cond.fieldLink RX3 9 "SwingCircuitsModel" "low" "[I", Cond.methodLink RX3 107 yX3_make, Cond.instanceMethod yX3_make, Cond.selects RX3 yX3_make yX3_make, Cond.code yX3_make cX3_make 7 none, Cond.methodLink RX3 84 Lib.MathLoose.abs_long.x, Cond.static Lib.MathLoose.abs_long.x, Cond.initialized "java/lang/Math", Cond.code Lib.MathLoose.abs_long.x Lib.MathLoose.abs_long.code 2 (some .long), Cond.methodLink RX3 80 yX3_common, Cond.static yX3_common, Cond.code yX3_common cX3_common 4 (some .long)]
def wsX3_parts : List Cond := .code yX3_parts cX3_parts 4 (some .int) :: ((wsX3_parts_r1 ++ wsX3_parts_r2) ++ wsX30)
def wsX3_part_r1 : List Cond := [Cond.fieldLink RX3 69 "SwingCircuitsModel" "thrown" "I", Cond.methodLink RX3 97 yX3_isCell, Cond.instanceMethod yX3_isCell, Cond.selects RX3 yX3_isCell yX3_isCell, Cond.initialized RX3, Cond.code yX3_isCell cX3_isCell 2 (some .boolean), Cond.fieldLink RX3 73 "SwingCircuitsModel" "cells" "I", Cond.methodLink RX3 76 yX3_in, Cond.static yX3_in, Cond.code yX3_in cX3_in 3 (some .boolean), Cond.methodLink RX3 180 yX3_isFraction, Cond.static yX3_isFraction, Cond.code yX3_isFraction cX3_isFraction 2 (some .boolean), Cond.constant RX3 179 (1000000), Cond.methodLink RX3 183 yX3_ways, Cond.instanceMethod yX3_ways, Cond.selects RX3 yX3_ways yX3_ways, Cond.code yX3_ways cX3_ways 8 (some .int), Cond.fieldLink RX3 149 "SwingCircuitsModel" "drawn" "I", Cond.fieldLink RX3 57 "SwingCircuitsModel" "drawer" "[I", Cond.fieldLink RX3 90 "SwingCircuitsModel" "num" "J", Cond.fieldLink RX3 94 "SwingCircuitsModel" "den" "J", Cond.methodLink RX3 155 yX3_beat, Cond.instanceMethod yX3_beat]
def wsX3_part_r2 : List Cond := [Cond.selects RX3 yX3_beat yX3_beat, Cond.code yX3_beat cX3_beat 4 none, Cond.fieldLink RX3 13 "SwingCircuitsModel" "high" "[I", Cond.fieldLink RX3 9 "SwingCircuitsModel" "low" "[I", Cond.methodLink RX3 107 yX3_make, Cond.instanceMethod yX3_make, Cond.selects RX3 yX3_make yX3_make, Cond.code yX3_make cX3_make 7 none, Cond.methodLink RX3 84 Lib.MathLoose.abs_long.x, Cond.static Lib.MathLoose.abs_long.x, Cond.initialized "java/lang/Math", Cond.code Lib.MathLoose.abs_long.x Lib.MathLoose.abs_long.code 2 (some .long), Cond.methodLink RX3 80 yX3_common, Cond.static yX3_common, Cond.code yX3_common cX3_common 4 (some .long)]
def wsX3_part : List Cond := .code yX3_part cX3_part 5 (some .int) :: ((wsX3_part_r1 ++ wsX3_part_r2) ++ wsX30)
def wsX3_measure_r1 : List Cond := [Cond.fieldLink RX3 69 "SwingCircuitsModel" "thrown" "I", Cond.fieldLink RX3 152 "SwingCircuitsModel" "measured" "I", Cond.fieldLink RX3 60 "SwingCircuitsModel" "measuredNum" "[J", Cond.fieldLink RX3 90 "SwingCircuitsModel" "num" "J", Cond.fieldLink RX3 63 "SwingCircuitsModel" "measuredDen" "[J", Cond.fieldLink RX3 94 "SwingCircuitsModel" "den" "J", Cond.methodLink RX3 180 yX3_isFraction, Cond.static yX3_isFraction, Cond.initialized RX3, Cond.code yX3_isFraction cX3_isFraction 2 (some .boolean), Cond.constant RX3 179 (1000000), Cond.methodLink RX3 76 yX3_in, Cond.static yX3_in, Cond.code yX3_in cX3_in 3 (some .boolean), Cond.methodLink RX3 107 yX3_make, Cond.instanceMethod yX3_make, Cond.selects RX3 yX3_make yX3_make, Cond.code yX3_make cX3_make 7 none, Cond.methodLink RX3 84 Lib.MathLoose.abs_long.x, Cond.static Lib.MathLoose.abs_long.x, Cond.initialized "java/lang/Math", Cond.code Lib.MathLoose.abs_long.x Lib.MathLoose.abs_long.code 2 (some .long), Cond.methodLink RX3 80 yX3_common, Cond.static yX3_common]
def wsX3_measure_r2 : List Cond := [Cond.code yX3_common cX3_common 4 (some .long)]
def wsX3_measure : List Cond := .code yX3_measure cX3_measure 3 (some .int) :: ((wsX3_measure_r1 ++ wsX3_measure_r2) ++ wsX30)
def wsX3_forget : List Cond := .code yX3_forget cX3_forget 2 (some .int) :: ([.fieldLink RX3 69 "SwingCircuitsModel" "thrown" "I", .fieldLink RX3 152 "SwingCircuitsModel" "measured" "I"] ++ wsX30)
def wsX3_isSo_r1 : List Cond := [Cond.fieldLink RX3 152 "SwingCircuitsModel" "measured" "I", Cond.fieldLink RX3 25 "SwingCircuitsModel" "now" "[J", Cond.fieldLink RX3 32 "SwingCircuitsModel" "aside" "[J", Cond.fieldLink RX3 47 "SwingCircuitsModel" "isLogged" "Z", Cond.fieldLink RX3 125 "SwingCircuitsModel" "nextCell" "I", Cond.fieldLink RX3 128 "SwingCircuitsModel" "nextAt" "I", Cond.fieldLink RX3 90 "SwingCircuitsModel" "num" "J", Cond.fieldLink RX3 60 "SwingCircuitsModel" "measuredNum" "[J", Cond.fieldLink RX3 94 "SwingCircuitsModel" "den" "J", Cond.fieldLink RX3 63 "SwingCircuitsModel" "measuredDen" "[J", Cond.methodLink RX3 117 yX3_copy, Cond.static yX3_copy, Cond.initialized RX3, Cond.code yX3_copy cX3_copy 3 none, Cond.methodLink RX3 66 yX3_resetAll, Cond.instanceMethod yX3_resetAll, Cond.selects RX3 yX3_resetAll yX3_resetAll, Cond.code yX3_resetAll cX3_resetAll 2 none, Cond.fieldLink RX3 9 "SwingCircuitsModel" "low" "[I", Cond.methodLink RX3 143 yX3_step, Cond.instanceMethod yX3_step, Cond.selects RX3 yX3_step yX3_step, Cond.code yX3_step cX3_step 12 (some .boolean), Cond.fieldLink RX3 73 "SwingCircuitsModel" "cells" "I"]
def wsX3_isSo_r2 : List Cond := [Cond.fieldLink RX3 29 "SwingCircuitsModel" "before" "[J", Cond.fieldLink RX3 16 "SwingCircuitsModel" "rise" "[I", Cond.fieldLink RX3 19 "SwingCircuitsModel" "fall" "[I", Cond.fieldLink RX3 101 "SwingCircuitsModel" "linkMany" "I", Cond.constantLong RX3 141 (500), Cond.fieldLink RX3 35 "SwingCircuitsModel" "logCell" "[I", Cond.fieldLink RX3 38 "SwingCircuitsModel" "logAt" "[I", Cond.fieldLink RX3 41 "SwingCircuitsModel" "logNum" "[J", Cond.fieldLink RX3 44 "SwingCircuitsModel" "logDen" "[J", Cond.methodLink RX3 121 yX3_waitOf, Cond.instanceMethod yX3_waitOf, Cond.selects RX3 yX3_waitOf yX3_waitOf, Cond.code yX3_waitOf cX3_waitOf 6 none, Cond.fieldLink RX3 13 "SwingCircuitsModel" "high" "[I", Cond.methodLink RX3 104 yX3_isFilling, Cond.instanceMethod yX3_isFilling, Cond.selects RX3 yX3_isFilling yX3_isFilling, Cond.code yX3_isFilling cX3_isFilling 2 (some .boolean), Cond.methodLink RX3 107 yX3_make, Cond.instanceMethod yX3_make, Cond.selects RX3 yX3_make yX3_make, Cond.code yX3_make cX3_make 7 none, Cond.methodLink RX3 84 Lib.MathLoose.abs_long.x, Cond.static Lib.MathLoose.abs_long.x]
def wsX3_isSo_r3 : List Cond := [Cond.initialized "java/lang/Math", Cond.code Lib.MathLoose.abs_long.x Lib.MathLoose.abs_long.code 2 (some .long), Cond.methodLink RX3 80 yX3_common, Cond.static yX3_common, Cond.code yX3_common cX3_common 4 (some .long), Cond.methodLink RX3 131 yX3_store, Cond.instanceMethod yX3_store, Cond.selects RX3 yX3_store yX3_store, Cond.code yX3_store cX3_store 2 none, Cond.methodLink RX3 134 yX3_act, Cond.instanceMethod yX3_act, Cond.selects RX3 yX3_act yX3_act, Cond.code yX3_act cX3_act 8 none, Cond.fieldLink RX3 22 "SwingCircuitsModel" "links" "[I", Cond.methodLink RX3 137 yX3_isSpent, Cond.instanceMethod yX3_isSpent, Cond.selects RX3 yX3_isSpent yX3_isSpent, Cond.code yX3_isSpent cX3_isSpent 2 (some .boolean), Cond.methodLink RX3 113 yX3_isOver, Cond.static yX3_isOver, Cond.code yX3_isOver cX3_isOver 4 (some .boolean), Cond.constantLong RX3 111 (1000000)]
def wsX3_isSo : List Cond := .code yX3_isSo cX3_isSo 9 (some .boolean) :: ((wsX3_isSo_r1 ++ (wsX3_isSo_r2 ++ wsX3_isSo_r3)) ++ wsX30)
def wsX3_explains_r1 : List Cond := [Cond.fieldLink RX3 16 "SwingCircuitsModel" "rise" "[I", Cond.fieldLink RX3 19 "SwingCircuitsModel" "fall" "[I", Cond.methodLink RX3 187 yX3_isSo, Cond.instanceMethod yX3_isSo, Cond.selects RX3 yX3_isSo yX3_isSo, Cond.initialized RX3, Cond.code yX3_isSo cX3_isSo 9 (some .boolean), Cond.fieldLink RX3 152 "SwingCircuitsModel" "measured" "I", Cond.fieldLink RX3 25 "SwingCircuitsModel" "now" "[J", Cond.fieldLink RX3 32 "SwingCircuitsModel" "aside" "[J", Cond.fieldLink RX3 47 "SwingCircuitsModel" "isLogged" "Z", Cond.fieldLink RX3 125 "SwingCircuitsModel" "nextCell" "I", Cond.fieldLink RX3 128 "SwingCircuitsModel" "nextAt" "I", Cond.fieldLink RX3 90 "SwingCircuitsModel" "num" "J", Cond.fieldLink RX3 60 "SwingCircuitsModel" "measuredNum" "[J", Cond.fieldLink RX3 94 "SwingCircuitsModel" "den" "J", Cond.fieldLink RX3 63 "SwingCircuitsModel" "measuredDen" "[J", Cond.methodLink RX3 117 yX3_copy, Cond.static yX3_copy, Cond.code yX3_copy cX3_copy 3 none, Cond.methodLink RX3 66 yX3_resetAll, Cond.instanceMethod yX3_resetAll, Cond.selects RX3 yX3_resetAll yX3_resetAll, Cond.code yX3_resetAll cX3_resetAll 2 none]
def wsX3_explains_r2 : List Cond := [Cond.fieldLink RX3 9 "SwingCircuitsModel" "low" "[I", Cond.methodLink RX3 143 yX3_step, Cond.instanceMethod yX3_step, Cond.selects RX3 yX3_step yX3_step, Cond.code yX3_step cX3_step 12 (some .boolean), Cond.fieldLink RX3 73 "SwingCircuitsModel" "cells" "I", Cond.fieldLink RX3 29 "SwingCircuitsModel" "before" "[J", Cond.fieldLink RX3 101 "SwingCircuitsModel" "linkMany" "I", Cond.constantLong RX3 141 (500), Cond.fieldLink RX3 35 "SwingCircuitsModel" "logCell" "[I", Cond.fieldLink RX3 38 "SwingCircuitsModel" "logAt" "[I", Cond.fieldLink RX3 41 "SwingCircuitsModel" "logNum" "[J", Cond.fieldLink RX3 44 "SwingCircuitsModel" "logDen" "[J", Cond.methodLink RX3 121 yX3_waitOf, Cond.instanceMethod yX3_waitOf, Cond.selects RX3 yX3_waitOf yX3_waitOf, Cond.code yX3_waitOf cX3_waitOf 6 none, Cond.fieldLink RX3 13 "SwingCircuitsModel" "high" "[I", Cond.methodLink RX3 104 yX3_isFilling, Cond.instanceMethod yX3_isFilling, Cond.selects RX3 yX3_isFilling yX3_isFilling, Cond.code yX3_isFilling cX3_isFilling 2 (some .boolean), Cond.methodLink RX3 107 yX3_make, Cond.instanceMethod yX3_make]
def wsX3_explains_r3 : List Cond := [Cond.selects RX3 yX3_make yX3_make, Cond.code yX3_make cX3_make 7 none, Cond.methodLink RX3 84 Lib.MathLoose.abs_long.x, Cond.static Lib.MathLoose.abs_long.x, Cond.initialized "java/lang/Math", Cond.code Lib.MathLoose.abs_long.x Lib.MathLoose.abs_long.code 2 (some .long), Cond.methodLink RX3 80 yX3_common, Cond.static yX3_common, Cond.code yX3_common cX3_common 4 (some .long), Cond.methodLink RX3 131 yX3_store, Cond.instanceMethod yX3_store, Cond.selects RX3 yX3_store yX3_store, Cond.code yX3_store cX3_store 2 none, Cond.methodLink RX3 134 yX3_act, Cond.instanceMethod yX3_act, Cond.selects RX3 yX3_act yX3_act, Cond.code yX3_act cX3_act 8 none, Cond.fieldLink RX3 22 "SwingCircuitsModel" "links" "[I", Cond.methodLink RX3 137 yX3_isSpent, Cond.instanceMethod yX3_isSpent, Cond.selects RX3 yX3_isSpent yX3_isSpent, Cond.code yX3_isSpent cX3_isSpent 2 (some .boolean), Cond.methodLink RX3 113 yX3_isOver, Cond.static yX3_isOver]
def wsX3_explains_r4 : List Cond := [Cond.code yX3_isOver cX3_isOver 4 (some .boolean), Cond.constantLong RX3 111 (1000000)]
def wsX3_explains : List Cond := .code yX3_explains cX3_explains 7 (some .boolean) :: ((wsX3_explains_r1 ++ (wsX3_explains_r2 ++ (wsX3_explains_r3 ++ wsX3_explains_r4))) ++ wsX30)
def wsX3_explaining_r1 : List Cond := [Cond.fieldLink RX3 73 "SwingCircuitsModel" "cells" "I", Cond.fieldLink RX3 149 "SwingCircuitsModel" "drawn" "I", Cond.fieldLink RX3 57 "SwingCircuitsModel" "drawer" "[I", Cond.methodLink RX3 190 yX3_explains, Cond.instanceMethod yX3_explains, Cond.selects RX3 yX3_explains yX3_explains, Cond.initialized RX3, Cond.code yX3_explains cX3_explains 7 (some .boolean), Cond.fieldLink RX3 16 "SwingCircuitsModel" "rise" "[I", Cond.fieldLink RX3 19 "SwingCircuitsModel" "fall" "[I", Cond.methodLink RX3 187 yX3_isSo, Cond.instanceMethod yX3_isSo, Cond.selects RX3 yX3_isSo yX3_isSo, Cond.code yX3_isSo cX3_isSo 9 (some .boolean), Cond.fieldLink RX3 152 "SwingCircuitsModel" "measured" "I", Cond.fieldLink RX3 25 "SwingCircuitsModel" "now" "[J", Cond.fieldLink RX3 32 "SwingCircuitsModel" "aside" "[J", Cond.fieldLink RX3 47 "SwingCircuitsModel" "isLogged" "Z", Cond.fieldLink RX3 125 "SwingCircuitsModel" "nextCell" "I", Cond.fieldLink RX3 128 "SwingCircuitsModel" "nextAt" "I", Cond.fieldLink RX3 90 "SwingCircuitsModel" "num" "J", Cond.fieldLink RX3 60 "SwingCircuitsModel" "measuredNum" "[J", Cond.fieldLink RX3 94 "SwingCircuitsModel" "den" "J", Cond.fieldLink RX3 63 "SwingCircuitsModel" "measuredDen" "[J"]
def wsX3_explaining_r2 : List Cond := [Cond.methodLink RX3 117 yX3_copy, Cond.static yX3_copy, Cond.code yX3_copy cX3_copy 3 none, Cond.methodLink RX3 66 yX3_resetAll, Cond.instanceMethod yX3_resetAll, Cond.selects RX3 yX3_resetAll yX3_resetAll, Cond.code yX3_resetAll cX3_resetAll 2 none, Cond.fieldLink RX3 9 "SwingCircuitsModel" "low" "[I", Cond.methodLink RX3 143 yX3_step, Cond.instanceMethod yX3_step, Cond.selects RX3 yX3_step yX3_step, Cond.code yX3_step cX3_step 12 (some .boolean), Cond.fieldLink RX3 29 "SwingCircuitsModel" "before" "[J", Cond.fieldLink RX3 101 "SwingCircuitsModel" "linkMany" "I", Cond.constantLong RX3 141 (500), Cond.fieldLink RX3 35 "SwingCircuitsModel" "logCell" "[I", Cond.fieldLink RX3 38 "SwingCircuitsModel" "logAt" "[I", Cond.fieldLink RX3 41 "SwingCircuitsModel" "logNum" "[J", Cond.fieldLink RX3 44 "SwingCircuitsModel" "logDen" "[J", Cond.methodLink RX3 121 yX3_waitOf, Cond.instanceMethod yX3_waitOf, Cond.selects RX3 yX3_waitOf yX3_waitOf, Cond.code yX3_waitOf cX3_waitOf 6 none, Cond.fieldLink RX3 13 "SwingCircuitsModel" "high" "[I"]
def wsX3_explaining_r3 : List Cond := [Cond.methodLink RX3 104 yX3_isFilling, Cond.instanceMethod yX3_isFilling, Cond.selects RX3 yX3_isFilling yX3_isFilling, Cond.code yX3_isFilling cX3_isFilling 2 (some .boolean), Cond.methodLink RX3 107 yX3_make, Cond.instanceMethod yX3_make, Cond.selects RX3 yX3_make yX3_make, Cond.code yX3_make cX3_make 7 none, Cond.methodLink RX3 84 Lib.MathLoose.abs_long.x, Cond.static Lib.MathLoose.abs_long.x, Cond.initialized "java/lang/Math", Cond.code Lib.MathLoose.abs_long.x Lib.MathLoose.abs_long.code 2 (some .long), Cond.methodLink RX3 80 yX3_common, Cond.static yX3_common, Cond.code yX3_common cX3_common 4 (some .long), Cond.methodLink RX3 131 yX3_store, Cond.instanceMethod yX3_store, Cond.selects RX3 yX3_store yX3_store, Cond.code yX3_store cX3_store 2 none, Cond.methodLink RX3 134 yX3_act, Cond.instanceMethod yX3_act, Cond.selects RX3 yX3_act yX3_act, Cond.code yX3_act cX3_act 8 none, Cond.fieldLink RX3 22 "SwingCircuitsModel" "links" "[I"]
def wsX3_explaining_r4 : List Cond := [Cond.methodLink RX3 137 yX3_isSpent, Cond.instanceMethod yX3_isSpent, Cond.selects RX3 yX3_isSpent yX3_isSpent, Cond.code yX3_isSpent cX3_isSpent 2 (some .boolean), Cond.methodLink RX3 113 yX3_isOver, Cond.static yX3_isOver, Cond.code yX3_isOver cX3_isOver 4 (some .boolean), Cond.constantLong RX3 111 (1000000)]
def wsX3_explaining : List Cond := .code yX3_explaining cX3_explaining 7 (some .int) :: ((wsX3_explaining_r1 ++ (wsX3_explaining_r2 ++ (wsX3_explaining_r3 ++ wsX3_explaining_r4))) ++ wsX30)
def wsX3_faults_r1 : List Cond := [Cond.fieldLink RX3 69 "SwingCircuitsModel" "thrown" "I", Cond.methodLink RX3 97 yX3_isCell, Cond.instanceMethod yX3_isCell, Cond.selects RX3 yX3_isCell yX3_isCell, Cond.initialized RX3, Cond.code yX3_isCell cX3_isCell 2 (some .boolean), Cond.fieldLink RX3 73 "SwingCircuitsModel" "cells" "I", Cond.methodLink RX3 76 yX3_in, Cond.static yX3_in, Cond.code yX3_in cX3_in 3 (some .boolean), Cond.methodLink RX3 194 yX3_explaining, Cond.instanceMethod yX3_explaining, Cond.selects RX3 yX3_explaining yX3_explaining, Cond.code yX3_explaining cX3_explaining 7 (some .int), Cond.fieldLink RX3 149 "SwingCircuitsModel" "drawn" "I", Cond.fieldLink RX3 57 "SwingCircuitsModel" "drawer" "[I", Cond.methodLink RX3 190 yX3_explains, Cond.instanceMethod yX3_explains, Cond.selects RX3 yX3_explains yX3_explains, Cond.code yX3_explains cX3_explains 7 (some .boolean), Cond.fieldLink RX3 16 "SwingCircuitsModel" "rise" "[I", Cond.fieldLink RX3 19 "SwingCircuitsModel" "fall" "[I", Cond.methodLink RX3 187 yX3_isSo, Cond.instanceMethod yX3_isSo]
def wsX3_faults_r2 : List Cond := [Cond.selects RX3 yX3_isSo yX3_isSo, Cond.code yX3_isSo cX3_isSo 9 (some .boolean), Cond.fieldLink RX3 152 "SwingCircuitsModel" "measured" "I", Cond.fieldLink RX3 25 "SwingCircuitsModel" "now" "[J", Cond.fieldLink RX3 32 "SwingCircuitsModel" "aside" "[J", Cond.fieldLink RX3 47 "SwingCircuitsModel" "isLogged" "Z", Cond.fieldLink RX3 125 "SwingCircuitsModel" "nextCell" "I", Cond.fieldLink RX3 128 "SwingCircuitsModel" "nextAt" "I", Cond.fieldLink RX3 90 "SwingCircuitsModel" "num" "J", Cond.fieldLink RX3 60 "SwingCircuitsModel" "measuredNum" "[J", Cond.fieldLink RX3 94 "SwingCircuitsModel" "den" "J", Cond.fieldLink RX3 63 "SwingCircuitsModel" "measuredDen" "[J", Cond.methodLink RX3 117 yX3_copy, Cond.static yX3_copy, Cond.code yX3_copy cX3_copy 3 none, Cond.methodLink RX3 66 yX3_resetAll, Cond.instanceMethod yX3_resetAll, Cond.selects RX3 yX3_resetAll yX3_resetAll, Cond.code yX3_resetAll cX3_resetAll 2 none, Cond.fieldLink RX3 9 "SwingCircuitsModel" "low" "[I", Cond.methodLink RX3 143 yX3_step, Cond.instanceMethod yX3_step, Cond.selects RX3 yX3_step yX3_step, Cond.code yX3_step cX3_step 12 (some .boolean)]
def wsX3_faults_r3 : List Cond := [Cond.fieldLink RX3 29 "SwingCircuitsModel" "before" "[J", Cond.fieldLink RX3 101 "SwingCircuitsModel" "linkMany" "I", Cond.constantLong RX3 141 (500), Cond.fieldLink RX3 35 "SwingCircuitsModel" "logCell" "[I", Cond.fieldLink RX3 38 "SwingCircuitsModel" "logAt" "[I", Cond.fieldLink RX3 41 "SwingCircuitsModel" "logNum" "[J", Cond.fieldLink RX3 44 "SwingCircuitsModel" "logDen" "[J", Cond.methodLink RX3 121 yX3_waitOf, Cond.instanceMethod yX3_waitOf, Cond.selects RX3 yX3_waitOf yX3_waitOf, Cond.code yX3_waitOf cX3_waitOf 6 none, Cond.fieldLink RX3 13 "SwingCircuitsModel" "high" "[I", Cond.methodLink RX3 104 yX3_isFilling, Cond.instanceMethod yX3_isFilling, Cond.selects RX3 yX3_isFilling yX3_isFilling, Cond.code yX3_isFilling cX3_isFilling 2 (some .boolean), Cond.methodLink RX3 107 yX3_make, Cond.instanceMethod yX3_make, Cond.selects RX3 yX3_make yX3_make, Cond.code yX3_make cX3_make 7 none, Cond.methodLink RX3 84 Lib.MathLoose.abs_long.x, Cond.static Lib.MathLoose.abs_long.x, Cond.initialized "java/lang/Math", Cond.code Lib.MathLoose.abs_long.x Lib.MathLoose.abs_long.code 2 (some .long)]
def wsX3_faults_r4 : List Cond := [Cond.methodLink RX3 80 yX3_common, Cond.static yX3_common, Cond.code yX3_common cX3_common 4 (some .long), Cond.methodLink RX3 131 yX3_store, Cond.instanceMethod yX3_store, Cond.selects RX3 yX3_store yX3_store, Cond.code yX3_store cX3_store 2 none, Cond.methodLink RX3 134 yX3_act, Cond.instanceMethod yX3_act, Cond.selects RX3 yX3_act yX3_act, Cond.code yX3_act cX3_act 8 none, Cond.fieldLink RX3 22 "SwingCircuitsModel" "links" "[I", Cond.methodLink RX3 137 yX3_isSpent, Cond.instanceMethod yX3_isSpent, Cond.selects RX3 yX3_isSpent yX3_isSpent, Cond.code yX3_isSpent cX3_isSpent 2 (some .boolean), Cond.methodLink RX3 113 yX3_isOver, Cond.static yX3_isOver, Cond.code yX3_isOver cX3_isOver 4 (some .boolean), Cond.constantLong RX3 111 (1000000)]
def wsX3_faults : List Cond := .code yX3_faults cX3_faults 2 (some .int) :: ((wsX3_faults_r1 ++ (wsX3_faults_r2 ++ (wsX3_faults_r3 ++ wsX3_faults_r4))) ++ wsX30)
def wsX3_fault_r1 : List Cond := [Cond.fieldLink RX3 69 "SwingCircuitsModel" "thrown" "I", Cond.methodLink RX3 97 yX3_isCell, Cond.instanceMethod yX3_isCell, Cond.selects RX3 yX3_isCell yX3_isCell, Cond.initialized RX3, Cond.code yX3_isCell cX3_isCell 2 (some .boolean), Cond.fieldLink RX3 73 "SwingCircuitsModel" "cells" "I", Cond.methodLink RX3 76 yX3_in, Cond.static yX3_in, Cond.code yX3_in cX3_in 3 (some .boolean), Cond.methodLink RX3 194 yX3_explaining, Cond.instanceMethod yX3_explaining, Cond.selects RX3 yX3_explaining yX3_explaining, Cond.code yX3_explaining cX3_explaining 7 (some .int), Cond.fieldLink RX3 149 "SwingCircuitsModel" "drawn" "I", Cond.fieldLink RX3 57 "SwingCircuitsModel" "drawer" "[I", Cond.methodLink RX3 190 yX3_explains, Cond.instanceMethod yX3_explains, Cond.selects RX3 yX3_explains yX3_explains, Cond.code yX3_explains cX3_explains 7 (some .boolean), Cond.fieldLink RX3 16 "SwingCircuitsModel" "rise" "[I", Cond.fieldLink RX3 19 "SwingCircuitsModel" "fall" "[I", Cond.methodLink RX3 187 yX3_isSo, Cond.instanceMethod yX3_isSo]
def wsX3_fault_r2 : List Cond := [Cond.selects RX3 yX3_isSo yX3_isSo, Cond.code yX3_isSo cX3_isSo 9 (some .boolean), Cond.fieldLink RX3 152 "SwingCircuitsModel" "measured" "I", Cond.fieldLink RX3 25 "SwingCircuitsModel" "now" "[J", Cond.fieldLink RX3 32 "SwingCircuitsModel" "aside" "[J", Cond.fieldLink RX3 47 "SwingCircuitsModel" "isLogged" "Z", Cond.fieldLink RX3 125 "SwingCircuitsModel" "nextCell" "I", Cond.fieldLink RX3 128 "SwingCircuitsModel" "nextAt" "I", Cond.fieldLink RX3 90 "SwingCircuitsModel" "num" "J", Cond.fieldLink RX3 60 "SwingCircuitsModel" "measuredNum" "[J", Cond.fieldLink RX3 94 "SwingCircuitsModel" "den" "J", Cond.fieldLink RX3 63 "SwingCircuitsModel" "measuredDen" "[J", Cond.methodLink RX3 117 yX3_copy, Cond.static yX3_copy, Cond.code yX3_copy cX3_copy 3 none, Cond.methodLink RX3 66 yX3_resetAll, Cond.instanceMethod yX3_resetAll, Cond.selects RX3 yX3_resetAll yX3_resetAll, Cond.code yX3_resetAll cX3_resetAll 2 none, Cond.fieldLink RX3 9 "SwingCircuitsModel" "low" "[I", Cond.methodLink RX3 143 yX3_step, Cond.instanceMethod yX3_step, Cond.selects RX3 yX3_step yX3_step, Cond.code yX3_step cX3_step 12 (some .boolean)]
def wsX3_fault_r3 : List Cond := [Cond.fieldLink RX3 29 "SwingCircuitsModel" "before" "[J", Cond.fieldLink RX3 101 "SwingCircuitsModel" "linkMany" "I", Cond.constantLong RX3 141 (500), Cond.fieldLink RX3 35 "SwingCircuitsModel" "logCell" "[I", Cond.fieldLink RX3 38 "SwingCircuitsModel" "logAt" "[I", Cond.fieldLink RX3 41 "SwingCircuitsModel" "logNum" "[J", Cond.fieldLink RX3 44 "SwingCircuitsModel" "logDen" "[J", Cond.methodLink RX3 121 yX3_waitOf, Cond.instanceMethod yX3_waitOf, Cond.selects RX3 yX3_waitOf yX3_waitOf, Cond.code yX3_waitOf cX3_waitOf 6 none, Cond.fieldLink RX3 13 "SwingCircuitsModel" "high" "[I", Cond.methodLink RX3 104 yX3_isFilling, Cond.instanceMethod yX3_isFilling, Cond.selects RX3 yX3_isFilling yX3_isFilling, Cond.code yX3_isFilling cX3_isFilling 2 (some .boolean), Cond.methodLink RX3 107 yX3_make, Cond.instanceMethod yX3_make, Cond.selects RX3 yX3_make yX3_make, Cond.code yX3_make cX3_make 7 none, Cond.methodLink RX3 84 Lib.MathLoose.abs_long.x, Cond.static Lib.MathLoose.abs_long.x, Cond.initialized "java/lang/Math", Cond.code Lib.MathLoose.abs_long.x Lib.MathLoose.abs_long.code 2 (some .long)]
def wsX3_fault_r4 : List Cond := [Cond.methodLink RX3 80 yX3_common, Cond.static yX3_common, Cond.code yX3_common cX3_common 4 (some .long), Cond.methodLink RX3 131 yX3_store, Cond.instanceMethod yX3_store, Cond.selects RX3 yX3_store yX3_store, Cond.code yX3_store cX3_store 2 none, Cond.methodLink RX3 134 yX3_act, Cond.instanceMethod yX3_act, Cond.selects RX3 yX3_act yX3_act, Cond.code yX3_act cX3_act 8 none, Cond.fieldLink RX3 22 "SwingCircuitsModel" "links" "[I", Cond.methodLink RX3 137 yX3_isSpent, Cond.instanceMethod yX3_isSpent, Cond.selects RX3 yX3_isSpent yX3_isSpent, Cond.code yX3_isSpent cX3_isSpent 2 (some .boolean), Cond.methodLink RX3 113 yX3_isOver, Cond.static yX3_isOver, Cond.code yX3_isOver cX3_isOver 4 (some .boolean), Cond.constantLong RX3 111 (1000000)]
def wsX3_fault : List Cond := .code yX3_fault cX3_fault 3 (some .int) :: ((wsX3_fault_r1 ++ (wsX3_fault_r2 ++ (wsX3_fault_r3 ++ wsX3_fault_r4))) ++ wsX30)
def wsX3_fits_r1 : List Cond := [Cond.fieldLink RX3 69 "SwingCircuitsModel" "thrown" "I", Cond.methodLink RX3 97 yX3_isCell, Cond.instanceMethod yX3_isCell, Cond.selects RX3 yX3_isCell yX3_isCell, Cond.initialized RX3, Cond.code yX3_isCell cX3_isCell 2 (some .boolean), Cond.fieldLink RX3 73 "SwingCircuitsModel" "cells" "I", Cond.methodLink RX3 76 yX3_in, Cond.static yX3_in, Cond.code yX3_in cX3_in 3 (some .boolean), Cond.methodLink RX3 187 yX3_isSo, Cond.instanceMethod yX3_isSo, Cond.selects RX3 yX3_isSo yX3_isSo, Cond.code yX3_isSo cX3_isSo 9 (some .boolean), Cond.fieldLink RX3 152 "SwingCircuitsModel" "measured" "I", Cond.fieldLink RX3 25 "SwingCircuitsModel" "now" "[J", Cond.fieldLink RX3 32 "SwingCircuitsModel" "aside" "[J", Cond.fieldLink RX3 47 "SwingCircuitsModel" "isLogged" "Z", Cond.fieldLink RX3 125 "SwingCircuitsModel" "nextCell" "I", Cond.fieldLink RX3 128 "SwingCircuitsModel" "nextAt" "I", Cond.fieldLink RX3 90 "SwingCircuitsModel" "num" "J", Cond.fieldLink RX3 60 "SwingCircuitsModel" "measuredNum" "[J", Cond.fieldLink RX3 94 "SwingCircuitsModel" "den" "J", Cond.fieldLink RX3 63 "SwingCircuitsModel" "measuredDen" "[J"]
def wsX3_fits_r2 : List Cond := [Cond.methodLink RX3 117 yX3_copy, Cond.static yX3_copy, Cond.code yX3_copy cX3_copy 3 none, Cond.methodLink RX3 66 yX3_resetAll, Cond.instanceMethod yX3_resetAll, Cond.selects RX3 yX3_resetAll yX3_resetAll, Cond.code yX3_resetAll cX3_resetAll 2 none, Cond.fieldLink RX3 9 "SwingCircuitsModel" "low" "[I", Cond.methodLink RX3 143 yX3_step, Cond.instanceMethod yX3_step, Cond.selects RX3 yX3_step yX3_step, Cond.code yX3_step cX3_step 12 (some .boolean), Cond.fieldLink RX3 29 "SwingCircuitsModel" "before" "[J", Cond.fieldLink RX3 16 "SwingCircuitsModel" "rise" "[I", Cond.fieldLink RX3 19 "SwingCircuitsModel" "fall" "[I", Cond.fieldLink RX3 101 "SwingCircuitsModel" "linkMany" "I", Cond.constantLong RX3 141 (500), Cond.fieldLink RX3 35 "SwingCircuitsModel" "logCell" "[I", Cond.fieldLink RX3 38 "SwingCircuitsModel" "logAt" "[I", Cond.fieldLink RX3 41 "SwingCircuitsModel" "logNum" "[J", Cond.fieldLink RX3 44 "SwingCircuitsModel" "logDen" "[J", Cond.methodLink RX3 121 yX3_waitOf, Cond.instanceMethod yX3_waitOf, Cond.selects RX3 yX3_waitOf yX3_waitOf]
def wsX3_fits_r3 : List Cond := [Cond.code yX3_waitOf cX3_waitOf 6 none, Cond.fieldLink RX3 13 "SwingCircuitsModel" "high" "[I", Cond.methodLink RX3 104 yX3_isFilling, Cond.instanceMethod yX3_isFilling, Cond.selects RX3 yX3_isFilling yX3_isFilling, Cond.code yX3_isFilling cX3_isFilling 2 (some .boolean), Cond.methodLink RX3 107 yX3_make, Cond.instanceMethod yX3_make, Cond.selects RX3 yX3_make yX3_make, Cond.code yX3_make cX3_make 7 none, Cond.methodLink RX3 84 Lib.MathLoose.abs_long.x, Cond.static Lib.MathLoose.abs_long.x, Cond.initialized "java/lang/Math", Cond.code Lib.MathLoose.abs_long.x Lib.MathLoose.abs_long.code 2 (some .long), Cond.methodLink RX3 80 yX3_common, Cond.static yX3_common, Cond.code yX3_common cX3_common 4 (some .long), Cond.methodLink RX3 131 yX3_store, Cond.instanceMethod yX3_store, Cond.selects RX3 yX3_store yX3_store, Cond.code yX3_store cX3_store 2 none, Cond.methodLink RX3 134 yX3_act, Cond.instanceMethod yX3_act, Cond.selects RX3 yX3_act yX3_act]
def wsX3_fits_r4 : List Cond := [Cond.code yX3_act cX3_act 8 none, Cond.fieldLink RX3 22 "SwingCircuitsModel" "links" "[I", Cond.methodLink RX3 137 yX3_isSpent, Cond.instanceMethod yX3_isSpent, Cond.selects RX3 yX3_isSpent yX3_isSpent, Cond.code yX3_isSpent cX3_isSpent 2 (some .boolean), Cond.methodLink RX3 113 yX3_isOver, Cond.static yX3_isOver, Cond.code yX3_isOver cX3_isOver 4 (some .boolean), Cond.constantLong RX3 111 (1000000)]
def wsX3_fits : List Cond := .code yX3_fits cX3_fits 2 (some .int) :: ((wsX3_fits_r1 ++ (wsX3_fits_r2 ++ (wsX3_fits_r3 ++ wsX3_fits_r4))) ++ wsX30)
def wsJ9_abs_067f4 : List Cond := .code yJ9_abs_067f4 cJ9_abs_067f4 2 (some .long) :: ([])
def wsL_of_r1 : List Cond := [Cond.classLink RL 13 "java/util/NoSuchElementException", Cond.methodLink RL 7 yX2_of, Cond.instanceMethod yX2_of, Cond.selects RX2 yX2_of yX2_of, Cond.initialized RX2, Cond.code yX2_of cX2_of 3 (some .int), Cond.classLink RX2 148 "java/util/NoSuchElementException", Cond.initialized "java/util/NoSuchElementException", Cond.fieldLink RX2 19 "SwingCircuits" "now" "LSwingCircuits$Swing;", Cond.fieldLink RX2 155 "SwingCircuits$Swing" "num" "[J", Cond.fieldLink RX2 158 "SwingCircuits$Swing" "den" "[J", Cond.fieldLink RX2 161 "SwingCircuits$Swing" "filling" "[Z", Cond.fieldLink RX2 30 "SwingCircuits" "tops" "[I", Cond.fieldLink RX2 34 "SwingCircuits" "bottoms" "[I", Cond.methodLink RX2 94 yX2_isCell, Cond.instanceMethod yX2_isCell, Cond.selects RX2 yX2_isCell yX2_isCell, Cond.code yX2_isCell cX2_isCell 2 (some .boolean), Cond.fieldLink RX2 12 "SwingCircuits" "circuit" "LSwingCircuits$Circuit;", Cond.fieldLink RX2 76 "SwingCircuits$Circuit" "cells" "I", Cond.methodLink RX2 165 yX2_beatTerm, Cond.instanceMethod yX2_beatTerm, Cond.selects RX2 yX2_beatTerm yX2_beatTerm, Cond.code yX2_beatTerm cX2_beatTerm 7 (some .int)]
def wsL_of_r2 : List Cond := [Cond.fieldLink RX2 85 "SwingCircuits$Circuit" "rise" "[I", Cond.fieldLink RX2 88 "SwingCircuits$Circuit" "fall" "[I", Cond.methodLink RX2 260 yX0_span, Cond.instanceMethod yX0_span, Cond.selects RX0 yX0_span yX0_span, Cond.initialized RX0, Cond.code yX0_span cX0_span 2 (some .int), Cond.fieldLink RX0 19 "SwingCircuits$Circuit" "high" "[I", Cond.fieldLink RX0 15 "SwingCircuits$Circuit" "low" "[I", Cond.methodLink RX2 257 yX2_commonOf, Cond.static yX2_commonOf, Cond.code yX2_commonOf cX2_commonOf 11 (some .long)]
def wsL_of : List Cond := .codeWith yL_of cL_of 5 (some .int) [(0, 10, 13, 13)] :: ((wsL_of_r1 ++ wsL_of_r2) ++ wsX20 ++ wsX10 ++ wsX00 ++ wsNE)
def wsL_law0_r1 : List Cond := [Cond.classLink RL 8 RX2, Cond.instantiable RX2 17, Cond.initialized RX2, Cond.classLink RL 16 RX3, Cond.instantiable RX3 28, Cond.initialized RX3, Cond.arrayClass .long, Cond.methodLink RL 15 yX2_init, Cond.instanceMethod yX2_init, Cond.code yX2_init cX2_init 1 none, Cond.methodLink RX2 3 objectInit, Cond.instanceMethod objectInit, Cond.code objectInit ⟨#[0xb1]⟩ 1 none, Cond.classLink RX2 9 RX0, Cond.instantiable RX0 12, Cond.initialized RX0, Cond.fieldLink RX2 12 "SwingCircuits" "circuit" "LSwingCircuits$Circuit;", Cond.classLink RX2 16 RX1, Cond.instantiable RX1 10, Cond.initialized RX1, Cond.fieldLink RX2 19 "SwingCircuits" "now" "LSwingCircuits$Swing;", Cond.fieldLink RX2 23 "SwingCircuits" "trial" "LSwingCircuits$Swing;", Cond.fieldLink RX2 26 "SwingCircuits" "happened" "I", Cond.arrayClass .int]
def wsL_law0_r2 : List Cond := [Cond.fieldLink RX2 30 "SwingCircuits" "tops" "[I", Cond.fieldLink RX2 34 "SwingCircuits" "bottoms" "[I", Cond.fieldLink RX2 37 "SwingCircuits" "kept" "[J", Cond.fieldLink RX2 41 "SwingCircuits" "trail" "[J", Cond.fieldLink RX2 44 "SwingCircuits" "ringAnswers" "[J", Cond.fieldLink RX2 47 "SwingCircuits" "ringFound" "Z", Cond.fieldLink RX2 51 "SwingCircuits" "stock" "[I", Cond.fieldLink RX2 54 "SwingCircuits" "stocked" "I", Cond.fieldLink RX2 57 "SwingCircuits" "measuredNum" "[I", Cond.fieldLink RX2 60 "SwingCircuits" "measuredDen" "[I", Cond.fieldLink RX2 63 "SwingCircuits" "measures" "I", Cond.fieldLink RX2 66 "SwingCircuits" "waysFound" "[I", Cond.fieldLink RX2 69 "SwingCircuits" "faultsFound" "[I", Cond.instanceMethod yX0_init, Cond.code yX0_init cX0_init 1 none, Cond.methodLink RX0 3 objectInit, Cond.fieldLink RX0 9 "SwingCircuits$Circuit" "cells" "I", Cond.fieldLink RX0 15 "SwingCircuits$Circuit" "low" "[I", Cond.fieldLink RX0 19 "SwingCircuits$Circuit" "high" "[I", Cond.fieldLink RX0 22 "SwingCircuits$Circuit" "rise" "[I", Cond.fieldLink RX0 25 "SwingCircuits$Circuit" "fall" "[I", Cond.fieldLink RX0 28 "SwingCircuits$Circuit" "links" "I", Cond.fieldLink RX0 31 "SwingCircuits$Circuit" "from" "[I", Cond.fieldLink RX0 34 "SwingCircuits$Circuit" "at" "[I"]
def wsL_law0_r3 : List Cond := [Cond.fieldLink RX0 37 "SwingCircuits$Circuit" "nth" "[I", Cond.fieldLink RX0 40 "SwingCircuits$Circuit" "to" "[I", Cond.fieldLink RX0 43 "SwingCircuits$Circuit" "act" "[I", Cond.fieldLink RX0 46 "SwingCircuits$Circuit" "by" "[I", Cond.instanceMethod yX1_init, Cond.code yX1_init cX1_init 1 none, Cond.methodLink RX1 3 objectInit, Cond.fieldLink RX1 9 "SwingCircuits$Swing" "timeNum" "J", Cond.fieldLink RX1 15 "SwingCircuits$Swing" "timeDen" "J", Cond.fieldLink RX1 18 "SwingCircuits$Swing" "num" "[J", Cond.fieldLink RX1 22 "SwingCircuits$Swing" "den" "[J", Cond.arrayClass .boolean, Cond.fieldLink RX1 25 "SwingCircuits$Swing" "filling" "[Z", Cond.fieldLink RX1 29 "SwingCircuits$Swing" "counts" "[I", Cond.fieldLink RX1 33 "SwingCircuits$Swing" "turned" "I", Cond.fieldLink RX1 37 "SwingCircuits$Swing" "side" "I", Cond.fieldLink RX1 40 "SwingCircuits$Swing" "waitNum" "J", Cond.fieldLink RX1 43 "SwingCircuits$Swing" "waitDen" "J", Cond.methodLink RL 18 yX3_init, Cond.instanceMethod yX3_init, Cond.code yX3_init cX3_init 1 none, Cond.methodLink RX3 1 objectInit, Cond.fieldLink RX3 9 "SwingCircuitsModel" "low" "[I", Cond.fieldLink RX3 13 "SwingCircuitsModel" "high" "[I"]
def wsL_law0_r4 : List Cond := [Cond.fieldLink RX3 16 "SwingCircuitsModel" "rise" "[I", Cond.fieldLink RX3 19 "SwingCircuitsModel" "fall" "[I", Cond.fieldLink RX3 22 "SwingCircuitsModel" "links" "[I", Cond.fieldLink RX3 25 "SwingCircuitsModel" "now" "[J", Cond.fieldLink RX3 29 "SwingCircuitsModel" "before" "[J", Cond.fieldLink RX3 32 "SwingCircuitsModel" "aside" "[J", Cond.fieldLink RX3 35 "SwingCircuitsModel" "logCell" "[I", Cond.fieldLink RX3 38 "SwingCircuitsModel" "logAt" "[I", Cond.fieldLink RX3 41 "SwingCircuitsModel" "logNum" "[J", Cond.fieldLink RX3 44 "SwingCircuitsModel" "logDen" "[J", Cond.fieldLink RX3 47 "SwingCircuitsModel" "isLogged" "Z", Cond.fieldLink RX3 51 "SwingCircuitsModel" "states" "[J", Cond.fieldLink RX3 54 "SwingCircuitsModel" "ringed" "[J", Cond.fieldLink RX3 57 "SwingCircuitsModel" "drawer" "[I", Cond.fieldLink RX3 60 "SwingCircuitsModel" "measuredNum" "[J", Cond.fieldLink RX3 63 "SwingCircuitsModel" "measuredDen" "[J", Cond.methodLink RX3 66 yX3_resetAll, Cond.instanceMethod yX3_resetAll, Cond.selects RX3 yX3_resetAll yX3_resetAll, Cond.code yX3_resetAll cX3_resetAll 2 none, Cond.methodLink RL 19 yX2_cell, Cond.instanceMethod yX2_cell, Cond.selects RX2 yX2_cell yX2_cell, Cond.code yX2_cell cX2_cell 7 (some .int)]
def wsL_law0_r5 : List Cond := [Cond.fieldLink RX2 76 "SwingCircuits$Circuit" "cells" "I", Cond.fieldLink RX2 79 "SwingCircuits$Circuit" "low" "[I", Cond.fieldLink RX2 82 "SwingCircuits$Circuit" "high" "[I", Cond.fieldLink RX2 85 "SwingCircuits$Circuit" "rise" "[I", Cond.fieldLink RX2 88 "SwingCircuits$Circuit" "fall" "[I", Cond.methodLink RX2 72 yX2_isRate, Cond.static yX2_isRate, Cond.code yX2_isRate cX2_isRate 1 (some .boolean), Cond.methodLink RX2 91 yX2_startAgain, Cond.instanceMethod yX2_startAgain, Cond.selects RX2 yX2_startAgain yX2_startAgain, Cond.code yX2_startAgain cX2_startAgain 2 none, Cond.methodLink RX2 223 yX1_restart, Cond.instanceMethod yX1_restart, Cond.selects RX1 yX1_restart yX1_restart, Cond.code yX1_restart cX1_restart 3 none, Cond.fieldLink RX1 46 "SwingCircuits$Circuit" "low" "[I", Cond.methodLink RL 23 yX3_cell, Cond.instanceMethod yX3_cell, Cond.selects RX3 yX3_cell yX3_cell, Cond.code yX3_cell cX3_cell 5 (some .int), Cond.fieldLink RX3 69 "SwingCircuitsModel" "thrown" "I", Cond.fieldLink RX3 73 "SwingCircuitsModel" "cells" "I", Cond.methodLink RX3 76 yX3_in]
def wsL_law0_r6 : List Cond := [Cond.static yX3_in, Cond.code yX3_in cX3_in 3 (some .boolean), Cond.methodLink RL 24 yX2_link, Cond.instanceMethod yX2_link, Cond.selects RX2 yX2_link yX2_link, Cond.code yX2_link cX2_link 8 (some .int), Cond.fieldLink RX2 101 "SwingCircuits$Circuit" "links" "I", Cond.fieldLink RX2 104 "SwingCircuits$Circuit" "from" "[I", Cond.fieldLink RX2 107 "SwingCircuits$Circuit" "at" "[I", Cond.fieldLink RX2 110 "SwingCircuits$Circuit" "nth" "[I", Cond.fieldLink RX2 113 "SwingCircuits$Circuit" "to" "[I", Cond.fieldLink RX2 116 "SwingCircuits$Circuit" "act" "[I", Cond.fieldLink RX2 119 "SwingCircuits$Circuit" "by" "[I", Cond.methodLink RX2 94 yX2_isCell, Cond.instanceMethod yX2_isCell, Cond.selects RX2 yX2_isCell yX2_isCell, Cond.code yX2_isCell cX2_isCell 2 (some .boolean), Cond.methodLink RX2 97 yX2_isAct, Cond.static yX2_isAct, Cond.code yX2_isAct cX2_isAct 2 (some .boolean), Cond.methodLink RL 28 yX3_link, Cond.instanceMethod yX3_link, Cond.selects RX3 yX3_link yX3_link, Cond.code yX3_link cX3_link 9 (some .int)]
def wsL_law0_r7 : List Cond := [Cond.fieldLink RX3 101 "SwingCircuitsModel" "linkMany" "I", Cond.methodLink RX3 97 yX3_isCell, Cond.instanceMethod yX3_isCell, Cond.selects RX3 yX3_isCell yX3_isCell, Cond.code yX3_isCell cX3_isCell 2 (some .boolean), Cond.methodLink RL 29 yX2_clear, Cond.instanceMethod yX2_clear, Cond.selects RX2 yX2_clear yX2_clear, Cond.code yX2_clear cX2_clear 2 (some .int), Cond.methodLink RL 33 yX3_clear, Cond.instanceMethod yX3_clear, Cond.selects RX3 yX3_clear yX3_clear, Cond.code yX3_clear cX3_clear 2 (some .int), Cond.methodLink RL 34 yX2_reset, Cond.instanceMethod yX2_reset, Cond.selects RX2 yX2_reset yX2_reset, Cond.code yX2_reset cX2_reset 2 (some .int), Cond.methodLink RL 37 yX3_reset, Cond.instanceMethod yX3_reset, Cond.selects RX3 yX3_reset yX3_reset, Cond.code yX3_reset cX3_reset 2 (some .int), Cond.methodLink RL 38 yX2_set, Cond.instanceMethod yX2_set, Cond.selects RX2 yX2_set yX2_set]
def wsL_law0_r8 : List Cond := [Cond.code yX2_set cX2_set 6 (some .int), Cond.methodLink RX2 122 yX0_ratesOf, Cond.instanceMethod yX0_ratesOf, Cond.selects RX0 yX0_ratesOf yX0_ratesOf, Cond.code yX0_ratesOf cX0_ratesOf 2 (some (.array .int)), Cond.methodLink RL 42 yX3_set, Cond.instanceMethod yX3_set, Cond.selects RX3 yX3_set yX3_set, Cond.code yX3_set cX3_set 5 (some .int), Cond.methodLink RL 43 yX2_run, Cond.instanceMethod yX2_run, Cond.selects RX2 yX2_run yX2_run, Cond.code yX2_run cX2_run 4 (some .int), Cond.methodLink RX2 126 yX1_copyFrom, Cond.instanceMethod yX1_copyFrom, Cond.selects RX1 yX1_copyFrom yX1_copyFrom, Cond.code yX1_copyFrom cX1_copyFrom 3 none, Cond.methodLink RX2 130 yX1_advance, Cond.instanceMethod yX1_advance, Cond.selects RX1 yX1_advance yX1_advance, Cond.code yX1_advance cX1_advance 2 (some .boolean), Cond.fieldLink RX1 51 "SwingCircuits$Circuit" "cells" "I", Cond.methodLink RX1 54 yX1_chooseTurning, Cond.instanceMethod yX1_chooseTurning]
def wsL_law0_r9 : List Cond := [Cond.selects RX1 yX1_chooseTurning yX1_chooseTurning, Cond.code yX1_chooseTurning cX1_chooseTurning 7 none, Cond.fieldLink RX1 68 "SwingCircuits$Circuit" "high" "[I", Cond.fieldLink RX1 71 "SwingCircuits$Circuit" "rise" "[I", Cond.fieldLink RX1 74 "SwingCircuits$Circuit" "fall" "[I", Cond.methodLink RX1 58 yX1_letTimePass, Cond.instanceMethod yX1_letTimePass, Cond.selects RX1 yX1_letTimePass yX1_letTimePass, Cond.code yX1_letTimePass cX1_letTimePass 11 none, Cond.static yX2_commonOf, Cond.code yX2_commonOf cX2_commonOf 11 (some .long), Cond.methodLink RX1 61 yX1_passOn, Cond.instanceMethod yX1_passOn, Cond.selects RX1 yX1_passOn yX1_passOn, Cond.code yX1_passOn cX1_passOn 3 none, Cond.fieldLink RX1 81 "SwingCircuits$Circuit" "links" "I", Cond.fieldLink RX1 84 "SwingCircuits$Circuit" "from" "[I", Cond.fieldLink RX1 87 "SwingCircuits$Circuit" "at" "[I", Cond.fieldLink RX1 90 "SwingCircuits$Circuit" "nth" "[I", Cond.methodLink RX1 93 yX1_doAct, Cond.instanceMethod yX1_doAct, Cond.selects RX1 yX1_doAct yX1_doAct, Cond.code yX1_doAct cX1_doAct 4 none, Cond.fieldLink RX1 97 "SwingCircuits$Circuit" "to" "[I"]
def wsL_law0_r10 : List Cond := [Cond.fieldLink RX1 100 "SwingCircuits$Circuit" "act" "[I", Cond.fieldLink RX1 103 "SwingCircuits$Circuit" "by" "[I", Cond.methodLink RX1 106 yX1_keepBetweenBars, Cond.instanceMethod yX1_keepBetweenBars, Cond.selects RX1 yX1_keepBetweenBars yX1_keepBetweenBars, Cond.code yX1_keepBetweenBars cX1_keepBetweenBars 3 none, Cond.methodLink RX1 64 yX1_isSpent, Cond.instanceMethod yX1_isSpent, Cond.selects RX1 yX1_isSpent yX1_isSpent, Cond.code yX1_isSpent cX1_isSpent 3 (some .boolean), Cond.methodLink RX1 109 yX1_isTooLong, Cond.static yX1_isTooLong, Cond.code yX1_isTooLong cX1_isTooLong 4 (some .boolean), Cond.constantLong RX1 113 (1000000), Cond.constantLong RX1 115 (-1000000), Cond.methodLink RX2 134 yX2_noteEvent, Cond.instanceMethod yX2_noteEvent, Cond.selects RX2 yX2_noteEvent yX2_noteEvent, Cond.code yX2_noteEvent cX2_noteEvent 1 none, Cond.fieldLink RX2 231 "SwingCircuits$Swing" "side" "I", Cond.fieldLink RX2 234 "SwingCircuits$Swing" "turned" "I", Cond.methodLink RX2 227 yX1_packedEvent, Cond.instanceMethod yX1_packedEvent, Cond.selects RX1 yX1_packedEvent yX1_packedEvent]
def wsL_law0_r11 : List Cond := [Cond.code yX1_packedEvent cX1_packedEvent 1 (some .long), Cond.static yX2_packed, Cond.code yX2_packed cX2_packed 4 (some .long), Cond.methodLink RL 47 yX3_run, Cond.instanceMethod yX3_run, Cond.selects RX3 yX3_run yX3_run, Cond.code yX3_run cX3_run 3 (some .int), Cond.methodLink RX3 143 yX3_step, Cond.instanceMethod yX3_step, Cond.selects RX3 yX3_step yX3_step, Cond.code yX3_step cX3_step 12 (some .boolean), Cond.fieldLink RX3 90 "SwingCircuitsModel" "num" "J", Cond.fieldLink RX3 94 "SwingCircuitsModel" "den" "J", Cond.fieldLink RX3 125 "SwingCircuitsModel" "nextCell" "I", Cond.fieldLink RX3 128 "SwingCircuitsModel" "nextAt" "I", Cond.constantLong RX3 141 (500), Cond.methodLink RX3 117 yX3_copy, Cond.static yX3_copy, Cond.code yX3_copy cX3_copy 3 none, Cond.methodLink RX3 121 yX3_waitOf, Cond.instanceMethod yX3_waitOf, Cond.selects RX3 yX3_waitOf yX3_waitOf, Cond.code yX3_waitOf cX3_waitOf 6 none, Cond.methodLink RX3 104 yX3_isFilling]
def wsL_law0_r12 : List Cond := [Cond.instanceMethod yX3_isFilling, Cond.selects RX3 yX3_isFilling yX3_isFilling, Cond.code yX3_isFilling cX3_isFilling 2 (some .boolean), Cond.methodLink RX3 107 yX3_make, Cond.instanceMethod yX3_make, Cond.selects RX3 yX3_make yX3_make, Cond.code yX3_make cX3_make 7 none, Cond.methodLink RX3 84 Lib.MathLoose.abs_long.x, Cond.static Lib.MathLoose.abs_long.x, Cond.initialized "java/lang/Math", Cond.code Lib.MathLoose.abs_long.x Lib.MathLoose.abs_long.code 2 (some .long), Cond.methodLink RX3 80 yX3_common, Cond.static yX3_common, Cond.code yX3_common cX3_common 4 (some .long), Cond.methodLink RX3 131 yX3_store, Cond.instanceMethod yX3_store, Cond.selects RX3 yX3_store yX3_store, Cond.code yX3_store cX3_store 2 none, Cond.methodLink RX3 134 yX3_act, Cond.instanceMethod yX3_act, Cond.selects RX3 yX3_act yX3_act, Cond.code yX3_act cX3_act 8 none, Cond.methodLink RX3 137 yX3_isSpent, Cond.instanceMethod yX3_isSpent]
def wsL_law0_r13 : List Cond := [Cond.selects RX3 yX3_isSpent yX3_isSpent, Cond.code yX3_isSpent cX3_isSpent 2 (some .boolean), Cond.methodLink RX3 113 yX3_isOver, Cond.static yX3_isOver, Cond.code yX3_isOver cX3_isOver 4 (some .boolean), Cond.constantLong RX3 111 (1000000), Cond.methodLink RL 48 yX2_count, Cond.instanceMethod yX2_count, Cond.selects RX2 yX2_count yX2_count, Cond.code yX2_count cX2_count 2 (some .int), Cond.fieldLink RX2 137 "SwingCircuits$Swing" "timeNum" "J", Cond.fieldLink RX2 141 "SwingCircuits$Swing" "timeDen" "J", Cond.methodLink RX2 144 yX2_isNextSpent, Cond.instanceMethod yX2_isNextSpent, Cond.selects RX2 yX2_isNextSpent yX2_isNextSpent, Cond.code yX2_isNextSpent cX2_isNextSpent 1 (some .boolean), Cond.methodLink RL 51 yX3_count, Cond.instanceMethod yX3_count, Cond.selects RX3 yX3_count yX3_count, Cond.code yX3_count cX3_count 2 (some .int), Cond.fieldLink RX3 149 "SwingCircuitsModel" "drawn" "I", Cond.fieldLink RX3 152 "SwingCircuitsModel" "measured" "I", Cond.methodLink RX3 146 yX3_wouldBeSpent, Cond.instanceMethod yX3_wouldBeSpent]
def wsL_law0_r14 : List Cond := [Cond.selects RX3 yX3_wouldBeSpent yX3_wouldBeSpent, Cond.code yX3_wouldBeSpent cX3_wouldBeSpent 2 (some .boolean), Cond.methodLink RL 52 yL_of, Cond.static yL_of, Cond.initialized RL, Cond.codeWith yL_of cL_of 5 (some .int) [(0, 10, 13, 13)], Cond.classLink RL 13 "java/util/NoSuchElementException", Cond.methodLink RL 7 yX2_of, Cond.instanceMethod yX2_of, Cond.selects RX2 yX2_of yX2_of, Cond.code yX2_of cX2_of 3 (some .int), Cond.classLink RX2 148 "java/util/NoSuchElementException", Cond.initialized "java/util/NoSuchElementException", Cond.fieldLink RX2 155 "SwingCircuits$Swing" "num" "[J", Cond.fieldLink RX2 158 "SwingCircuits$Swing" "den" "[J", Cond.fieldLink RX2 161 "SwingCircuits$Swing" "filling" "[Z", Cond.methodLink RX2 165 yX2_beatTerm, Cond.instanceMethod yX2_beatTerm, Cond.selects RX2 yX2_beatTerm yX2_beatTerm, Cond.code yX2_beatTerm cX2_beatTerm 7 (some .int), Cond.methodLink RX2 260 yX0_span, Cond.instanceMethod yX0_span, Cond.selects RX0 yX0_span yX0_span, Cond.code yX0_span cX0_span 2 (some .int)]
def wsL_law0_r15 : List Cond := [Cond.methodLink RX2 257 yX2_commonOf, Cond.methodLink RL 57 yX3_of, Cond.instanceMethod yX3_of, Cond.selects RX3 yX3_of yX3_of, Cond.code yX3_of cX3_of 3 (some .int), Cond.methodLink RX3 155 yX3_beat, Cond.instanceMethod yX3_beat, Cond.selects RX3 yX3_beat yX3_beat, Cond.code yX3_beat cX3_beat 4 none, Cond.methodLink RL 58 yX3_thrown, Cond.instanceMethod yX3_thrown, Cond.selects RX3 yX3_thrown yX3_thrown, Cond.code yX3_thrown cX3_thrown 1 (some .int), Cond.methodLink RL 61 yX2_counted, Cond.instanceMethod yX2_counted, Cond.selects RX2 yX2_counted yX2_counted, Cond.code yX2_counted cX2_counted 2 (some .int), Cond.fieldLink RX2 171 "SwingCircuits$Swing" "counts" "[I", Cond.methodLink RL 64 yX3_counted, Cond.instanceMethod yX3_counted, Cond.selects RX3 yX3_counted yX3_counted, Cond.code yX3_counted cX3_counted 2 (some .int), Cond.methodLink RL 65 yX2_event, Cond.instanceMethod yX2_event]
def wsL_law0_r16 : List Cond := [Cond.selects RX2 yX2_event yX2_event, Cond.code yX2_event cX2_event 3 (some .int), Cond.methodLink RX2 174 yX2_turnedIn, Cond.static yX2_turnedIn, Cond.code yX2_turnedIn cX2_turnedIn 2 (some .int), Cond.methodLink RX2 178 yX2_sideIn, Cond.static yX2_sideIn, Cond.code yX2_sideIn cX2_sideIn 2 (some .int), Cond.methodLink RX2 181 yX2_timeNumIn, Cond.static yX2_timeNumIn, Cond.code yX2_timeNumIn cX2_timeNumIn 2 (some .long), Cond.methodLink RX2 185 yX2_timeDenIn, Cond.static yX2_timeDenIn, Cond.code yX2_timeDenIn cX2_timeDenIn 2 (some .long), Cond.constantLong RX2 267 (1048575), Cond.methodLink RL 68 yX3_event, Cond.instanceMethod yX3_event, Cond.selects RX3 yX3_event yX3_event, Cond.code yX3_event cX3_event 3 (some .int), Cond.methodLink RL 69 yX2_ring, Cond.instanceMethod yX2_ring, Cond.selects RX2 yX2_ring yX2_ring, Cond.code yX2_ring cX2_ring 4 (some .int), Cond.methodLink RX2 188 yX2_writeTrail]
def wsL_law0_r17 : List Cond := [Cond.instanceMethod yX2_writeTrail, Cond.selects RX2 yX2_writeTrail yX2_writeTrail, Cond.code yX2_writeTrail cX2_writeTrail 4 none, Cond.methodLink RX2 237 yX2_packed, Cond.methodLink RX2 241 yX1_packedMarks, Cond.instanceMethod yX1_packedMarks, Cond.selects RX1 yX1_packedMarks yX1_packedMarks, Cond.code yX1_packedMarks cX1_packedMarks 4 (some .long), Cond.constantLong RX1 120 (2), Cond.methodLink RX2 192 yX2_sameAhead, Cond.instanceMethod yX2_sameAhead, Cond.selects RX2 yX2_sameAhead yX2_sameAhead, Cond.code yX2_sameAhead cX2_sameAhead 3 (some .int), Cond.methodLink RX2 244 yX2_isSameState, Cond.instanceMethod yX2_isSameState, Cond.selects RX2 yX2_isSameState yX2_isSameState, Cond.code yX2_isSameState cX2_isSameState 4 (some .boolean), Cond.methodLink RX2 196 yX2_keepRing, Cond.instanceMethod yX2_keepRing, Cond.selects RX2 yX2_keepRing yX2_keepRing, Cond.code yX2_keepRing cX2_keepRing 10 none, Cond.methodLink RX2 247 yX2_eventInRow, Cond.instanceMethod yX2_eventInRow, Cond.selects RX2 yX2_eventInRow yX2_eventInRow]
def wsL_law0_r18 : List Cond := [Cond.code yX2_eventInRow cX2_eventInRow 2 (some .long), Cond.methodLink RX2 251 yX2_betweenNum, Cond.static yX2_betweenNum, Cond.code yX2_betweenNum cX2_betweenNum 4 (some .long), Cond.methodLink RX2 254 yX2_betweenDen, Cond.static yX2_betweenDen, Cond.code yX2_betweenDen cX2_betweenDen 4 (some .long), Cond.methodLink RL 72 yX3_ring, Cond.instanceMethod yX3_ring, Cond.selects RX3 yX3_ring yX3_ring, Cond.code yX3_ring cX3_ring 3 (some .int), Cond.methodLink RX3 173 yX3_seek, Cond.instanceMethod yX3_seek, Cond.selects RX3 yX3_seek yX3_seek, Cond.code yX3_seek cX3_seek 4 (some .int), Cond.methodLink RX3 159 yX3_keep, Cond.instanceMethod yX3_keep, Cond.selects RX3 yX3_keep yX3_keep, Cond.code yX3_keep cX3_keep 3 none, Cond.methodLink RX3 162 yX3_areAlike, Cond.instanceMethod yX3_areAlike, Cond.selects RX3 yX3_areAlike yX3_areAlike, Cond.code yX3_areAlike cX3_areAlike 4 (some .boolean), Cond.methodLink RX3 166 yX3_tell]
def wsL_law0_r19 : List Cond := [Cond.instanceMethod yX3_tell, Cond.selects RX3 yX3_tell yX3_tell, Cond.code yX3_tell cX3_tell 6 none, Cond.fieldLink RX3 170 "SwingCircuitsModel" "wasRing" "Z", Cond.methodLink RL 73 yX2_ringed, Cond.instanceMethod yX2_ringed, Cond.selects RX2 yX2_ringed yX2_ringed, Cond.code yX2_ringed cX2_ringed 2 (some .long), Cond.constantLong RX2 200 (-1), Cond.methodLink RL 77 yX3_ringed, Cond.instanceMethod yX3_ringed, Cond.selects RX3 yX3_ringed yX3_ringed, Cond.code yX3_ringed cX3_ringed 2 (some .long), Cond.constantLong RX3 177 (-1), Cond.methodLink RL 78 yX2_drawer, Cond.instanceMethod yX2_drawer, Cond.selects RX2 yX2_drawer yX2_drawer, Cond.code yX2_drawer cX2_drawer 2 (some .int), Cond.methodLink RX2 202 yX2_isStocked, Cond.instanceMethod yX2_isStocked, Cond.selects RX2 yX2_isStocked yX2_isStocked, Cond.code yX2_isStocked cX2_isStocked 3 (some .boolean), Cond.methodLink RL 81 yX3_drawer, Cond.instanceMethod yX3_drawer]
def wsL_law0_r20 : List Cond := [Cond.selects RX3 yX3_drawer yX3_drawer, Cond.code yX3_drawer cX3_drawer 3 (some .int), Cond.methodLink RL 82 yX2_parts, Cond.instanceMethod yX2_parts, Cond.selects RX2 yX2_parts yX2_parts, Cond.code yX2_parts cX2_parts 4 (some .int), Cond.methodLink RX2 205 yX2_isTerm, Cond.static yX2_isTerm, Cond.code yX2_isTerm cX2_isTerm 1 (some .boolean), Cond.constant RX2 222 (1000000), Cond.methodLink RX2 208 yX2_findWays, Cond.instanceMethod yX2_findWays, Cond.selects RX2 yX2_findWays yX2_findWays, Cond.code yX2_findWays cX2_findWays 11 (some .int), Cond.methodLink RL 85 yX3_parts, Cond.instanceMethod yX3_parts, Cond.selects RX3 yX3_parts yX3_parts, Cond.code yX3_parts cX3_parts 4 (some .int), Cond.methodLink RX3 180 yX3_isFraction, Cond.static yX3_isFraction, Cond.code yX3_isFraction cX3_isFraction 2 (some .boolean), Cond.constant RX3 179 (1000000), Cond.methodLink RX3 183 yX3_ways, Cond.instanceMethod yX3_ways]
def wsL_law0_r21 : List Cond := [Cond.selects RX3 yX3_ways yX3_ways, Cond.code yX3_ways cX3_ways 8 (some .int), Cond.methodLink RL 86 yX2_part, Cond.instanceMethod yX2_part, Cond.selects RX2 yX2_part yX2_part, Cond.code yX2_part cX2_part 6 (some .int), Cond.methodLink RX2 212 yX2_parts, Cond.methodLink RL 89 yX3_part, Cond.instanceMethod yX3_part, Cond.selects RX3 yX3_part yX3_part, Cond.code yX3_part cX3_part 5 (some .int), Cond.methodLink RL 90 yX2_measure, Cond.instanceMethod yX2_measure, Cond.selects RX2 yX2_measure yX2_measure, Cond.code yX2_measure cX2_measure 3 (some .int), Cond.methodLink RL 93 yX3_measure, Cond.instanceMethod yX3_measure, Cond.selects RX3 yX3_measure yX3_measure, Cond.code yX3_measure cX3_measure 3 (some .int), Cond.methodLink RL 94 yX2_forget, Cond.instanceMethod yX2_forget, Cond.selects RX2 yX2_forget yX2_forget, Cond.code yX2_forget cX2_forget 2 (some .int), Cond.methodLink RL 97 yX3_forget]
def wsL_law0_r22 : List Cond := [Cond.instanceMethod yX3_forget, Cond.selects RX3 yX3_forget yX3_forget, Cond.code yX3_forget cX3_forget 2 (some .int), Cond.methodLink RL 98 yX2_faults, Cond.instanceMethod yX2_faults, Cond.selects RX2 yX2_faults yX2_faults, Cond.code yX2_faults cX2_faults 2 (some .int), Cond.methodLink RX2 216 yX2_findFaults, Cond.instanceMethod yX2_findFaults, Cond.selects RX2 yX2_findFaults yX2_findFaults, Cond.code yX2_findFaults cX2_findFaults 8 (some .int), Cond.methodLink RX2 219 yX2_isMeasuredSo, Cond.instanceMethod yX2_isMeasuredSo, Cond.selects RX2 yX2_isMeasuredSo yX2_isMeasuredSo, Cond.code yX2_isMeasuredSo cX2_isMeasuredSo 8 (some .boolean), Cond.methodLink RX2 263 yX2_isMeasure, Cond.instanceMethod yX2_isMeasure, Cond.selects RX2 yX2_isMeasure yX2_isMeasure, Cond.code yX2_isMeasure cX2_isMeasure 6 (some .boolean), Cond.methodLink RL 101 yX3_faults, Cond.instanceMethod yX3_faults, Cond.selects RX3 yX3_faults yX3_faults, Cond.code yX3_faults cX3_faults 2 (some .int), Cond.methodLink RX3 194 yX3_explaining]
def wsL_law0_r23 : List Cond := [Cond.instanceMethod yX3_explaining, Cond.selects RX3 yX3_explaining yX3_explaining, Cond.code yX3_explaining cX3_explaining 7 (some .int), Cond.methodLink RX3 190 yX3_explains, Cond.instanceMethod yX3_explains, Cond.selects RX3 yX3_explains yX3_explains, Cond.code yX3_explains cX3_explains 7 (some .boolean), Cond.methodLink RX3 187 yX3_isSo, Cond.instanceMethod yX3_isSo, Cond.selects RX3 yX3_isSo yX3_isSo, Cond.code yX3_isSo cX3_isSo 9 (some .boolean), Cond.methodLink RL 102 yX2_fault, Cond.instanceMethod yX2_fault, Cond.selects RX2 yX2_fault yX2_fault, Cond.code yX2_fault cX2_fault 4 (some .int), Cond.methodLink RL 105 yX3_fault, Cond.instanceMethod yX3_fault, Cond.selects RX3 yX3_fault yX3_fault, Cond.code yX3_fault cX3_fault 3 (some .int), Cond.methodLink RL 106 yX2_fits, Cond.instanceMethod yX2_fits, Cond.selects RX2 yX2_fits yX2_fits, Cond.code yX2_fits cX2_fits 2 (some .int), Cond.methodLink RL 109 yX3_fits]
def wsL_law0_r24 : List Cond := [Cond.instanceMethod yX3_fits, Cond.selects RX3 yX3_fits yX3_fits, Cond.code yX3_fits cX3_fits 2 (some .int)]
def wsL_law0 : List Cond := (wsL_law0_r1 ++ (wsL_law0_r2 ++ (wsL_law0_r3 ++ (wsL_law0_r4 ++ (wsL_law0_r5 ++ (wsL_law0_r6 ++ (wsL_law0_r7 ++ (wsL_law0_r8 ++ (wsL_law0_r9 ++ (wsL_law0_r10 ++ (wsL_law0_r11 ++ (wsL_law0_r12 ++ (wsL_law0_r13 ++ (wsL_law0_r14 ++ (wsL_law0_r15 ++ (wsL_law0_r16 ++ (wsL_law0_r17 ++ (wsL_law0_r18 ++ (wsL_law0_r19 ++ (wsL_law0_r20 ++ (wsL_law0_r21 ++ (wsL_law0_r22 ++ (wsL_law0_r23 ++ wsL_law0_r24))))))))))))))))))))))) ++ wsX20 ++ wsX30 ++ wsX00 ++ wsX10 ++ ([] : List Cond)
def wsL_law : List Cond := wsL_law0 ++ wsNE
theorem own_at {big ws : List Cond} (ps : List Nat) (hp : ws = ps.filterMap (fun i => big[i]?)) : ∀ w ∈ ws, w ∈ big := by
  intro w hw
  rw [hp] at hw
  obtain ⟨i, -, hi⟩ := List.mem_filterMap.mp hw
  exact List.mem_of_getElem? hi
theorem wsL_law0_r1_p0_in : ∀ w ∈ ([Cond.classLink RL 8 RX2, Cond.instantiable RX2 17, Cond.initialized RX2, Cond.classLink RL 16 RX3, Cond.instantiable RX3 28, Cond.initialized RX3, Cond.arrayClass .long, Cond.methodLink RL 15 yX2_init, Cond.instanceMethod yX2_init, Cond.code yX2_init cX2_init 1 none, Cond.methodLink RX2 3 objectInit, Cond.instanceMethod objectInit] : List Cond), w ∈ lw_tbl := own_at [51, 52, 42, 534, 535, 45, 172, 53, 54, 55, 56, 57] (by decide +kernel)
theorem wsL_law0_r1_p1_in : ∀ w ∈ ([Cond.code objectInit ⟨#[0xb1]⟩ 1 none, Cond.classLink RX2 9 RX0, Cond.instantiable RX0 12, Cond.initialized RX0, Cond.fieldLink RX2 12 "SwingCircuits" "circuit" "LSwingCircuits$Circuit;", Cond.classLink RX2 16 RX1, Cond.instantiable RX1 10, Cond.initialized RX1, Cond.fieldLink RX2 19 "SwingCircuits" "now" "LSwingCircuits$Swing;", Cond.fieldLink RX2 23 "SwingCircuits" "trial" "LSwingCircuits$Swing;", Cond.fieldLink RX2 26 "SwingCircuits" "happened" "I", Cond.arrayClass .int] : List Cond), w ∈ lw_tbl := own_at [58, 59, 60, 43, 174, 127, 128, 44, 175, 176, 177, 126] (by decide +kernel)
theorem wsL_law0_r1_in : ∀ w ∈ wsL_law0_r1, w ∈ lw_tbl := (List.forall_mem_append.mpr ⟨wsL_law0_r1_p0_in, wsL_law0_r1_p1_in⟩)
theorem wsL_law0_r2_p0_in : ∀ w ∈ ([Cond.fieldLink RX2 30 "SwingCircuits" "tops" "[I", Cond.fieldLink RX2 34 "SwingCircuits" "bottoms" "[I", Cond.fieldLink RX2 37 "SwingCircuits" "kept" "[J", Cond.fieldLink RX2 41 "SwingCircuits" "trail" "[J", Cond.fieldLink RX2 44 "SwingCircuits" "ringAnswers" "[J", Cond.fieldLink RX2 47 "SwingCircuits" "ringFound" "Z", Cond.fieldLink RX2 51 "SwingCircuits" "stock" "[I", Cond.fieldLink RX2 54 "SwingCircuits" "stocked" "I", Cond.fieldLink RX2 57 "SwingCircuits" "measuredNum" "[I", Cond.fieldLink RX2 60 "SwingCircuits" "measuredDen" "[I", Cond.fieldLink RX2 63 "SwingCircuits" "measures" "I", Cond.fieldLink RX2 66 "SwingCircuits" "waysFound" "[I"] : List Cond), w ∈ lw_tbl := own_at [178, 179, 180, 181, 182, 183, 184, 185, 186, 187, 188, 189] (by decide +kernel)
theorem wsL_law0_r2_p1_in : ∀ w ∈ ([Cond.fieldLink RX2 69 "SwingCircuits" "faultsFound" "[I", Cond.instanceMethod yX0_init, Cond.code yX0_init cX0_init 1 none, Cond.methodLink RX0 3 objectInit, Cond.fieldLink RX0 9 "SwingCircuits$Circuit" "cells" "I", Cond.fieldLink RX0 15 "SwingCircuits$Circuit" "low" "[I", Cond.fieldLink RX0 19 "SwingCircuits$Circuit" "high" "[I", Cond.fieldLink RX0 22 "SwingCircuits$Circuit" "rise" "[I", Cond.fieldLink RX0 25 "SwingCircuits$Circuit" "fall" "[I", Cond.fieldLink RX0 28 "SwingCircuits$Circuit" "links" "I", Cond.fieldLink RX0 31 "SwingCircuits$Circuit" "from" "[I", Cond.fieldLink RX0 34 "SwingCircuits$Circuit" "at" "[I"] : List Cond), w ∈ lw_tbl := own_at [190, 62, 63, 64, 65, 68, 71, 74, 77, 80, 83, 86] (by decide +kernel)
theorem wsL_law0_r2_in : ∀ w ∈ wsL_law0_r2, w ∈ lw_tbl := (List.forall_mem_append.mpr ⟨wsL_law0_r2_p0_in, wsL_law0_r2_p1_in⟩)
theorem wsL_law0_r3_p0_in : ∀ w ∈ ([Cond.fieldLink RX0 37 "SwingCircuits$Circuit" "nth" "[I", Cond.fieldLink RX0 40 "SwingCircuits$Circuit" "to" "[I", Cond.fieldLink RX0 43 "SwingCircuits$Circuit" "act" "[I", Cond.fieldLink RX0 46 "SwingCircuits$Circuit" "by" "[I", Cond.instanceMethod yX1_init, Cond.code yX1_init cX1_init 1 none, Cond.methodLink RX1 3 objectInit, Cond.fieldLink RX1 9 "SwingCircuits$Swing" "timeNum" "J", Cond.fieldLink RX1 15 "SwingCircuits$Swing" "timeDen" "J", Cond.fieldLink RX1 18 "SwingCircuits$Swing" "num" "[J", Cond.fieldLink RX1 22 "SwingCircuits$Swing" "den" "[J", Cond.arrayClass .boolean] : List Cond), w ∈ lw_tbl := own_at [89, 92, 95, 98, 130, 131, 132, 133, 135, 137, 139, 173] (by decide +kernel)
theorem wsL_law0_r3_p1_in : ∀ w ∈ ([Cond.fieldLink RX1 25 "SwingCircuits$Swing" "filling" "[Z", Cond.fieldLink RX1 29 "SwingCircuits$Swing" "counts" "[I", Cond.fieldLink RX1 33 "SwingCircuits$Swing" "turned" "I", Cond.fieldLink RX1 37 "SwingCircuits$Swing" "side" "I", Cond.fieldLink RX1 40 "SwingCircuits$Swing" "waitNum" "J", Cond.fieldLink RX1 43 "SwingCircuits$Swing" "waitDen" "J", Cond.methodLink RL 18 yX3_init, Cond.instanceMethod yX3_init, Cond.code yX3_init cX3_init 1 none, Cond.methodLink RX3 1 objectInit, Cond.fieldLink RX3 9 "SwingCircuitsModel" "low" "[I", Cond.fieldLink RX3 13 "SwingCircuitsModel" "high" "[I"] : List Cond), w ∈ lw_tbl := own_at [141, 143, 145, 147, 149, 150, 536, 537, 538, 539, 544, 545] (by decide +kernel)
theorem wsL_law0_r3_in : ∀ w ∈ wsL_law0_r3, w ∈ lw_tbl := (List.forall_mem_append.mpr ⟨wsL_law0_r3_p0_in, wsL_law0_r3_p1_in⟩)
theorem wsL_law0_r4_p0_in : ∀ w ∈ ([Cond.fieldLink RX3 16 "SwingCircuitsModel" "rise" "[I", Cond.fieldLink RX3 19 "SwingCircuitsModel" "fall" "[I", Cond.fieldLink RX3 22 "SwingCircuitsModel" "links" "[I", Cond.fieldLink RX3 25 "SwingCircuitsModel" "now" "[J", Cond.fieldLink RX3 29 "SwingCircuitsModel" "before" "[J", Cond.fieldLink RX3 32 "SwingCircuitsModel" "aside" "[J", Cond.fieldLink RX3 35 "SwingCircuitsModel" "logCell" "[I", Cond.fieldLink RX3 38 "SwingCircuitsModel" "logAt" "[I", Cond.fieldLink RX3 41 "SwingCircuitsModel" "logNum" "[J", Cond.fieldLink RX3 44 "SwingCircuitsModel" "logDen" "[J", Cond.fieldLink RX3 47 "SwingCircuitsModel" "isLogged" "Z", Cond.fieldLink RX3 51 "SwingCircuitsModel" "states" "[J"] : List Cond), w ∈ lw_tbl := own_at [546, 547, 549, 551, 552, 553, 554, 555, 556, 557, 558, 559] (by decide +kernel)
theorem wsL_law0_r4_p1_in : ∀ w ∈ ([Cond.fieldLink RX3 54 "SwingCircuitsModel" "ringed" "[J", Cond.fieldLink RX3 57 "SwingCircuitsModel" "drawer" "[I", Cond.fieldLink RX3 60 "SwingCircuitsModel" "measuredNum" "[J", Cond.fieldLink RX3 63 "SwingCircuitsModel" "measuredDen" "[J", Cond.methodLink RX3 66 yX3_resetAll, Cond.instanceMethod yX3_resetAll, Cond.selects RX3 yX3_resetAll yX3_resetAll, Cond.code yX3_resetAll cX3_resetAll 2 none, Cond.methodLink RL 19 yX2_cell, Cond.instanceMethod yX2_cell, Cond.selects RX2 yX2_cell yX2_cell, Cond.code yX2_cell cX2_cell 7 (some .int)] : List Cond), w ∈ lw_tbl := own_at [561, 562, 564, 565, 540, 542, 22, 543, 226, 227, 228, 229] (by decide +kernel)
theorem wsL_law0_r4_in : ∀ w ∈ wsL_law0_r4, w ∈ lw_tbl := (List.forall_mem_append.mpr ⟨wsL_law0_r4_p0_in, wsL_law0_r4_p1_in⟩)
theorem wsL_law0_r5_p0_in : ∀ w ∈ ([Cond.fieldLink RX2 76 "SwingCircuits$Circuit" "cells" "I", Cond.fieldLink RX2 79 "SwingCircuits$Circuit" "low" "[I", Cond.fieldLink RX2 82 "SwingCircuits$Circuit" "high" "[I", Cond.fieldLink RX2 85 "SwingCircuits$Circuit" "rise" "[I", Cond.fieldLink RX2 88 "SwingCircuits$Circuit" "fall" "[I", Cond.methodLink RX2 72 yX2_isRate, Cond.static yX2_isRate, Cond.code yX2_isRate cX2_isRate 1 (some .boolean), Cond.methodLink RX2 91 yX2_startAgain, Cond.instanceMethod yX2_startAgain, Cond.selects RX2 yX2_startAgain yX2_startAgain, Cond.code yX2_startAgain cX2_startAgain 2 none] : List Cond), w ∈ lw_tbl := own_at [66, 70, 72, 75, 78, 230, 231, 232, 233, 235, 0, 236] (by decide +kernel)
theorem wsL_law0_r5_p1_in : ∀ w ∈ ([Cond.methodLink RX2 223 yX1_restart, Cond.instanceMethod yX1_restart, Cond.selects RX1 yX1_restart yX1_restart, Cond.code yX1_restart cX1_restart 3 none, Cond.fieldLink RX1 46 "SwingCircuits$Circuit" "low" "[I", Cond.methodLink RL 23 yX3_cell, Cond.instanceMethod yX3_cell, Cond.selects RX3 yX3_cell yX3_cell, Cond.code yX3_cell cX3_cell 5 (some .int), Cond.fieldLink RX3 69 "SwingCircuitsModel" "thrown" "I", Cond.fieldLink RX3 73 "SwingCircuitsModel" "cells" "I", Cond.methodLink RX3 76 yX3_in] : List Cond), w ∈ lw_tbl := own_at [237, 238, 239, 240, 69, 633, 634, 635, 636, 567, 548, 637] (by decide +kernel)
theorem wsL_law0_r5_in : ∀ w ∈ wsL_law0_r5, w ∈ lw_tbl := (List.forall_mem_append.mpr ⟨wsL_law0_r5_p0_in, wsL_law0_r5_p1_in⟩)
theorem wsL_law0_r6_p0_in : ∀ w ∈ ([Cond.static yX3_in, Cond.code yX3_in cX3_in 3 (some .boolean), Cond.methodLink RL 24 yX2_link, Cond.instanceMethod yX2_link, Cond.selects RX2 yX2_link yX2_link, Cond.code yX2_link cX2_link 8 (some .int), Cond.fieldLink RX2 101 "SwingCircuits$Circuit" "links" "I", Cond.fieldLink RX2 104 "SwingCircuits$Circuit" "from" "[I", Cond.fieldLink RX2 107 "SwingCircuits$Circuit" "at" "[I", Cond.fieldLink RX2 110 "SwingCircuits$Circuit" "nth" "[I", Cond.fieldLink RX2 113 "SwingCircuits$Circuit" "to" "[I", Cond.fieldLink RX2 116 "SwingCircuits$Circuit" "act" "[I"] : List Cond), w ∈ lw_tbl := own_at [638, 639, 241, 242, 243, 244, 81, 84, 87, 90, 93, 96] (by decide +kernel)
theorem wsL_law0_r6_p1_in : ∀ w ∈ ([Cond.fieldLink RX2 119 "SwingCircuits$Circuit" "by" "[I", Cond.methodLink RX2 94 yX2_isCell, Cond.instanceMethod yX2_isCell, Cond.selects RX2 yX2_isCell yX2_isCell, Cond.code yX2_isCell cX2_isCell 2 (some .boolean), Cond.methodLink RX2 97 yX2_isAct, Cond.static yX2_isAct, Cond.code yX2_isAct cX2_isAct 2 (some .boolean), Cond.methodLink RL 28 yX3_link, Cond.instanceMethod yX3_link, Cond.selects RX3 yX3_link yX3_link, Cond.code yX3_link cX3_link 9 (some .int)] : List Cond), w ∈ lw_tbl := own_at [99, 245, 247, 1, 248, 249, 250, 251, 640, 641, 642, 643] (by decide +kernel)
theorem wsL_law0_r6_in : ∀ w ∈ wsL_law0_r6, w ∈ lw_tbl := (List.forall_mem_append.mpr ⟨wsL_law0_r6_p0_in, wsL_law0_r6_p1_in⟩)
theorem wsL_law0_r7_p0_in : ∀ w ∈ ([Cond.fieldLink RX3 101 "SwingCircuitsModel" "linkMany" "I", Cond.methodLink RX3 97 yX3_isCell, Cond.instanceMethod yX3_isCell, Cond.selects RX3 yX3_isCell yX3_isCell, Cond.code yX3_isCell cX3_isCell 2 (some .boolean), Cond.methodLink RL 29 yX2_clear, Cond.instanceMethod yX2_clear, Cond.selects RX2 yX2_clear yX2_clear, Cond.code yX2_clear cX2_clear 2 (some .int), Cond.methodLink RL 33 yX3_clear, Cond.instanceMethod yX3_clear, Cond.selects RX3 yX3_clear yX3_clear] : List Cond), w ∈ lw_tbl := own_at [550, 644, 646, 23, 647, 252, 253, 254, 255, 648, 649, 650] (by decide +kernel)
theorem wsL_law0_r7_p1_in : ∀ w ∈ ([Cond.code yX3_clear cX3_clear 2 (some .int), Cond.methodLink RL 34 yX2_reset, Cond.instanceMethod yX2_reset, Cond.selects RX2 yX2_reset yX2_reset, Cond.code yX2_reset cX2_reset 2 (some .int), Cond.methodLink RL 37 yX3_reset, Cond.instanceMethod yX3_reset, Cond.selects RX3 yX3_reset yX3_reset, Cond.code yX3_reset cX3_reset 2 (some .int), Cond.methodLink RL 38 yX2_set, Cond.instanceMethod yX2_set, Cond.selects RX2 yX2_set yX2_set] : List Cond), w ∈ lw_tbl := own_at [651, 256, 257, 258, 259, 652, 653, 654, 655, 260, 261, 262] (by decide +kernel)
theorem wsL_law0_r7_in : ∀ w ∈ wsL_law0_r7, w ∈ lw_tbl := (List.forall_mem_append.mpr ⟨wsL_law0_r7_p0_in, wsL_law0_r7_p1_in⟩)
theorem wsL_law0_r8_p0_in : ∀ w ∈ ([Cond.code yX2_set cX2_set 6 (some .int), Cond.methodLink RX2 122 yX0_ratesOf, Cond.instanceMethod yX0_ratesOf, Cond.selects RX0 yX0_ratesOf yX0_ratesOf, Cond.code yX0_ratesOf cX0_ratesOf 2 (some (.array .int)), Cond.methodLink RL 42 yX3_set, Cond.instanceMethod yX3_set, Cond.selects RX3 yX3_set yX3_set, Cond.code yX3_set cX3_set 5 (some .int), Cond.methodLink RL 43 yX2_run, Cond.instanceMethod yX2_run, Cond.selects RX2 yX2_run yX2_run] : List Cond), w ∈ lw_tbl := own_at [263, 264, 265, 266, 267, 656, 657, 658, 659, 268, 269, 270] (by decide +kernel)
theorem wsL_law0_r8_p1_in : ∀ w ∈ ([Cond.code yX2_run cX2_run 4 (some .int), Cond.methodLink RX2 126 yX1_copyFrom, Cond.instanceMethod yX1_copyFrom, Cond.selects RX1 yX1_copyFrom yX1_copyFrom, Cond.code yX1_copyFrom cX1_copyFrom 3 none, Cond.methodLink RX2 130 yX1_advance, Cond.instanceMethod yX1_advance, Cond.selects RX1 yX1_advance yX1_advance, Cond.code yX1_advance cX1_advance 2 (some .boolean), Cond.fieldLink RX1 51 "SwingCircuits$Circuit" "cells" "I", Cond.methodLink RX1 54 yX1_chooseTurning, Cond.instanceMethod yX1_chooseTurning] : List Cond), w ∈ lw_tbl := own_at [271, 272, 273, 274, 275, 276, 277, 278, 279, 67, 280, 282] (by decide +kernel)
theorem wsL_law0_r8_in : ∀ w ∈ wsL_law0_r8, w ∈ lw_tbl := (List.forall_mem_append.mpr ⟨wsL_law0_r8_p0_in, wsL_law0_r8_p1_in⟩)
theorem wsL_law0_r9_p0_in : ∀ w ∈ ([Cond.selects RX1 yX1_chooseTurning yX1_chooseTurning, Cond.code yX1_chooseTurning cX1_chooseTurning 7 none, Cond.fieldLink RX1 68 "SwingCircuits$Circuit" "high" "[I", Cond.fieldLink RX1 71 "SwingCircuits$Circuit" "rise" "[I", Cond.fieldLink RX1 74 "SwingCircuits$Circuit" "fall" "[I", Cond.methodLink RX1 58 yX1_letTimePass, Cond.instanceMethod yX1_letTimePass, Cond.selects RX1 yX1_letTimePass yX1_letTimePass, Cond.code yX1_letTimePass cX1_letTimePass 11 none, Cond.static yX2_commonOf, Cond.code yX2_commonOf cX2_commonOf 11 (some .long), Cond.methodLink RX1 61 yX1_passOn] : List Cond), w ∈ lw_tbl := own_at [2, 283, 73, 76, 79, 284, 286, 3, 287, 289, 290, 291] (by decide +kernel)
theorem wsL_law0_r9_p1_in : ∀ w ∈ ([Cond.instanceMethod yX1_passOn, Cond.selects RX1 yX1_passOn yX1_passOn, Cond.code yX1_passOn cX1_passOn 3 none, Cond.fieldLink RX1 81 "SwingCircuits$Circuit" "links" "I", Cond.fieldLink RX1 84 "SwingCircuits$Circuit" "from" "[I", Cond.fieldLink RX1 87 "SwingCircuits$Circuit" "at" "[I", Cond.fieldLink RX1 90 "SwingCircuits$Circuit" "nth" "[I", Cond.methodLink RX1 93 yX1_doAct, Cond.instanceMethod yX1_doAct, Cond.selects RX1 yX1_doAct yX1_doAct, Cond.code yX1_doAct cX1_doAct 4 none, Cond.fieldLink RX1 97 "SwingCircuits$Circuit" "to" "[I"] : List Cond), w ∈ lw_tbl := own_at [293, 4, 294, 82, 85, 88, 91, 295, 297, 5, 298, 94] (by decide +kernel)
theorem wsL_law0_r9_in : ∀ w ∈ wsL_law0_r9, w ∈ lw_tbl := (List.forall_mem_append.mpr ⟨wsL_law0_r9_p0_in, wsL_law0_r9_p1_in⟩)
theorem wsL_law0_r10_p0_in : ∀ w ∈ ([Cond.fieldLink RX1 100 "SwingCircuits$Circuit" "act" "[I", Cond.fieldLink RX1 103 "SwingCircuits$Circuit" "by" "[I", Cond.methodLink RX1 106 yX1_keepBetweenBars, Cond.instanceMethod yX1_keepBetweenBars, Cond.selects RX1 yX1_keepBetweenBars yX1_keepBetweenBars, Cond.code yX1_keepBetweenBars cX1_keepBetweenBars 3 none, Cond.methodLink RX1 64 yX1_isSpent, Cond.instanceMethod yX1_isSpent, Cond.selects RX1 yX1_isSpent yX1_isSpent, Cond.code yX1_isSpent cX1_isSpent 3 (some .boolean), Cond.methodLink RX1 109 yX1_isTooLong, Cond.static yX1_isTooLong] : List Cond), w ∈ lw_tbl := own_at [97, 100, 299, 301, 6, 302, 303, 305, 7, 306, 307, 308] (by decide +kernel)
theorem wsL_law0_r10_p1_in : ∀ w ∈ ([Cond.code yX1_isTooLong cX1_isTooLong 4 (some .boolean), Cond.constantLong RX1 113 (1000000), Cond.constantLong RX1 115 (-1000000), Cond.methodLink RX2 134 yX2_noteEvent, Cond.instanceMethod yX2_noteEvent, Cond.selects RX2 yX2_noteEvent yX2_noteEvent, Cond.code yX2_noteEvent cX2_noteEvent 1 none, Cond.fieldLink RX2 231 "SwingCircuits$Swing" "side" "I", Cond.fieldLink RX2 234 "SwingCircuits$Swing" "turned" "I", Cond.methodLink RX2 227 yX1_packedEvent, Cond.instanceMethod yX1_packedEvent, Cond.selects RX1 yX1_packedEvent yX1_packedEvent] : List Cond), w ∈ lw_tbl := own_at [309, 310, 311, 312, 314, 8, 315, 148, 146, 316, 317, 318] (by decide +kernel)
theorem wsL_law0_r10_in : ∀ w ∈ wsL_law0_r10, w ∈ lw_tbl := (List.forall_mem_append.mpr ⟨wsL_law0_r10_p0_in, wsL_law0_r10_p1_in⟩)
theorem wsL_law0_r11_p0_in : ∀ w ∈ ([Cond.code yX1_packedEvent cX1_packedEvent 1 (some .long), Cond.static yX2_packed, Cond.code yX2_packed cX2_packed 4 (some .long), Cond.methodLink RL 47 yX3_run, Cond.instanceMethod yX3_run, Cond.selects RX3 yX3_run yX3_run, Cond.code yX3_run cX3_run 3 (some .int), Cond.methodLink RX3 143 yX3_step, Cond.instanceMethod yX3_step, Cond.selects RX3 yX3_step yX3_step, Cond.code yX3_step cX3_step 12 (some .boolean), Cond.fieldLink RX3 90 "SwingCircuitsModel" "num" "J"] : List Cond), w ∈ lw_tbl := own_at [319, 321, 322, 660, 661, 662, 663, 664, 666, 24, 667, 568] (by decide +kernel)
theorem wsL_law0_r11_p1_in : ∀ w ∈ ([Cond.fieldLink RX3 94 "SwingCircuitsModel" "den" "J", Cond.fieldLink RX3 125 "SwingCircuitsModel" "nextCell" "I", Cond.fieldLink RX3 128 "SwingCircuitsModel" "nextAt" "I", Cond.constantLong RX3 141 (500), Cond.methodLink RX3 117 yX3_copy, Cond.static yX3_copy, Cond.code yX3_copy cX3_copy 3 none, Cond.methodLink RX3 121 yX3_waitOf, Cond.instanceMethod yX3_waitOf, Cond.selects RX3 yX3_waitOf yX3_waitOf, Cond.code yX3_waitOf cX3_waitOf 6 none, Cond.methodLink RX3 104 yX3_isFilling] : List Cond), w ∈ lw_tbl := own_at [569, 570, 571, 705, 668, 669, 670, 671, 673, 25, 674, 675] (by decide +kernel)
theorem wsL_law0_r11_in : ∀ w ∈ wsL_law0_r11, w ∈ lw_tbl := (List.forall_mem_append.mpr ⟨wsL_law0_r11_p0_in, wsL_law0_r11_p1_in⟩)
theorem wsL_law0_r12_p0_in : ∀ w ∈ ([Cond.instanceMethod yX3_isFilling, Cond.selects RX3 yX3_isFilling yX3_isFilling, Cond.code yX3_isFilling cX3_isFilling 2 (some .boolean), Cond.methodLink RX3 107 yX3_make, Cond.instanceMethod yX3_make, Cond.selects RX3 yX3_make yX3_make, Cond.code yX3_make cX3_make 7 none, Cond.methodLink RX3 84 Lib.MathLoose.abs_long.x, Cond.static Lib.MathLoose.abs_long.x, Cond.initialized "java/lang/Math", Cond.code Lib.MathLoose.abs_long.x Lib.MathLoose.abs_long.code 2 (some .long), Cond.methodLink RX3 80 yX3_common] : List Cond), w ∈ lw_tbl := own_at [677, 26, 678, 679, 681, 27, 682, 683, 684, 46, 685, 686] (by decide +kernel)
theorem wsL_law0_r12_p1_in : ∀ w ∈ ([Cond.static yX3_common, Cond.code yX3_common cX3_common 4 (some .long), Cond.methodLink RX3 131 yX3_store, Cond.instanceMethod yX3_store, Cond.selects RX3 yX3_store yX3_store, Cond.code yX3_store cX3_store 2 none, Cond.methodLink RX3 134 yX3_act, Cond.instanceMethod yX3_act, Cond.selects RX3 yX3_act yX3_act, Cond.code yX3_act cX3_act 8 none, Cond.methodLink RX3 137 yX3_isSpent, Cond.instanceMethod yX3_isSpent] : List Cond), w ∈ lw_tbl := own_at [687, 688, 689, 691, 28, 692, 693, 695, 29, 696, 697, 699] (by decide +kernel)
theorem wsL_law0_r12_in : ∀ w ∈ wsL_law0_r12, w ∈ lw_tbl := (List.forall_mem_append.mpr ⟨wsL_law0_r12_p0_in, wsL_law0_r12_p1_in⟩)
theorem wsL_law0_r13_p0_in : ∀ w ∈ ([Cond.selects RX3 yX3_isSpent yX3_isSpent, Cond.code yX3_isSpent cX3_isSpent 2 (some .boolean), Cond.methodLink RX3 113 yX3_isOver, Cond.static yX3_isOver, Cond.code yX3_isOver cX3_isOver 4 (some .boolean), Cond.constantLong RX3 111 (1000000), Cond.methodLink RL 48 yX2_count, Cond.instanceMethod yX2_count, Cond.selects RX2 yX2_count yX2_count, Cond.code yX2_count cX2_count 2 (some .int), Cond.fieldLink RX2 137 "SwingCircuits$Swing" "timeNum" "J", Cond.fieldLink RX2 141 "SwingCircuits$Swing" "timeDen" "J"] : List Cond), w ∈ lw_tbl := own_at [30, 700, 701, 702, 703, 704, 323, 324, 325, 326, 134, 136] (by decide +kernel)
theorem wsL_law0_r13_p1_in : ∀ w ∈ ([Cond.methodLink RX2 144 yX2_isNextSpent, Cond.instanceMethod yX2_isNextSpent, Cond.selects RX2 yX2_isNextSpent yX2_isNextSpent, Cond.code yX2_isNextSpent cX2_isNextSpent 1 (some .boolean), Cond.methodLink RL 51 yX3_count, Cond.instanceMethod yX3_count, Cond.selects RX3 yX3_count yX3_count, Cond.code yX3_count cX3_count 2 (some .int), Cond.fieldLink RX3 149 "SwingCircuitsModel" "drawn" "I", Cond.fieldLink RX3 152 "SwingCircuitsModel" "measured" "I", Cond.methodLink RX3 146 yX3_wouldBeSpent, Cond.instanceMethod yX3_wouldBeSpent] : List Cond), w ∈ lw_tbl := own_at [327, 329, 9, 330, 706, 707, 708, 709, 563, 566, 710, 712] (by decide +kernel)
theorem wsL_law0_r13_in : ∀ w ∈ wsL_law0_r13, w ∈ lw_tbl := (List.forall_mem_append.mpr ⟨wsL_law0_r13_p0_in, wsL_law0_r13_p1_in⟩)
theorem wsL_law0_r14_p0_in : ∀ w ∈ ([Cond.selects RX3 yX3_wouldBeSpent yX3_wouldBeSpent, Cond.code yX3_wouldBeSpent cX3_wouldBeSpent 2 (some .boolean), Cond.methodLink RL 52 yL_of, Cond.static yL_of, Cond.initialized RL, Cond.codeWith yL_of cL_of 5 (some .int) [(0, 10, 13, 13)], Cond.classLink RL 13 "java/util/NoSuchElementException", Cond.methodLink RL 7 yX2_of, Cond.instanceMethod yX2_of, Cond.selects RX2 yX2_of yX2_of, Cond.code yX2_of cX2_of 3 (some .int), Cond.classLink RX2 148 "java/util/NoSuchElementException"] : List Cond), w ∈ lw_tbl := own_at [31, 713, 455, 456, 41, 457, 458, 459, 460, 461, 462, 463] (by decide +kernel)
theorem wsL_law0_r14_p1_in : ∀ w ∈ ([Cond.initialized "java/util/NoSuchElementException", Cond.fieldLink RX2 155 "SwingCircuits$Swing" "num" "[J", Cond.fieldLink RX2 158 "SwingCircuits$Swing" "den" "[J", Cond.fieldLink RX2 161 "SwingCircuits$Swing" "filling" "[Z", Cond.methodLink RX2 165 yX2_beatTerm, Cond.instanceMethod yX2_beatTerm, Cond.selects RX2 yX2_beatTerm yX2_beatTerm, Cond.code yX2_beatTerm cX2_beatTerm 7 (some .int), Cond.methodLink RX2 260 yX0_span, Cond.instanceMethod yX0_span, Cond.selects RX0 yX0_span yX0_span, Cond.code yX0_span cX0_span 2 (some .int)] : List Cond), w ∈ lw_tbl := own_at [50, 138, 140, 142, 529, 531, 21, 532, 414, 415, 416, 417] (by decide +kernel)
theorem wsL_law0_r14_in : ∀ w ∈ wsL_law0_r14, w ∈ lw_tbl := (List.forall_mem_append.mpr ⟨wsL_law0_r14_p0_in, wsL_law0_r14_p1_in⟩)
theorem wsL_law0_r15_p0_in : ∀ w ∈ ([Cond.methodLink RX2 257 yX2_commonOf, Cond.methodLink RL 57 yX3_of, Cond.instanceMethod yX3_of, Cond.selects RX3 yX3_of yX3_of, Cond.code yX3_of cX3_of 3 (some .int), Cond.methodLink RX3 155 yX3_beat, Cond.instanceMethod yX3_beat, Cond.selects RX3 yX3_beat yX3_beat, Cond.code yX3_beat cX3_beat 4 none, Cond.methodLink RL 58 yX3_thrown, Cond.instanceMethod yX3_thrown, Cond.selects RX3 yX3_thrown yX3_thrown] : List Cond), w ∈ lw_tbl := own_at [388, 714, 715, 716, 717, 718, 720, 32, 721, 629, 630, 631] (by decide +kernel)
theorem wsL_law0_r15_p1_in : ∀ w ∈ ([Cond.code yX3_thrown cX3_thrown 1 (some .int), Cond.methodLink RL 61 yX2_counted, Cond.instanceMethod yX2_counted, Cond.selects RX2 yX2_counted yX2_counted, Cond.code yX2_counted cX2_counted 2 (some .int), Cond.fieldLink RX2 171 "SwingCircuits$Swing" "counts" "[I", Cond.methodLink RL 64 yX3_counted, Cond.instanceMethod yX3_counted, Cond.selects RX3 yX3_counted yX3_counted, Cond.code yX3_counted cX3_counted 2 (some .int), Cond.methodLink RL 65 yX2_event, Cond.instanceMethod yX2_event] : List Cond), w ∈ lw_tbl := own_at [632, 331, 332, 333, 334, 144, 722, 723, 724, 725, 335, 336] (by decide +kernel)
theorem wsL_law0_r15_in : ∀ w ∈ wsL_law0_r15, w ∈ lw_tbl := (List.forall_mem_append.mpr ⟨wsL_law0_r15_p0_in, wsL_law0_r15_p1_in⟩)
theorem wsL_law0_r16_p0_in : ∀ w ∈ ([Cond.selects RX2 yX2_event yX2_event, Cond.code yX2_event cX2_event 3 (some .int), Cond.methodLink RX2 174 yX2_turnedIn, Cond.static yX2_turnedIn, Cond.code yX2_turnedIn cX2_turnedIn 2 (some .int), Cond.methodLink RX2 178 yX2_sideIn, Cond.static yX2_sideIn, Cond.code yX2_sideIn cX2_sideIn 2 (some .int), Cond.methodLink RX2 181 yX2_timeNumIn, Cond.static yX2_timeNumIn, Cond.code yX2_timeNumIn cX2_timeNumIn 2 (some .long), Cond.methodLink RX2 185 yX2_timeDenIn] : List Cond), w ∈ lw_tbl := own_at [337, 338, 339, 340, 341, 342, 343, 344, 345, 346, 347, 348] (by decide +kernel)
theorem wsL_law0_r16_p1_in : ∀ w ∈ ([Cond.static yX2_timeDenIn, Cond.code yX2_timeDenIn cX2_timeDenIn 2 (some .long), Cond.constantLong RX2 267 (1048575), Cond.methodLink RL 68 yX3_event, Cond.instanceMethod yX3_event, Cond.selects RX3 yX3_event yX3_event, Cond.code yX3_event cX3_event 3 (some .int), Cond.methodLink RL 69 yX2_ring, Cond.instanceMethod yX2_ring, Cond.selects RX2 yX2_ring yX2_ring, Cond.code yX2_ring cX2_ring 4 (some .int), Cond.methodLink RX2 188 yX2_writeTrail] : List Cond), w ∈ lw_tbl := own_at [349, 350, 351, 726, 727, 728, 729, 352, 353, 354, 355, 356] (by decide +kernel)
theorem wsL_law0_r16_in : ∀ w ∈ wsL_law0_r16, w ∈ lw_tbl := (List.forall_mem_append.mpr ⟨wsL_law0_r16_p0_in, wsL_law0_r16_p1_in⟩)
theorem wsL_law0_r17_p0_in : ∀ w ∈ ([Cond.instanceMethod yX2_writeTrail, Cond.selects RX2 yX2_writeTrail yX2_writeTrail, Cond.code yX2_writeTrail cX2_writeTrail 4 none, Cond.methodLink RX2 237 yX2_packed, Cond.methodLink RX2 241 yX1_packedMarks, Cond.instanceMethod yX1_packedMarks, Cond.selects RX1 yX1_packedMarks yX1_packedMarks, Cond.code yX1_packedMarks cX1_packedMarks 4 (some .long), Cond.constantLong RX1 120 (2), Cond.methodLink RX2 192 yX2_sameAhead, Cond.instanceMethod yX2_sameAhead, Cond.selects RX2 yX2_sameAhead yX2_sameAhead] : List Cond), w ∈ lw_tbl := own_at [358, 10, 359, 360, 361, 362, 363, 364, 365, 366, 368, 11] (by decide +kernel)
theorem wsL_law0_r17_p1_in : ∀ w ∈ ([Cond.code yX2_sameAhead cX2_sameAhead 3 (some .int), Cond.methodLink RX2 244 yX2_isSameState, Cond.instanceMethod yX2_isSameState, Cond.selects RX2 yX2_isSameState yX2_isSameState, Cond.code yX2_isSameState cX2_isSameState 4 (some .boolean), Cond.methodLink RX2 196 yX2_keepRing, Cond.instanceMethod yX2_keepRing, Cond.selects RX2 yX2_keepRing yX2_keepRing, Cond.code yX2_keepRing cX2_keepRing 10 none, Cond.methodLink RX2 247 yX2_eventInRow, Cond.instanceMethod yX2_eventInRow, Cond.selects RX2 yX2_eventInRow yX2_eventInRow] : List Cond), w ∈ lw_tbl := own_at [369, 370, 372, 12, 373, 374, 376, 13, 377, 378, 380, 14] (by decide +kernel)
theorem wsL_law0_r17_in : ∀ w ∈ wsL_law0_r17, w ∈ lw_tbl := (List.forall_mem_append.mpr ⟨wsL_law0_r17_p0_in, wsL_law0_r17_p1_in⟩)
theorem wsL_law0_r18_p0_in : ∀ w ∈ ([Cond.code yX2_eventInRow cX2_eventInRow 2 (some .long), Cond.methodLink RX2 251 yX2_betweenNum, Cond.static yX2_betweenNum, Cond.code yX2_betweenNum cX2_betweenNum 4 (some .long), Cond.methodLink RX2 254 yX2_betweenDen, Cond.static yX2_betweenDen, Cond.code yX2_betweenDen cX2_betweenDen 4 (some .long), Cond.methodLink RL 72 yX3_ring, Cond.instanceMethod yX3_ring, Cond.selects RX3 yX3_ring yX3_ring, Cond.code yX3_ring cX3_ring 3 (some .int), Cond.methodLink RX3 173 yX3_seek] : List Cond), w ∈ lw_tbl := own_at [381, 382, 383, 384, 385, 386, 387, 730, 731, 732, 733, 734] (by decide +kernel)
theorem wsL_law0_r18_p1_in : ∀ w ∈ ([Cond.instanceMethod yX3_seek, Cond.selects RX3 yX3_seek yX3_seek, Cond.code yX3_seek cX3_seek 4 (some .int), Cond.methodLink RX3 159 yX3_keep, Cond.instanceMethod yX3_keep, Cond.selects RX3 yX3_keep yX3_keep, Cond.code yX3_keep cX3_keep 3 none, Cond.methodLink RX3 162 yX3_areAlike, Cond.instanceMethod yX3_areAlike, Cond.selects RX3 yX3_areAlike yX3_areAlike, Cond.code yX3_areAlike cX3_areAlike 4 (some .boolean), Cond.methodLink RX3 166 yX3_tell] : List Cond), w ∈ lw_tbl := own_at [736, 33, 737, 738, 740, 34, 741, 742, 744, 35, 745, 746] (by decide +kernel)
theorem wsL_law0_r18_in : ∀ w ∈ wsL_law0_r18, w ∈ lw_tbl := (List.forall_mem_append.mpr ⟨wsL_law0_r18_p0_in, wsL_law0_r18_p1_in⟩)
theorem wsL_law0_r19_p0_in : ∀ w ∈ ([Cond.instanceMethod yX3_tell, Cond.selects RX3 yX3_tell yX3_tell, Cond.code yX3_tell cX3_tell 6 none, Cond.fieldLink RX3 170 "SwingCircuitsModel" "wasRing" "Z", Cond.methodLink RL 73 yX2_ringed, Cond.instanceMethod yX2_ringed, Cond.selects RX2 yX2_ringed yX2_ringed, Cond.code yX2_ringed cX2_ringed 2 (some .long), Cond.constantLong RX2 200 (-1), Cond.methodLink RL 77 yX3_ringed, Cond.instanceMethod yX3_ringed, Cond.selects RX3 yX3_ringed yX3_ringed] : List Cond), w ∈ lw_tbl := own_at [748, 36, 749, 560, 389, 390, 391, 392, 393, 750, 751, 752] (by decide +kernel)
theorem wsL_law0_r19_p1_in : ∀ w ∈ ([Cond.code yX3_ringed cX3_ringed 2 (some .long), Cond.constantLong RX3 177 (-1), Cond.methodLink RL 78 yX2_drawer, Cond.instanceMethod yX2_drawer, Cond.selects RX2 yX2_drawer yX2_drawer, Cond.code yX2_drawer cX2_drawer 2 (some .int), Cond.methodLink RX2 202 yX2_isStocked, Cond.instanceMethod yX2_isStocked, Cond.selects RX2 yX2_isStocked yX2_isStocked, Cond.code yX2_isStocked cX2_isStocked 3 (some .boolean), Cond.methodLink RL 81 yX3_drawer, Cond.instanceMethod yX3_drawer] : List Cond), w ∈ lw_tbl := own_at [753, 754, 394, 395, 396, 397, 398, 400, 15, 401, 755, 756] (by decide +kernel)
theorem wsL_law0_r19_in : ∀ w ∈ wsL_law0_r19, w ∈ lw_tbl := (List.forall_mem_append.mpr ⟨wsL_law0_r19_p0_in, wsL_law0_r19_p1_in⟩)
theorem wsL_law0_r20_p0_in : ∀ w ∈ ([Cond.selects RX3 yX3_drawer yX3_drawer, Cond.code yX3_drawer cX3_drawer 3 (some .int), Cond.methodLink RL 82 yX2_parts, Cond.instanceMethod yX2_parts, Cond.selects RX2 yX2_parts yX2_parts, Cond.code yX2_parts cX2_parts 4 (some .int), Cond.methodLink RX2 205 yX2_isTerm, Cond.static yX2_isTerm, Cond.code yX2_isTerm cX2_isTerm 1 (some .boolean), Cond.constant RX2 222 (1000000), Cond.methodLink RX2 208 yX2_findWays, Cond.instanceMethod yX2_findWays] : List Cond), w ∈ lw_tbl := own_at [757, 758, 402, 403, 404, 405, 406, 407, 408, 409, 410, 412] (by decide +kernel)
theorem wsL_law0_r20_p1_in : ∀ w ∈ ([Cond.selects RX2 yX2_findWays yX2_findWays, Cond.code yX2_findWays cX2_findWays 11 (some .int), Cond.methodLink RL 85 yX3_parts, Cond.instanceMethod yX3_parts, Cond.selects RX3 yX3_parts yX3_parts, Cond.code yX3_parts cX3_parts 4 (some .int), Cond.methodLink RX3 180 yX3_isFraction, Cond.static yX3_isFraction, Cond.code yX3_isFraction cX3_isFraction 2 (some .boolean), Cond.constant RX3 179 (1000000), Cond.methodLink RX3 183 yX3_ways, Cond.instanceMethod yX3_ways] : List Cond), w ∈ lw_tbl := own_at [16, 413, 759, 760, 761, 762, 763, 764, 765, 766, 767, 769] (by decide +kernel)
theorem wsL_law0_r20_in : ∀ w ∈ wsL_law0_r20, w ∈ lw_tbl := (List.forall_mem_append.mpr ⟨wsL_law0_r20_p0_in, wsL_law0_r20_p1_in⟩)
theorem wsL_law0_r21_p0_in : ∀ w ∈ ([Cond.selects RX3 yX3_ways yX3_ways, Cond.code yX3_ways cX3_ways 8 (some .int), Cond.methodLink RL 86 yX2_part, Cond.instanceMethod yX2_part, Cond.selects RX2 yX2_part yX2_part, Cond.code yX2_part cX2_part 6 (some .int), Cond.methodLink RX2 212 yX2_parts, Cond.methodLink RL 89 yX3_part, Cond.instanceMethod yX3_part, Cond.selects RX3 yX3_part yX3_part, Cond.code yX3_part cX3_part 5 (some .int), Cond.methodLink RL 90 yX2_measure] : List Cond), w ∈ lw_tbl := own_at [37, 770, 418, 419, 420, 421, 422, 771, 772, 773, 774, 423] (by decide +kernel)
theorem wsL_law0_r21_p1_in : ∀ w ∈ ([Cond.instanceMethod yX2_measure, Cond.selects RX2 yX2_measure yX2_measure, Cond.code yX2_measure cX2_measure 3 (some .int), Cond.methodLink RL 93 yX3_measure, Cond.instanceMethod yX3_measure, Cond.selects RX3 yX3_measure yX3_measure, Cond.code yX3_measure cX3_measure 3 (some .int), Cond.methodLink RL 94 yX2_forget, Cond.instanceMethod yX2_forget, Cond.selects RX2 yX2_forget yX2_forget, Cond.code yX2_forget cX2_forget 2 (some .int), Cond.methodLink RL 97 yX3_forget] : List Cond), w ∈ lw_tbl := own_at [424, 425, 426, 775, 776, 777, 778, 427, 428, 429, 430, 779] (by decide +kernel)
theorem wsL_law0_r21_in : ∀ w ∈ wsL_law0_r21, w ∈ lw_tbl := (List.forall_mem_append.mpr ⟨wsL_law0_r21_p0_in, wsL_law0_r21_p1_in⟩)
theorem wsL_law0_r22_p0_in : ∀ w ∈ ([Cond.instanceMethod yX3_forget, Cond.selects RX3 yX3_forget yX3_forget, Cond.code yX3_forget cX3_forget 2 (some .int), Cond.methodLink RL 98 yX2_faults, Cond.instanceMethod yX2_faults, Cond.selects RX2 yX2_faults yX2_faults, Cond.code yX2_faults cX2_faults 2 (some .int), Cond.methodLink RX2 216 yX2_findFaults, Cond.instanceMethod yX2_findFaults, Cond.selects RX2 yX2_findFaults yX2_findFaults, Cond.code yX2_findFaults cX2_findFaults 8 (some .int), Cond.methodLink RX2 219 yX2_isMeasuredSo] : List Cond), w ∈ lw_tbl := own_at [780, 781, 782, 431, 432, 433, 434, 435, 437, 17, 438, 439] (by decide +kernel)
theorem wsL_law0_r22_p1_in : ∀ w ∈ ([Cond.instanceMethod yX2_isMeasuredSo, Cond.selects RX2 yX2_isMeasuredSo yX2_isMeasuredSo, Cond.code yX2_isMeasuredSo cX2_isMeasuredSo 8 (some .boolean), Cond.methodLink RX2 263 yX2_isMeasure, Cond.instanceMethod yX2_isMeasure, Cond.selects RX2 yX2_isMeasure yX2_isMeasure, Cond.code yX2_isMeasure cX2_isMeasure 6 (some .boolean), Cond.methodLink RL 101 yX3_faults, Cond.instanceMethod yX3_faults, Cond.selects RX3 yX3_faults yX3_faults, Cond.code yX3_faults cX3_faults 2 (some .int), Cond.methodLink RX3 194 yX3_explaining] : List Cond), w ∈ lw_tbl := own_at [441, 18, 442, 443, 445, 19, 446, 783, 784, 785, 786, 787] (by decide +kernel)
theorem wsL_law0_r22_in : ∀ w ∈ wsL_law0_r22, w ∈ lw_tbl := (List.forall_mem_append.mpr ⟨wsL_law0_r22_p0_in, wsL_law0_r22_p1_in⟩)
theorem wsL_law0_r23_p0_in : ∀ w ∈ ([Cond.instanceMethod yX3_explaining, Cond.selects RX3 yX3_explaining yX3_explaining, Cond.code yX3_explaining cX3_explaining 7 (some .int), Cond.methodLink RX3 190 yX3_explains, Cond.instanceMethod yX3_explains, Cond.selects RX3 yX3_explains yX3_explains, Cond.code yX3_explains cX3_explains 7 (some .boolean), Cond.methodLink RX3 187 yX3_isSo, Cond.instanceMethod yX3_isSo, Cond.selects RX3 yX3_isSo yX3_isSo, Cond.code yX3_isSo cX3_isSo 9 (some .boolean), Cond.methodLink RL 102 yX2_fault] : List Cond), w ∈ lw_tbl := own_at [789, 38, 790, 791, 793, 39, 794, 795, 797, 40, 798, 447] (by decide +kernel)
theorem wsL_law0_r23_p1_in : ∀ w ∈ ([Cond.instanceMethod yX2_fault, Cond.selects RX2 yX2_fault yX2_fault, Cond.code yX2_fault cX2_fault 4 (some .int), Cond.methodLink RL 105 yX3_fault, Cond.instanceMethod yX3_fault, Cond.selects RX3 yX3_fault yX3_fault, Cond.code yX3_fault cX3_fault 3 (some .int), Cond.methodLink RL 106 yX2_fits, Cond.instanceMethod yX2_fits, Cond.selects RX2 yX2_fits yX2_fits, Cond.code yX2_fits cX2_fits 2 (some .int), Cond.methodLink RL 109 yX3_fits] : List Cond), w ∈ lw_tbl := own_at [448, 449, 450, 799, 800, 801, 802, 451, 452, 453, 454, 803] (by decide +kernel)
theorem wsL_law0_r23_in : ∀ w ∈ wsL_law0_r23, w ∈ lw_tbl := (List.forall_mem_append.mpr ⟨wsL_law0_r23_p0_in, wsL_law0_r23_p1_in⟩)
theorem wsL_law0_r24_in : ∀ w ∈ wsL_law0_r24, w ∈ lw_tbl := own_at [804, 805, 806] (by decide +kernel)
theorem wsX00_in : ∀ w ∈ wsX00, w ∈ lw_tbl := own_at [101, 103, 105, 107, 109, 111, 113, 115, 117, 119, 121, 123] (by decide +kernel)
theorem wsX10_in : ∀ w ∈ wsX10, w ∈ lw_tbl := own_at [151, 153, 155, 157, 159, 161, 163, 165, 167, 169] (by decide +kernel)
theorem wsX20_in : ∀ w ∈ wsX20, w ∈ lw_tbl := own_at [191, 193, 195, 197, 199, 201, 203, 205, 207, 209, 211, 213, 215, 217, 219, 221, 223] (by decide +kernel)
theorem wsX30_in : ∀ w ∈ wsX30, w ∈ lw_tbl := own_at [572, 574, 576, 578, 580, 582, 584, 586, 588, 590, 592, 594, 596, 598, 600, 602, 604, 606, 608, 610, 612, 614, 616, 618, 620, 622, 624, 626] (by decide +kernel)
theorem wsL_law_in0 : ∀ w ∈ wsL_law0, w ∈ lw_tbl := (List.forall_mem_append.mpr ⟨(List.forall_mem_append.mpr ⟨(List.forall_mem_append.mpr ⟨(List.forall_mem_append.mpr ⟨(List.forall_mem_append.mpr ⟨(List.forall_mem_append.mpr ⟨wsL_law0_r1_in, (List.forall_mem_append.mpr ⟨wsL_law0_r2_in, (List.forall_mem_append.mpr ⟨wsL_law0_r3_in, (List.forall_mem_append.mpr ⟨wsL_law0_r4_in, (List.forall_mem_append.mpr ⟨wsL_law0_r5_in, (List.forall_mem_append.mpr ⟨wsL_law0_r6_in, (List.forall_mem_append.mpr ⟨wsL_law0_r7_in, (List.forall_mem_append.mpr ⟨wsL_law0_r8_in, (List.forall_mem_append.mpr ⟨wsL_law0_r9_in, (List.forall_mem_append.mpr ⟨wsL_law0_r10_in, (List.forall_mem_append.mpr ⟨wsL_law0_r11_in, (List.forall_mem_append.mpr ⟨wsL_law0_r12_in, (List.forall_mem_append.mpr ⟨wsL_law0_r13_in, (List.forall_mem_append.mpr ⟨wsL_law0_r14_in, (List.forall_mem_append.mpr ⟨wsL_law0_r15_in, (List.forall_mem_append.mpr ⟨wsL_law0_r16_in, (List.forall_mem_append.mpr ⟨wsL_law0_r17_in, (List.forall_mem_append.mpr ⟨wsL_law0_r18_in, (List.forall_mem_append.mpr ⟨wsL_law0_r19_in, (List.forall_mem_append.mpr ⟨wsL_law0_r20_in, (List.forall_mem_append.mpr ⟨wsL_law0_r21_in, (List.forall_mem_append.mpr ⟨wsL_law0_r22_in, (List.forall_mem_append.mpr ⟨wsL_law0_r23_in, wsL_law0_r24_in⟩)⟩)⟩)⟩)⟩)⟩)⟩)⟩)⟩)⟩)⟩)⟩)⟩)⟩)⟩)⟩)⟩)⟩)⟩)⟩)⟩)⟩)⟩), wsX20_in⟩), wsX30_in⟩), wsX00_in⟩), wsX10_in⟩), (fun _ h => absurd h List.not_mem_nil)⟩)
theorem own_t1 : ∀ w ∈ Bundle.throwableAtoms, w ∈ lw_tbl ∨ goodWord w = false := List.forall_mem_cons.mpr ⟨Or.inl (List.mem_of_getElem? (i := 47) (by decide +kernel)), List.forall_mem_cons.mpr ⟨Or.inl (List.mem_of_getElem? (i := 485) (by decide +kernel)), List.forall_mem_cons.mpr ⟨Or.inl (List.mem_of_getElem? (i := 494) (by decide +kernel)), List.forall_mem_cons.mpr ⟨Or.inl (List.mem_of_getElem? (i := 496) (by decide +kernel)), List.forall_mem_cons.mpr ⟨Or.inl (List.mem_of_getElem? (i := 499) (by decide +kernel)), List.forall_mem_cons.mpr ⟨Or.inl (List.mem_of_getElem? (i := 501) (by decide +kernel)), List.forall_mem_cons.mpr ⟨Or.inl (List.mem_of_getElem? (i := 486) (by decide +kernel)), List.forall_mem_cons.mpr ⟨Or.inl (List.mem_of_getElem? (i := 487) (by decide +kernel)), List.forall_mem_cons.mpr ⟨Or.inl (List.mem_of_getElem? (i := 57) (by decide +kernel)), List.forall_mem_cons.mpr ⟨Or.inl (List.mem_of_getElem? (i := 58) (by decide +kernel)), List.forall_mem_cons.mpr ⟨Or.inl (List.mem_of_getElem? (i := 488) (by decide +kernel)), List.forall_mem_cons.mpr ⟨Or.inl (List.mem_of_getElem? (i := 493) (by decide +kernel)), List.forall_mem_cons.mpr ⟨Or.inl (List.mem_of_getElem? (i := 497) (by decide +kernel)), List.forall_mem_cons.mpr ⟨Or.inl (List.mem_of_getElem? (i := 517) (by decide +kernel)), List.forall_mem_cons.mpr ⟨Or.inl (List.mem_of_getElem? (i := 475) (by decide +kernel)), List.forall_mem_cons.mpr ⟨Or.inl (List.mem_of_getElem? (i := 518) (by decide +kernel)), List.forall_mem_cons.mpr ⟨Or.inl (List.mem_of_getElem? (i := 477) (by decide +kernel)), List.forall_mem_cons.mpr ⟨Or.inl (List.mem_of_getElem? (i := 519) (by decide +kernel)), List.forall_mem_cons.mpr ⟨Or.inl (List.mem_of_getElem? (i := 479) (by decide +kernel)), List.forall_mem_cons.mpr ⟨Or.inl (List.mem_of_getElem? (i := 489) (by decide +kernel)), List.forall_mem_cons.mpr ⟨Or.inl (List.mem_of_getElem? (i := 490) (by decide +kernel)), List.forall_mem_cons.mpr ⟨Or.inl (List.mem_of_getElem? (i := 491) (by decide +kernel)), List.forall_mem_cons.mpr ⟨Or.inl (List.mem_of_getElem? (i := 492) (by decide +kernel)), List.forall_mem_cons.mpr ⟨Or.inl (List.mem_of_getElem? (i := 481) (by decide +kernel)), (fun _ h => absurd h List.not_mem_nil)⟩⟩⟩⟩⟩⟩⟩⟩⟩⟩⟩⟩⟩⟩⟩⟩⟩⟩⟩⟩⟩⟩⟩⟩
theorem own_t2 : ∀ w ∈ Bundle.throwableSAtoms, w ∈ lw_tbl ∨ goodWord w = false := List.forall_mem_cons.mpr ⟨Or.inl (List.mem_of_getElem? (i := 513) (by decide +kernel)), List.forall_mem_cons.mpr ⟨Or.inl (List.mem_of_getElem? (i := 514) (by decide +kernel)), List.forall_mem_cons.mpr ⟨Or.inl (List.mem_of_getElem? (i := 516) (by decide +kernel)), List.forall_mem_cons.mpr ⟨Or.inl (List.mem_of_getElem? (i := 481) (by decide +kernel)), (fun _ h => absurd h List.not_mem_nil)⟩⟩⟩⟩
theorem own_t30 : ∀ w ∈ Bundle.passSAtoms ne_NE ne_RE 13 ne_code, w ∈ lw_tbl ∨ goodWord w = false := List.forall_mem_cons.mpr ⟨Or.inl (List.mem_of_getElem? (i := 504) (by decide +kernel)), List.forall_mem_cons.mpr ⟨Or.inl (List.mem_of_getElem? (i := 505) (by decide +kernel)), List.forall_mem_cons.mpr ⟨Or.inl (List.mem_of_getElem? (i := 506) (by decide +kernel)), List.forall_mem_cons.mpr ⟨Or.inl (List.mem_of_getElem? (i := 507) (by decide +kernel)), List.forall_mem_cons.mpr ⟨Or.inl (List.mem_of_getElem? (i := 467) (by decide +kernel)), (fun _ h => absurd h List.not_mem_nil)⟩⟩⟩⟩⟩
theorem own_t31 : ∀ w ∈ Bundle.passSAtoms ne_RE ne_EX 7 Bundle.six, w ∈ lw_tbl ∨ goodWord w = false := List.forall_mem_cons.mpr ⟨Or.inl (List.mem_of_getElem? (i := 507) (by decide +kernel)), List.forall_mem_cons.mpr ⟨Or.inl (List.mem_of_getElem? (i := 508) (by decide +kernel)), List.forall_mem_cons.mpr ⟨Or.inl (List.mem_of_getElem? (i := 509) (by decide +kernel)), List.forall_mem_cons.mpr ⟨Or.inl (List.mem_of_getElem? (i := 510) (by decide +kernel)), List.forall_mem_cons.mpr ⟨Or.inl (List.mem_of_getElem? (i := 469) (by decide +kernel)), (fun _ h => absurd h List.not_mem_nil)⟩⟩⟩⟩⟩
theorem own_t32 : ∀ w ∈ Bundle.passSAtoms ne_EX Bundle.tN 7 Bundle.six, w ∈ lw_tbl ∨ goodWord w = false := List.forall_mem_cons.mpr ⟨Or.inl (List.mem_of_getElem? (i := 510) (by decide +kernel)), List.forall_mem_cons.mpr ⟨Or.inl (List.mem_of_getElem? (i := 511) (by decide +kernel)), List.forall_mem_cons.mpr ⟨Or.inl (List.mem_of_getElem? (i := 512) (by decide +kernel)), List.forall_mem_cons.mpr ⟨Or.inl (List.mem_of_getElem? (i := 513) (by decide +kernel)), List.forall_mem_cons.mpr ⟨Or.inl (List.mem_of_getElem? (i := 471) (by decide +kernel)), (fun _ h => absurd h List.not_mem_nil)⟩⟩⟩⟩⟩
theorem own_t4 : ∀ w ∈ ne_last, w ∈ lw_tbl ∨ goodWord w = false := List.forall_mem_cons.mpr ⟨Or.inl (List.mem_of_getElem? (i := 503) (by decide +kernel)), List.forall_mem_cons.mpr ⟨Or.inl (List.mem_of_getElem? (i := 464) (by decide +kernel)), List.forall_mem_cons.mpr ⟨Or.inl (List.mem_of_getElem? (i := 465) (by decide +kernel)), List.forall_mem_cons.mpr ⟨Or.inl (List.mem_of_getElem? (i := 472) (by decide +kernel)), List.forall_mem_cons.mpr ⟨Or.inl (List.mem_of_getElem? (i := 473) (by decide +kernel)), List.forall_mem_cons.mpr ⟨Or.inl (List.mem_of_getElem? (i := 474) (by decide +kernel)), List.forall_mem_cons.mpr ⟨Or.inl (List.mem_of_getElem? (i := 476) (by decide +kernel)), List.forall_mem_cons.mpr ⟨Or.inl (List.mem_of_getElem? (i := 478) (by decide +kernel)), List.forall_mem_cons.mpr ⟨Or.inl (List.mem_of_getElem? (i := 480) (by decide +kernel)), List.forall_mem_cons.mpr ⟨Or.inr (by decide +kernel), List.forall_mem_cons.mpr ⟨Or.inr (by decide +kernel), List.forall_mem_cons.mpr ⟨Or.inl (List.mem_of_getElem? (i := 484) (by decide +kernel)), List.forall_mem_cons.mpr ⟨Or.inl (List.mem_of_getElem? (i := 483) (by decide +kernel)), List.forall_mem_cons.mpr ⟨Or.inl (List.mem_of_getElem? (i := 482) (by decide +kernel)), (fun _ h => absurd h List.not_mem_nil)⟩⟩⟩⟩⟩⟩⟩⟩⟩⟩⟩⟩⟩⟩
theorem own_t : ∀ w ∈ ne_all, w ∈ lw_tbl ∨ goodWord w = false := List.forall_mem_append.mpr ⟨List.forall_mem_append.mpr ⟨List.forall_mem_append.mpr ⟨own_t1, own_t2⟩, List.forall_mem_append.mpr ⟨own_t30, List.forall_mem_append.mpr ⟨own_t31, own_t32⟩⟩⟩, own_t4⟩
theorem wsL_law_x0 : ∀ w ∈ wsNE, w ∈ lw_tbl := fun w h => by
  obtain ⟨h1, h2⟩ := List.mem_filter.mp h
  rcases own_t w (List.mem_filter.mp h1).1 with h3 | h3
  · exact h3
  · rw [h3] at h2; cases h2
theorem wsL_law_in : ∀ w ∈ wsL_law, w ∈ lw_tbl := fun w h => (List.mem_append.mp h).elim (fun h => wsL_law_in0 w h) (fun h => wsL_law_x0 w h)
theorem inlX0 : ∀ w ∈ wsX00, w ∈ wsL_law := fun _ h => List.mem_append_left _ (List.mem_append_left _ (List.mem_append_left _ (List.mem_append_right _ h)))
theorem inX0 : ∀ w ∈ wsX00, w ∈ lw_tbl := fun w h => wsL_law_in w (inlX0 w h)
theorem inlX1 : ∀ w ∈ wsX10, w ∈ wsL_law := fun _ h => List.mem_append_left _ (List.mem_append_left _ (List.mem_append_right _ h))
theorem inX1 : ∀ w ∈ wsX10, w ∈ lw_tbl := fun w h => wsL_law_in w (inlX1 w h)
theorem inlX2 : ∀ w ∈ wsX20, w ∈ wsL_law := fun _ h => List.mem_append_left _ (List.mem_append_left _ (List.mem_append_left _ (List.mem_append_left _ (List.mem_append_left _ (List.mem_append_right _ h)))))
theorem inX2 : ∀ w ∈ wsX20, w ∈ lw_tbl := fun w h => wsL_law_in w (inlX2 w h)
theorem inlX3 : ∀ w ∈ wsX30, w ∈ wsL_law := fun _ h => List.mem_append_left _ (List.mem_append_left _ (List.mem_append_left _ (List.mem_append_left _ (List.mem_append_right _ h))))
theorem inX3 : ∀ w ∈ wsX30, w ∈ lw_tbl := fun w h => wsL_law_in w (inlX3 w h)
theorem inJ9 : ∀ w ∈ wsJ90, w ∈ lw_tbl := by decide +kernel
theorem inJ0 : ∀ w ∈ wsJ00, w ∈ lw_tbl := by decide +kernel
abbrev vwCl : List vw_C := [(RX0, TX0, 12), (RX1, TX1, 10), (RX2, TX2, 17), (RX3, TX3, 28)]
end
section
theorem dX0_init_0 : decode cX0_init 0 = .ok (.aload_n 0, 1) := by decide +kernel
theorem dX0_init_1 : decode cX0_init 1 = .ok (.invokespecial 3, 3) := by decide +kernel
theorem dX0_init_4 : decode cX0_init 4 = .ok (.aload_n 0, 1) := by decide +kernel
theorem dX0_init_5 : decode cX0_init 5 = .ok (.iconst 0, 1) := by decide +kernel
theorem dX0_init_6 : decode cX0_init 6 = .ok (.putfield 9, 3) := by decide +kernel
theorem dX0_init_9 : decode cX0_init 9 = .ok (.aload_n 0, 1) := by decide +kernel
theorem dX0_init_10 : decode cX0_init 10 = .ok (.iconst 4, 1) := by decide +kernel
theorem dX0_init_11 : decode cX0_init 11 = .ok (.newarray .int, 2) := by decide +kernel
theorem dX0_init_13 : decode cX0_init 13 = .ok (.putfield 15, 3) := by decide +kernel
theorem dX0_init_16 : decode cX0_init 16 = .ok (.aload_n 0, 1) := by decide +kernel
theorem dX0_init_17 : decode cX0_init 17 = .ok (.iconst 4, 1) := by decide +kernel
theorem dX0_init_18 : decode cX0_init 18 = .ok (.newarray .int, 2) := by decide +kernel
theorem dX0_init_20 : decode cX0_init 20 = .ok (.putfield 19, 3) := by decide +kernel
theorem dX0_init_23 : decode cX0_init 23 = .ok (.aload_n 0, 1) := by decide +kernel
theorem dX0_init_24 : decode cX0_init 24 = .ok (.iconst 4, 1) := by decide +kernel
theorem dX0_init_25 : decode cX0_init 25 = .ok (.newarray .int, 2) := by decide +kernel
theorem dX0_init_27 : decode cX0_init 27 = .ok (.putfield 22, 3) := by decide +kernel
theorem dX0_init_30 : decode cX0_init 30 = .ok (.aload_n 0, 1) := by decide +kernel
theorem dX0_init_31 : decode cX0_init 31 = .ok (.iconst 4, 1) := by decide +kernel
theorem dX0_init_32 : decode cX0_init 32 = .ok (.newarray .int, 2) := by decide +kernel
theorem dX0_init_34 : decode cX0_init 34 = .ok (.putfield 25, 3) := by decide +kernel
theorem dX0_init_37 : decode cX0_init 37 = .ok (.aload_n 0, 1) := by decide +kernel
theorem dX0_init_38 : decode cX0_init 38 = .ok (.iconst 0, 1) := by decide +kernel
theorem dX0_init_39 : decode cX0_init 39 = .ok (.putfield 28, 3) := by decide +kernel
theorem dX0_init_42 : decode cX0_init 42 = .ok (.aload_n 0, 1) := by decide +kernel
theorem dX0_init_43 : decode cX0_init 43 = .ok (.bipush 8, 2) := by decide +kernel
theorem dX0_init_45 : decode cX0_init 45 = .ok (.newarray .int, 2) := by decide +kernel
theorem dX0_init_47 : decode cX0_init 47 = .ok (.putfield 31, 3) := by decide +kernel
theorem dX0_init_50 : decode cX0_init 50 = .ok (.aload_n 0, 1) := by decide +kernel
theorem dX0_init_51 : decode cX0_init 51 = .ok (.bipush 8, 2) := by decide +kernel
theorem dX0_init_53 : decode cX0_init 53 = .ok (.newarray .int, 2) := by decide +kernel
theorem dX0_init_55 : decode cX0_init 55 = .ok (.putfield 34, 3) := by decide +kernel
theorem dX0_init_58 : decode cX0_init 58 = .ok (.aload_n 0, 1) := by decide +kernel
theorem dX0_init_59 : decode cX0_init 59 = .ok (.bipush 8, 2) := by decide +kernel
theorem dX0_init_61 : decode cX0_init 61 = .ok (.newarray .int, 2) := by decide +kernel
theorem dX0_init_63 : decode cX0_init 63 = .ok (.putfield 37, 3) := by decide +kernel
theorem dX0_init_66 : decode cX0_init 66 = .ok (.aload_n 0, 1) := by decide +kernel
theorem dX0_init_67 : decode cX0_init 67 = .ok (.bipush 8, 2) := by decide +kernel
theorem dX0_init_69 : decode cX0_init 69 = .ok (.newarray .int, 2) := by decide +kernel
theorem dX0_init_71 : decode cX0_init 71 = .ok (.putfield 40, 3) := by decide +kernel
theorem dX0_init_74 : decode cX0_init 74 = .ok (.aload_n 0, 1) := by decide +kernel
theorem dX0_init_75 : decode cX0_init 75 = .ok (.bipush 8, 2) := by decide +kernel
theorem dX0_init_77 : decode cX0_init 77 = .ok (.newarray .int, 2) := by decide +kernel
theorem dX0_init_79 : decode cX0_init 79 = .ok (.putfield 43, 3) := by decide +kernel
theorem dX0_init_82 : decode cX0_init 82 = .ok (.aload_n 0, 1) := by decide +kernel
theorem dX0_init_83 : decode cX0_init 83 = .ok (.bipush 8, 2) := by decide +kernel
theorem dX0_init_85 : decode cX0_init 85 = .ok (.newarray .int, 2) := by decide +kernel
theorem dX0_init_87 : decode cX0_init 87 = .ok (.putfield 46, 3) := by decide +kernel
theorem dX0_init_90 : decode cX0_init 90 = .ok (.return_, 1) := by decide +kernel
theorem dX0_ratesOf_0 : decode cX0_ratesOf 0 = .ok (.iload_n 1, 1) := by decide +kernel
theorem dX0_ratesOf_1 : decode cX0_ratesOf 1 = .ok (.ifCond .ne 10, 3) := by decide +kernel
theorem dX0_ratesOf_4 : decode cX0_ratesOf 4 = .ok (.aload_n 0, 1) := by decide +kernel
theorem dX0_ratesOf_5 : decode cX0_ratesOf 5 = .ok (.getfield 22, 3) := by decide +kernel
theorem dX0_ratesOf_8 : decode cX0_ratesOf 8 = .ok (.goto 7, 3) := by decide +kernel
theorem dX0_ratesOf_11 : decode cX0_ratesOf 11 = .ok (.aload_n 0, 1) := by decide +kernel
theorem dX0_ratesOf_12 : decode cX0_ratesOf 12 = .ok (.getfield 25, 3) := by decide +kernel
theorem dX0_ratesOf_15 : decode cX0_ratesOf 15 = .ok (.areturn, 1) := by decide +kernel
theorem dX0_span_0 : decode cX0_span 0 = .ok (.aload_n 0, 1) := by decide +kernel
theorem dX0_span_1 : decode cX0_span 1 = .ok (.getfield 19, 3) := by decide +kernel
theorem dX0_span_4 : decode cX0_span 4 = .ok (.iload_n 1, 1) := by decide +kernel
theorem dX0_span_5 : decode cX0_span 5 = .ok (.iaload, 1) := by decide +kernel
theorem dX0_span_6 : decode cX0_span 6 = .ok (.aload_n 0, 1) := by decide +kernel
theorem dX0_span_7 : decode cX0_span 7 = .ok (.getfield 15, 3) := by decide +kernel
theorem dX0_span_10 : decode cX0_span 10 = .ok (.iload_n 1, 1) := by decide +kernel
theorem dX0_span_11 : decode cX0_span 11 = .ok (.iaload, 1) := by decide +kernel
theorem dX0_span_12 : decode cX0_span 12 = .ok (.isub, 1) := by decide +kernel
theorem dX0_span_13 : decode cX0_span 13 = .ok (.ireturn, 1) := by decide +kernel
theorem dX1_init_0 : decode cX1_init 0 = .ok (.aload_n 0, 1) := by decide +kernel
theorem dX1_init_1 : decode cX1_init 1 = .ok (.invokespecial 3, 3) := by decide +kernel
theorem dX1_init_4 : decode cX1_init 4 = .ok (.aload_n 0, 1) := by decide +kernel
theorem dX1_init_5 : decode cX1_init 5 = .ok (.lconst 0, 1) := by decide +kernel
theorem dX1_init_6 : decode cX1_init 6 = .ok (.putfield 9, 3) := by decide +kernel
theorem dX1_init_9 : decode cX1_init 9 = .ok (.aload_n 0, 1) := by decide +kernel
theorem dX1_init_10 : decode cX1_init 10 = .ok (.lconst 1, 1) := by decide +kernel
theorem dX1_init_11 : decode cX1_init 11 = .ok (.putfield 15, 3) := by decide +kernel
theorem dX1_init_14 : decode cX1_init 14 = .ok (.aload_n 0, 1) := by decide +kernel
theorem dX1_init_15 : decode cX1_init 15 = .ok (.iconst 4, 1) := by decide +kernel
theorem dX1_init_16 : decode cX1_init 16 = .ok (.newarray .long, 2) := by decide +kernel
theorem dX1_init_18 : decode cX1_init 18 = .ok (.putfield 18, 3) := by decide +kernel
theorem dX1_init_21 : decode cX1_init 21 = .ok (.aload_n 0, 1) := by decide +kernel
theorem dX1_init_22 : decode cX1_init 22 = .ok (.iconst 4, 1) := by decide +kernel
theorem dX1_init_23 : decode cX1_init 23 = .ok (.newarray .long, 2) := by decide +kernel
theorem dX1_init_25 : decode cX1_init 25 = .ok (.putfield 22, 3) := by decide +kernel
theorem dX1_init_28 : decode cX1_init 28 = .ok (.aload_n 0, 1) := by decide +kernel
theorem dX1_init_29 : decode cX1_init 29 = .ok (.iconst 4, 1) := by decide +kernel
theorem dX1_init_30 : decode cX1_init 30 = .ok (.newarray .boolean, 2) := by decide +kernel
theorem dX1_init_32 : decode cX1_init 32 = .ok (.putfield 25, 3) := by decide +kernel
theorem dX1_init_35 : decode cX1_init 35 = .ok (.aload_n 0, 1) := by decide +kernel
theorem dX1_init_36 : decode cX1_init 36 = .ok (.bipush 8, 2) := by decide +kernel
theorem dX1_init_38 : decode cX1_init 38 = .ok (.newarray .int, 2) := by decide +kernel
theorem dX1_init_40 : decode cX1_init 40 = .ok (.putfield 29, 3) := by decide +kernel
theorem dX1_init_43 : decode cX1_init 43 = .ok (.aload_n 0, 1) := by decide +kernel
theorem dX1_init_44 : decode cX1_init 44 = .ok (.iconst 0, 1) := by decide +kernel
theorem dX1_init_45 : decode cX1_init 45 = .ok (.putfield 33, 3) := by decide +kernel
theorem dX1_init_48 : decode cX1_init 48 = .ok (.aload_n 0, 1) := by decide +kernel
theorem dX1_init_49 : decode cX1_init 49 = .ok (.iconst 0, 1) := by decide +kernel
theorem dX1_init_50 : decode cX1_init 50 = .ok (.putfield 37, 3) := by decide +kernel
theorem dX1_init_53 : decode cX1_init 53 = .ok (.aload_n 0, 1) := by decide +kernel
theorem dX1_init_54 : decode cX1_init 54 = .ok (.lconst 0, 1) := by decide +kernel
theorem dX1_init_55 : decode cX1_init 55 = .ok (.putfield 40, 3) := by decide +kernel
theorem dX1_init_58 : decode cX1_init 58 = .ok (.aload_n 0, 1) := by decide +kernel
theorem dX1_init_59 : decode cX1_init 59 = .ok (.lconst 1, 1) := by decide +kernel
theorem dX1_init_60 : decode cX1_init 60 = .ok (.putfield 43, 3) := by decide +kernel
theorem dX1_init_63 : decode cX1_init 63 = .ok (.return_, 1) := by decide +kernel
theorem dX1_restart_0 : decode cX1_restart 0 = .ok (.aload_n 0, 1) := by decide +kernel
theorem dX1_restart_1 : decode cX1_restart 1 = .ok (.lconst 0, 1) := by decide +kernel
theorem dX1_restart_2 : decode cX1_restart 2 = .ok (.putfield 9, 3) := by decide +kernel
theorem dX1_restart_5 : decode cX1_restart 5 = .ok (.aload_n 0, 1) := by decide +kernel
theorem dX1_restart_6 : decode cX1_restart 6 = .ok (.lconst 1, 1) := by decide +kernel
theorem dX1_restart_7 : decode cX1_restart 7 = .ok (.putfield 15, 3) := by decide +kernel
theorem dX1_restart_10 : decode cX1_restart 10 = .ok (.iconst 0, 1) := by decide +kernel
theorem dX1_restart_11 : decode cX1_restart 11 = .ok (.istore_n 2, 1) := by decide +kernel
theorem dX1_restart_12 : decode cX1_restart 12 = .ok (.iload_n 2, 1) := by decide +kernel
theorem dX1_restart_13 : decode cX1_restart 13 = .ok (.iconst 4, 1) := by decide +kernel
theorem dX1_restart_14 : decode cX1_restart 14 = .ok (.if_icmp .ge 36, 3) := by decide +kernel
theorem dX1_restart_17 : decode cX1_restart 17 = .ok (.aload_n 0, 1) := by decide +kernel
theorem dX1_restart_18 : decode cX1_restart 18 = .ok (.getfield 18, 3) := by decide +kernel
theorem dX1_restart_21 : decode cX1_restart 21 = .ok (.iload_n 2, 1) := by decide +kernel
theorem dX1_restart_22 : decode cX1_restart 22 = .ok (.aload_n 1, 1) := by decide +kernel
theorem dX1_restart_23 : decode cX1_restart 23 = .ok (.getfield 46, 3) := by decide +kernel
theorem dX1_restart_26 : decode cX1_restart 26 = .ok (.iload_n 2, 1) := by decide +kernel
theorem dX1_restart_27 : decode cX1_restart 27 = .ok (.iaload, 1) := by decide +kernel
theorem dX1_restart_28 : decode cX1_restart 28 = .ok (.i2l, 1) := by decide +kernel
theorem dX1_restart_29 : decode cX1_restart 29 = .ok (.lastore, 1) := by decide +kernel
theorem dX1_restart_30 : decode cX1_restart 30 = .ok (.aload_n 0, 1) := by decide +kernel
theorem dX1_restart_31 : decode cX1_restart 31 = .ok (.getfield 22, 3) := by decide +kernel
theorem dX1_restart_34 : decode cX1_restart 34 = .ok (.iload_n 2, 1) := by decide +kernel
theorem dX1_restart_35 : decode cX1_restart 35 = .ok (.lconst 1, 1) := by decide +kernel
theorem dX1_restart_36 : decode cX1_restart 36 = .ok (.lastore, 1) := by decide +kernel
theorem dX1_restart_37 : decode cX1_restart 37 = .ok (.aload_n 0, 1) := by decide +kernel
theorem dX1_restart_38 : decode cX1_restart 38 = .ok (.getfield 25, 3) := by decide +kernel
theorem dX1_restart_41 : decode cX1_restart 41 = .ok (.iload_n 2, 1) := by decide +kernel
theorem dX1_restart_42 : decode cX1_restart 42 = .ok (.iconst 1, 1) := by decide +kernel
theorem dX1_restart_43 : decode cX1_restart 43 = .ok (.bastore, 1) := by decide +kernel
theorem dX1_restart_44 : decode cX1_restart 44 = .ok (.iinc 2 1, 3) := by decide +kernel
theorem dX1_restart_47 : decode cX1_restart 47 = .ok (.goto (-35), 3) := by decide +kernel
theorem dX1_restart_50 : decode cX1_restart 50 = .ok (.iconst 0, 1) := by decide +kernel
theorem dX1_restart_51 : decode cX1_restart 51 = .ok (.istore_n 2, 1) := by decide +kernel
theorem dX1_restart_52 : decode cX1_restart 52 = .ok (.iload_n 2, 1) := by decide +kernel
theorem dX1_restart_53 : decode cX1_restart 53 = .ok (.bipush 8, 2) := by decide +kernel
theorem dX1_restart_55 : decode cX1_restart 55 = .ok (.if_icmp .ge 16, 3) := by decide +kernel
theorem dX1_restart_58 : decode cX1_restart 58 = .ok (.aload_n 0, 1) := by decide +kernel
theorem dX1_restart_59 : decode cX1_restart 59 = .ok (.getfield 29, 3) := by decide +kernel
theorem dX1_restart_62 : decode cX1_restart 62 = .ok (.iload_n 2, 1) := by decide +kernel
theorem dX1_restart_63 : decode cX1_restart 63 = .ok (.iconst 0, 1) := by decide +kernel
theorem dX1_restart_64 : decode cX1_restart 64 = .ok (.iastore, 1) := by decide +kernel
theorem dX1_restart_65 : decode cX1_restart 65 = .ok (.iinc 2 1, 3) := by decide +kernel
theorem dX1_restart_68 : decode cX1_restart 68 = .ok (.goto (-16), 3) := by decide +kernel
theorem dX1_restart_71 : decode cX1_restart 71 = .ok (.return_, 1) := by decide +kernel
theorem dX1_copyFrom_0 : decode cX1_copyFrom 0 = .ok (.aload_n 0, 1) := by decide +kernel
theorem dX1_copyFrom_1 : decode cX1_copyFrom 1 = .ok (.aload_n 1, 1) := by decide +kernel
theorem dX1_copyFrom_2 : decode cX1_copyFrom 2 = .ok (.getfield 9, 3) := by decide +kernel
theorem dX1_copyFrom_5 : decode cX1_copyFrom 5 = .ok (.putfield 9, 3) := by decide +kernel
theorem dX1_copyFrom_8 : decode cX1_copyFrom 8 = .ok (.aload_n 0, 1) := by decide +kernel
theorem dX1_copyFrom_9 : decode cX1_copyFrom 9 = .ok (.aload_n 1, 1) := by decide +kernel
theorem dX1_copyFrom_10 : decode cX1_copyFrom 10 = .ok (.getfield 15, 3) := by decide +kernel
theorem dX1_copyFrom_13 : decode cX1_copyFrom 13 = .ok (.putfield 15, 3) := by decide +kernel
theorem dX1_copyFrom_16 : decode cX1_copyFrom 16 = .ok (.iconst 0, 1) := by decide +kernel
theorem dX1_copyFrom_17 : decode cX1_copyFrom 17 = .ok (.istore_n 2, 1) := by decide +kernel
theorem dX1_copyFrom_18 : decode cX1_copyFrom 18 = .ok (.iload_n 2, 1) := by decide +kernel
theorem dX1_copyFrom_19 : decode cX1_copyFrom 19 = .ok (.iconst 4, 1) := by decide +kernel
theorem dX1_copyFrom_20 : decode cX1_copyFrom 20 = .ok (.if_icmp .ge 45, 3) := by decide +kernel
theorem dX1_copyFrom_23 : decode cX1_copyFrom 23 = .ok (.aload_n 0, 1) := by decide +kernel
theorem dX1_copyFrom_24 : decode cX1_copyFrom 24 = .ok (.getfield 18, 3) := by decide +kernel
theorem dX1_copyFrom_27 : decode cX1_copyFrom 27 = .ok (.iload_n 2, 1) := by decide +kernel
theorem dX1_copyFrom_28 : decode cX1_copyFrom 28 = .ok (.aload_n 1, 1) := by decide +kernel
theorem dX1_copyFrom_29 : decode cX1_copyFrom 29 = .ok (.getfield 18, 3) := by decide +kernel
theorem dX1_copyFrom_32 : decode cX1_copyFrom 32 = .ok (.iload_n 2, 1) := by decide +kernel
theorem dX1_copyFrom_33 : decode cX1_copyFrom 33 = .ok (.laload, 1) := by decide +kernel
theorem dX1_copyFrom_34 : decode cX1_copyFrom 34 = .ok (.lastore, 1) := by decide +kernel
theorem dX1_copyFrom_35 : decode cX1_copyFrom 35 = .ok (.aload_n 0, 1) := by decide +kernel
theorem dX1_copyFrom_36 : decode cX1_copyFrom 36 = .ok (.getfield 22, 3) := by decide +kernel
theorem dX1_copyFrom_39 : decode cX1_copyFrom 39 = .ok (.iload_n 2, 1) := by decide +kernel
theorem dX1_copyFrom_40 : decode cX1_copyFrom 40 = .ok (.aload_n 1, 1) := by decide +kernel
theorem dX1_copyFrom_41 : decode cX1_copyFrom 41 = .ok (.getfield 22, 3) := by decide +kernel
theorem dX1_copyFrom_44 : decode cX1_copyFrom 44 = .ok (.iload_n 2, 1) := by decide +kernel
theorem dX1_copyFrom_45 : decode cX1_copyFrom 45 = .ok (.laload, 1) := by decide +kernel
theorem dX1_copyFrom_46 : decode cX1_copyFrom 46 = .ok (.lastore, 1) := by decide +kernel
theorem dX1_copyFrom_47 : decode cX1_copyFrom 47 = .ok (.aload_n 0, 1) := by decide +kernel
theorem dX1_copyFrom_48 : decode cX1_copyFrom 48 = .ok (.getfield 25, 3) := by decide +kernel
theorem dX1_copyFrom_51 : decode cX1_copyFrom 51 = .ok (.iload_n 2, 1) := by decide +kernel
theorem dX1_copyFrom_52 : decode cX1_copyFrom 52 = .ok (.aload_n 1, 1) := by decide +kernel
theorem dX1_copyFrom_53 : decode cX1_copyFrom 53 = .ok (.getfield 25, 3) := by decide +kernel
theorem dX1_copyFrom_56 : decode cX1_copyFrom 56 = .ok (.iload_n 2, 1) := by decide +kernel
theorem dX1_copyFrom_57 : decode cX1_copyFrom 57 = .ok (.baload, 1) := by decide +kernel
theorem dX1_copyFrom_58 : decode cX1_copyFrom 58 = .ok (.bastore, 1) := by decide +kernel
theorem dX1_copyFrom_59 : decode cX1_copyFrom 59 = .ok (.iinc 2 1, 3) := by decide +kernel
theorem dX1_copyFrom_62 : decode cX1_copyFrom 62 = .ok (.goto (-44), 3) := by decide +kernel
theorem dX1_copyFrom_65 : decode cX1_copyFrom 65 = .ok (.iconst 0, 1) := by decide +kernel
theorem dX1_copyFrom_66 : decode cX1_copyFrom 66 = .ok (.istore_n 2, 1) := by decide +kernel
theorem dX1_copyFrom_67 : decode cX1_copyFrom 67 = .ok (.iload_n 2, 1) := by decide +kernel
theorem dX1_copyFrom_68 : decode cX1_copyFrom 68 = .ok (.bipush 8, 2) := by decide +kernel
theorem dX1_copyFrom_70 : decode cX1_copyFrom 70 = .ok (.if_icmp .ge 21, 3) := by decide +kernel
theorem dX1_copyFrom_73 : decode cX1_copyFrom 73 = .ok (.aload_n 0, 1) := by decide +kernel
theorem dX1_copyFrom_74 : decode cX1_copyFrom 74 = .ok (.getfield 29, 3) := by decide +kernel
theorem dX1_copyFrom_77 : decode cX1_copyFrom 77 = .ok (.iload_n 2, 1) := by decide +kernel
theorem dX1_copyFrom_78 : decode cX1_copyFrom 78 = .ok (.aload_n 1, 1) := by decide +kernel
theorem dX1_copyFrom_79 : decode cX1_copyFrom 79 = .ok (.getfield 29, 3) := by decide +kernel
theorem dX1_copyFrom_82 : decode cX1_copyFrom 82 = .ok (.iload_n 2, 1) := by decide +kernel
theorem dX1_copyFrom_83 : decode cX1_copyFrom 83 = .ok (.iaload, 1) := by decide +kernel
theorem dX1_copyFrom_84 : decode cX1_copyFrom 84 = .ok (.iastore, 1) := by decide +kernel
theorem dX1_copyFrom_85 : decode cX1_copyFrom 85 = .ok (.iinc 2 1, 3) := by decide +kernel
theorem dX1_copyFrom_88 : decode cX1_copyFrom 88 = .ok (.goto (-21), 3) := by decide +kernel
theorem dX1_copyFrom_91 : decode cX1_copyFrom 91 = .ok (.return_, 1) := by decide +kernel
set_option maxRecDepth 20000 in
theorem ggX1_advance_X1_chooseTurning : GoodIn wsX1_advance wsX1_chooseTurning := goodIn_r _ [9, 1, 2, 10, 11, 12, 13, 14, 15, 16, 17, 3, 56, 57, 58, 59, 60, 61, 62, 63, 64, 65, 66, 67, 68, 69, 70, 71, 72, 73, 74, 75, 76, 77] (by decide +kernel) (by decide +kernel)
set_option maxRecDepth 20000 in
theorem gX1_advance_X1_chooseTurning : GoodIn wsX1_advance (wsV RX1 54 RX1 yX1_chooseTurning wsX1_chooseTurning) := goodIn_app (goodIn_of _ (by decide +kernel)) ggX1_advance_X1_chooseTurning
set_option maxRecDepth 20000 in
theorem ggX1_advance_X1_letTimePass : GoodIn wsX1_advance wsX1_letTimePass := goodIn_r _ [21, 22, 16, 17, 23, 1, 2, 14, 15, 12, 11, 24, 25, 26, 68, 69, 70, 71, 72, 73, 74, 75, 76, 77, 56, 57, 58, 59, 60, 61, 62, 63, 64, 65, 66, 67] (by decide +kernel) (by decide +kernel)
set_option maxRecDepth 20000 in
theorem gX1_advance_X1_letTimePass : GoodIn wsX1_advance (wsV RX1 58 RX1 yX1_letTimePass wsX1_letTimePass) := goodIn_app (goodIn_of _ (by decide +kernel)) ggX1_advance_X1_letTimePass
set_option maxRecDepth 20000 in
theorem ggX1_advance_X1_passOn : GoodIn wsX1_advance wsX1_passOn := goodIn_r _ [30, 31, 32, 3, 33, 4, 34, 35, 36, 37, 38, 8, 39, 40, 41, 12, 42, 11, 2, 43, 44, 45, 46, 10, 13, 56, 57, 58, 59, 60, 61, 62, 63, 64, 65, 66, 67, 68, 69, 70, 71, 72, 73, 74, 75, 76, 77] (by decide +kernel) (by decide +kernel)
set_option maxRecDepth 20000 in
theorem gX1_advance_X1_passOn : GoodIn wsX1_advance (wsV RX1 61 RX1 yX1_passOn wsX1_passOn) := goodIn_app (goodIn_of _ (by decide +kernel)) ggX1_advance_X1_passOn
set_option maxRecDepth 20000 in
theorem ggX1_advance_X1_isSpent : GoodIn wsX1_advance wsX1_isSpent := goodIn_r _ [50, 22, 23, 1, 12, 11, 51, 52, 8, 53, 54, 55, 68, 69, 70, 71, 72, 73, 74, 75, 76, 77, 56, 57, 58, 59, 60, 61, 62, 63, 64, 65, 66, 67] (by decide +kernel) (by decide +kernel)
set_option maxRecDepth 20000 in
theorem gX1_advance_X1_isSpent : GoodIn wsX1_advance (wsV RX1 64 RX1 yX1_isSpent wsX1_isSpent) := goodIn_app (goodIn_of _ (by decide +kernel)) ggX1_advance_X1_isSpent
theorem dX1_advance_0 : decode cX1_advance 0 = .ok (.aload_n 1, 1) := by decide +kernel
theorem dX1_advance_1 : decode cX1_advance 1 = .ok (.getfield 51, 3) := by decide +kernel
theorem dX1_advance_4 : decode cX1_advance 4 = .ok (.ifCond .ne 5, 3) := by decide +kernel
theorem dX1_advance_7 : decode cX1_advance 7 = .ok (.iconst 0, 1) := by decide +kernel
theorem dX1_advance_8 : decode cX1_advance 8 = .ok (.ireturn, 1) := by decide +kernel
theorem dX1_advance_9 : decode cX1_advance 9 = .ok (.aload_n 0, 1) := by decide +kernel
theorem dX1_advance_10 : decode cX1_advance 10 = .ok (.aload_n 1, 1) := by decide +kernel
theorem dX1_advance_11 : decode cX1_advance 11 = .ok (.invokevirtual 54, 3) := by decide +kernel
theorem dX1_advance_14 : decode cX1_advance 14 = .ok (.aload_n 0, 1) := by decide +kernel
theorem dX1_advance_15 : decode cX1_advance 15 = .ok (.aload_n 1, 1) := by decide +kernel
theorem dX1_advance_16 : decode cX1_advance 16 = .ok (.invokevirtual 58, 3) := by decide +kernel
theorem dX1_advance_19 : decode cX1_advance 19 = .ok (.aload_n 0, 1) := by decide +kernel
theorem dX1_advance_20 : decode cX1_advance 20 = .ok (.aload_n 0, 1) := by decide +kernel
theorem dX1_advance_21 : decode cX1_advance 21 = .ok (.getfield 25, 3) := by decide +kernel
theorem dX1_advance_24 : decode cX1_advance 24 = .ok (.aload_n 0, 1) := by decide +kernel
theorem dX1_advance_25 : decode cX1_advance 25 = .ok (.getfield 33, 3) := by decide +kernel
theorem dX1_advance_28 : decode cX1_advance 28 = .ok (.baload, 1) := by decide +kernel
theorem dX1_advance_29 : decode cX1_advance 29 = .ok (.ifCond .eq 7, 3) := by decide +kernel
theorem dX1_advance_32 : decode cX1_advance 32 = .ok (.iconst 0, 1) := by decide +kernel
theorem dX1_advance_33 : decode cX1_advance 33 = .ok (.goto 4, 3) := by decide +kernel
theorem dX1_advance_36 : decode cX1_advance 36 = .ok (.iconst 1, 1) := by decide +kernel
theorem dX1_advance_37 : decode cX1_advance 37 = .ok (.putfield 37, 3) := by decide +kernel
theorem dX1_advance_40 : decode cX1_advance 40 = .ok (.aload_n 0, 1) := by decide +kernel
theorem dX1_advance_41 : decode cX1_advance 41 = .ok (.getfield 25, 3) := by decide +kernel
theorem dX1_advance_44 : decode cX1_advance 44 = .ok (.aload_n 0, 1) := by decide +kernel
theorem dX1_advance_45 : decode cX1_advance 45 = .ok (.getfield 33, 3) := by decide +kernel
theorem dX1_advance_48 : decode cX1_advance 48 = .ok (.aload_n 0, 1) := by decide +kernel
theorem dX1_advance_49 : decode cX1_advance 49 = .ok (.getfield 37, 3) := by decide +kernel
theorem dX1_advance_52 : decode cX1_advance 52 = .ok (.iconst 1, 1) := by decide +kernel
theorem dX1_advance_53 : decode cX1_advance 53 = .ok (.if_icmp .ne 7, 3) := by decide +kernel
theorem dX1_advance_56 : decode cX1_advance 56 = .ok (.iconst 1, 1) := by decide +kernel
theorem dX1_advance_57 : decode cX1_advance 57 = .ok (.goto 4, 3) := by decide +kernel
theorem dX1_advance_60 : decode cX1_advance 60 = .ok (.iconst 0, 1) := by decide +kernel
theorem dX1_advance_61 : decode cX1_advance 61 = .ok (.bastore, 1) := by decide +kernel
theorem dX1_advance_62 : decode cX1_advance 62 = .ok (.aload_n 0, 1) := by decide +kernel
theorem dX1_advance_63 : decode cX1_advance 63 = .ok (.aload_n 1, 1) := by decide +kernel
theorem dX1_advance_64 : decode cX1_advance 64 = .ok (.invokevirtual 61, 3) := by decide +kernel
theorem dX1_advance_67 : decode cX1_advance 67 = .ok (.aload_n 0, 1) := by decide +kernel
theorem dX1_advance_68 : decode cX1_advance 68 = .ok (.aload_n 1, 1) := by decide +kernel
theorem dX1_advance_69 : decode cX1_advance 69 = .ok (.invokevirtual 64, 3) := by decide +kernel
theorem dX1_advance_72 : decode cX1_advance 72 = .ok (.ifCond .ne 7, 3) := by decide +kernel
theorem dX1_advance_75 : decode cX1_advance 75 = .ok (.iconst 1, 1) := by decide +kernel
theorem dX1_advance_76 : decode cX1_advance 76 = .ok (.goto 4, 3) := by decide +kernel
theorem dX1_advance_79 : decode cX1_advance 79 = .ok (.iconst 0, 1) := by decide +kernel
theorem dX1_advance_80 : decode cX1_advance 80 = .ok (.ireturn, 1) := by decide +kernel
theorem dX1_chooseTurning_0 : decode cX1_chooseTurning 0 = .ok (.iconst 0, 1) := by decide +kernel
theorem dX1_chooseTurning_1 : decode cX1_chooseTurning 1 = .ok (.istore_n 2, 1) := by decide +kernel
theorem dX1_chooseTurning_2 : decode cX1_chooseTurning 2 = .ok (.iload_n 2, 1) := by decide +kernel
theorem dX1_chooseTurning_3 : decode cX1_chooseTurning 3 = .ok (.aload_n 1, 1) := by decide +kernel
theorem dX1_chooseTurning_4 : decode cX1_chooseTurning 4 = .ok (.getfield 51, 3) := by decide +kernel
theorem dX1_chooseTurning_7 : decode cX1_chooseTurning 7 = .ok (.if_icmp .ge 135, 3) := by decide +kernel
theorem dX1_chooseTurning_10 : decode cX1_chooseTurning 10 = .ok (.aload_n 0, 1) := by decide +kernel
theorem dX1_chooseTurning_11 : decode cX1_chooseTurning 11 = .ok (.getfield 25, 3) := by decide +kernel
theorem dX1_chooseTurning_14 : decode cX1_chooseTurning 14 = .ok (.iload_n 2, 1) := by decide +kernel
theorem dX1_chooseTurning_15 : decode cX1_chooseTurning 15 = .ok (.baload, 1) := by decide +kernel
theorem dX1_chooseTurning_16 : decode cX1_chooseTurning 16 = .ok (.ifCond .eq 27, 3) := by decide +kernel
theorem dX1_chooseTurning_19 : decode cX1_chooseTurning 19 = .ok (.aload_n 1, 1) := by decide +kernel
theorem dX1_chooseTurning_20 : decode cX1_chooseTurning 20 = .ok (.getfield 68, 3) := by decide +kernel
theorem dX1_chooseTurning_23 : decode cX1_chooseTurning 23 = .ok (.iload_n 2, 1) := by decide +kernel
theorem dX1_chooseTurning_24 : decode cX1_chooseTurning 24 = .ok (.iaload, 1) := by decide +kernel
theorem dX1_chooseTurning_25 : decode cX1_chooseTurning 25 = .ok (.i2l, 1) := by decide +kernel
theorem dX1_chooseTurning_26 : decode cX1_chooseTurning 26 = .ok (.aload_n 0, 1) := by decide +kernel
theorem dX1_chooseTurning_27 : decode cX1_chooseTurning 27 = .ok (.getfield 22, 3) := by decide +kernel
theorem dX1_chooseTurning_30 : decode cX1_chooseTurning 30 = .ok (.iload_n 2, 1) := by decide +kernel
theorem dX1_chooseTurning_31 : decode cX1_chooseTurning 31 = .ok (.laload, 1) := by decide +kernel
theorem dX1_chooseTurning_32 : decode cX1_chooseTurning 32 = .ok (.lmul, 1) := by decide +kernel
theorem dX1_chooseTurning_33 : decode cX1_chooseTurning 33 = .ok (.aload_n 0, 1) := by decide +kernel
theorem dX1_chooseTurning_34 : decode cX1_chooseTurning 34 = .ok (.getfield 18, 3) := by decide +kernel
theorem dX1_chooseTurning_37 : decode cX1_chooseTurning 37 = .ok (.iload_n 2, 1) := by decide +kernel
theorem dX1_chooseTurning_38 : decode cX1_chooseTurning 38 = .ok (.laload, 1) := by decide +kernel
theorem dX1_chooseTurning_39 : decode cX1_chooseTurning 39 = .ok (.lsub, 1) := by decide +kernel
theorem dX1_chooseTurning_40 : decode cX1_chooseTurning 40 = .ok (.goto 24, 3) := by decide +kernel
theorem dX1_chooseTurning_43 : decode cX1_chooseTurning 43 = .ok (.aload_n 0, 1) := by decide +kernel
theorem dX1_chooseTurning_44 : decode cX1_chooseTurning 44 = .ok (.getfield 18, 3) := by decide +kernel
theorem dX1_chooseTurning_47 : decode cX1_chooseTurning 47 = .ok (.iload_n 2, 1) := by decide +kernel
theorem dX1_chooseTurning_48 : decode cX1_chooseTurning 48 = .ok (.laload, 1) := by decide +kernel
theorem dX1_chooseTurning_49 : decode cX1_chooseTurning 49 = .ok (.aload_n 1, 1) := by decide +kernel
theorem dX1_chooseTurning_50 : decode cX1_chooseTurning 50 = .ok (.getfield 46, 3) := by decide +kernel
theorem dX1_chooseTurning_53 : decode cX1_chooseTurning 53 = .ok (.iload_n 2, 1) := by decide +kernel
theorem dX1_chooseTurning_54 : decode cX1_chooseTurning 54 = .ok (.iaload, 1) := by decide +kernel
theorem dX1_chooseTurning_55 : decode cX1_chooseTurning 55 = .ok (.i2l, 1) := by decide +kernel
theorem dX1_chooseTurning_56 : decode cX1_chooseTurning 56 = .ok (.aload_n 0, 1) := by decide +kernel
theorem dX1_chooseTurning_57 : decode cX1_chooseTurning 57 = .ok (.getfield 22, 3) := by decide +kernel
theorem dX1_chooseTurning_60 : decode cX1_chooseTurning 60 = .ok (.iload_n 2, 1) := by decide +kernel
theorem dX1_chooseTurning_61 : decode cX1_chooseTurning 61 = .ok (.laload, 1) := by decide +kernel
theorem dX1_chooseTurning_62 : decode cX1_chooseTurning 62 = .ok (.lmul, 1) := by decide +kernel
theorem dX1_chooseTurning_63 : decode cX1_chooseTurning 63 = .ok (.lsub, 1) := by decide +kernel
theorem dX1_chooseTurning_64 : decode cX1_chooseTurning 64 = .ok (.lstore_n 3, 1) := by decide +kernel
theorem dX1_chooseTurning_65 : decode cX1_chooseTurning 65 = .ok (.aload_n 0, 1) := by decide +kernel
theorem dX1_chooseTurning_66 : decode cX1_chooseTurning 66 = .ok (.getfield 22, 3) := by decide +kernel
theorem dX1_chooseTurning_69 : decode cX1_chooseTurning 69 = .ok (.iload_n 2, 1) := by decide +kernel
theorem dX1_chooseTurning_70 : decode cX1_chooseTurning 70 = .ok (.laload, 1) := by decide +kernel
theorem dX1_chooseTurning_71 : decode cX1_chooseTurning 71 = .ok (.aload_n 0, 1) := by decide +kernel
theorem dX1_chooseTurning_72 : decode cX1_chooseTurning 72 = .ok (.getfield 25, 3) := by decide +kernel
theorem dX1_chooseTurning_75 : decode cX1_chooseTurning 75 = .ok (.iload_n 2, 1) := by decide +kernel
theorem dX1_chooseTurning_76 : decode cX1_chooseTurning 76 = .ok (.baload, 1) := by decide +kernel
theorem dX1_chooseTurning_77 : decode cX1_chooseTurning 77 = .ok (.ifCond .eq 12, 3) := by decide +kernel
theorem dX1_chooseTurning_80 : decode cX1_chooseTurning 80 = .ok (.aload_n 1, 1) := by decide +kernel
theorem dX1_chooseTurning_81 : decode cX1_chooseTurning 81 = .ok (.getfield 71, 3) := by decide +kernel
theorem dX1_chooseTurning_84 : decode cX1_chooseTurning 84 = .ok (.iload_n 2, 1) := by decide +kernel
theorem dX1_chooseTurning_85 : decode cX1_chooseTurning 85 = .ok (.iaload, 1) := by decide +kernel
theorem dX1_chooseTurning_86 : decode cX1_chooseTurning 86 = .ok (.goto 9, 3) := by decide +kernel
theorem dX1_chooseTurning_89 : decode cX1_chooseTurning 89 = .ok (.aload_n 1, 1) := by decide +kernel
theorem dX1_chooseTurning_90 : decode cX1_chooseTurning 90 = .ok (.getfield 74, 3) := by decide +kernel
theorem dX1_chooseTurning_93 : decode cX1_chooseTurning 93 = .ok (.iload_n 2, 1) := by decide +kernel
theorem dX1_chooseTurning_94 : decode cX1_chooseTurning 94 = .ok (.iaload, 1) := by decide +kernel
theorem dX1_chooseTurning_95 : decode cX1_chooseTurning 95 = .ok (.i2l, 1) := by decide +kernel
theorem dX1_chooseTurning_96 : decode cX1_chooseTurning 96 = .ok (.lmul, 1) := by decide +kernel
theorem dX1_chooseTurning_97 : decode cX1_chooseTurning 97 = .ok (.lstore 5, 2) := by decide +kernel
theorem dX1_chooseTurning_99 : decode cX1_chooseTurning 99 = .ok (.iload_n 2, 1) := by decide +kernel
theorem dX1_chooseTurning_100 : decode cX1_chooseTurning 100 = .ok (.ifCond .eq 20, 3) := by decide +kernel
theorem dX1_chooseTurning_103 : decode cX1_chooseTurning 103 = .ok (.lload_n 3, 1) := by decide +kernel
theorem dX1_chooseTurning_104 : decode cX1_chooseTurning 104 = .ok (.aload_n 0, 1) := by decide +kernel
theorem dX1_chooseTurning_105 : decode cX1_chooseTurning 105 = .ok (.getfield 43, 3) := by decide +kernel
theorem dX1_chooseTurning_108 : decode cX1_chooseTurning 108 = .ok (.lmul, 1) := by decide +kernel
theorem dX1_chooseTurning_109 : decode cX1_chooseTurning 109 = .ok (.aload_n 0, 1) := by decide +kernel
theorem dX1_chooseTurning_110 : decode cX1_chooseTurning 110 = .ok (.getfield 40, 3) := by decide +kernel
theorem dX1_chooseTurning_113 : decode cX1_chooseTurning 113 = .ok (.lload 5, 2) := by decide +kernel
theorem dX1_chooseTurning_115 : decode cX1_chooseTurning 115 = .ok (.lmul, 1) := by decide +kernel
theorem dX1_chooseTurning_116 : decode cX1_chooseTurning 116 = .ok (.lcmp, 1) := by decide +kernel
theorem dX1_chooseTurning_117 : decode cX1_chooseTurning 117 = .ok (.ifCond .ge 19, 3) := by decide +kernel
theorem dX1_chooseTurning_120 : decode cX1_chooseTurning 120 = .ok (.aload_n 0, 1) := by decide +kernel
theorem dX1_chooseTurning_121 : decode cX1_chooseTurning 121 = .ok (.iload_n 2, 1) := by decide +kernel
theorem dX1_chooseTurning_122 : decode cX1_chooseTurning 122 = .ok (.putfield 33, 3) := by decide +kernel
theorem dX1_chooseTurning_125 : decode cX1_chooseTurning 125 = .ok (.aload_n 0, 1) := by decide +kernel
theorem dX1_chooseTurning_126 : decode cX1_chooseTurning 126 = .ok (.lload_n 3, 1) := by decide +kernel
theorem dX1_chooseTurning_127 : decode cX1_chooseTurning 127 = .ok (.putfield 40, 3) := by decide +kernel
theorem dX1_chooseTurning_130 : decode cX1_chooseTurning 130 = .ok (.aload_n 0, 1) := by decide +kernel
theorem dX1_chooseTurning_131 : decode cX1_chooseTurning 131 = .ok (.lload 5, 2) := by decide +kernel
theorem dX1_chooseTurning_133 : decode cX1_chooseTurning 133 = .ok (.putfield 43, 3) := by decide +kernel
theorem dX1_chooseTurning_136 : decode cX1_chooseTurning 136 = .ok (.iinc 2 1, 3) := by decide +kernel
theorem dX1_chooseTurning_139 : decode cX1_chooseTurning 139 = .ok (.goto (-137), 3) := by decide +kernel
theorem dX1_chooseTurning_142 : decode cX1_chooseTurning 142 = .ok (.return_, 1) := by decide +kernel
set_option maxRecDepth 20000 in
theorem ggX1_letTimePass_X2_commonOf : GoodIn wsX1_letTimePass wsX2_commonOf := goodIn_r _ [13] (by decide +kernel) (by decide +kernel)
set_option maxRecDepth 20000 in
theorem gX1_letTimePass_X2_commonOf_n77 : GoodIn wsX1_letTimePass (wsX2_commonOf) := ggX1_letTimePass_X2_commonOf
theorem dX1_letTimePass_0 : decode cX1_letTimePass 0 = .ok (.aload_n 0, 1) := by decide +kernel
theorem dX1_letTimePass_1 : decode cX1_letTimePass 1 = .ok (.getfield 9, 3) := by decide +kernel
theorem dX1_letTimePass_4 : decode cX1_letTimePass 4 = .ok (.aload_n 0, 1) := by decide +kernel
theorem dX1_letTimePass_5 : decode cX1_letTimePass 5 = .ok (.getfield 43, 3) := by decide +kernel
theorem dX1_letTimePass_8 : decode cX1_letTimePass 8 = .ok (.lmul, 1) := by decide +kernel
theorem dX1_letTimePass_9 : decode cX1_letTimePass 9 = .ok (.aload_n 0, 1) := by decide +kernel
theorem dX1_letTimePass_10 : decode cX1_letTimePass 10 = .ok (.getfield 40, 3) := by decide +kernel
theorem dX1_letTimePass_13 : decode cX1_letTimePass 13 = .ok (.aload_n 0, 1) := by decide +kernel
theorem dX1_letTimePass_14 : decode cX1_letTimePass 14 = .ok (.getfield 15, 3) := by decide +kernel
theorem dX1_letTimePass_17 : decode cX1_letTimePass 17 = .ok (.lmul, 1) := by decide +kernel
theorem dX1_letTimePass_18 : decode cX1_letTimePass 18 = .ok (.ladd, 1) := by decide +kernel
theorem dX1_letTimePass_19 : decode cX1_letTimePass 19 = .ok (.lstore_n 2, 1) := by decide +kernel
theorem dX1_letTimePass_20 : decode cX1_letTimePass 20 = .ok (.aload_n 0, 1) := by decide +kernel
theorem dX1_letTimePass_21 : decode cX1_letTimePass 21 = .ok (.getfield 15, 3) := by decide +kernel
theorem dX1_letTimePass_24 : decode cX1_letTimePass 24 = .ok (.aload_n 0, 1) := by decide +kernel
theorem dX1_letTimePass_25 : decode cX1_letTimePass 25 = .ok (.getfield 43, 3) := by decide +kernel
theorem dX1_letTimePass_28 : decode cX1_letTimePass 28 = .ok (.lmul, 1) := by decide +kernel
theorem dX1_letTimePass_29 : decode cX1_letTimePass 29 = .ok (.lstore 4, 2) := by decide +kernel
theorem dX1_letTimePass_31 : decode cX1_letTimePass 31 = .ok (.lload_n 2, 1) := by decide +kernel
theorem dX1_letTimePass_32 : decode cX1_letTimePass 32 = .ok (.lload 4, 2) := by decide +kernel
theorem dX1_letTimePass_34 : decode cX1_letTimePass 34 = .ok (.invokestatic 77, 3) := by decide +kernel
theorem dX1_letTimePass_37 : decode cX1_letTimePass 37 = .ok (.lstore 6, 2) := by decide +kernel
theorem dX1_letTimePass_39 : decode cX1_letTimePass 39 = .ok (.aload_n 0, 1) := by decide +kernel
theorem dX1_letTimePass_40 : decode cX1_letTimePass 40 = .ok (.lload_n 2, 1) := by decide +kernel
theorem dX1_letTimePass_41 : decode cX1_letTimePass 41 = .ok (.lload 6, 2) := by decide +kernel
theorem dX1_letTimePass_43 : decode cX1_letTimePass 43 = .ok (.ldiv, 1) := by decide +kernel
theorem dX1_letTimePass_44 : decode cX1_letTimePass 44 = .ok (.putfield 9, 3) := by decide +kernel
theorem dX1_letTimePass_47 : decode cX1_letTimePass 47 = .ok (.aload_n 0, 1) := by decide +kernel
theorem dX1_letTimePass_48 : decode cX1_letTimePass 48 = .ok (.lload 4, 2) := by decide +kernel
theorem dX1_letTimePass_50 : decode cX1_letTimePass 50 = .ok (.lload 6, 2) := by decide +kernel
theorem dX1_letTimePass_52 : decode cX1_letTimePass 52 = .ok (.ldiv, 1) := by decide +kernel
theorem dX1_letTimePass_53 : decode cX1_letTimePass 53 = .ok (.putfield 15, 3) := by decide +kernel
theorem dX1_letTimePass_56 : decode cX1_letTimePass 56 = .ok (.iconst 0, 1) := by decide +kernel
theorem dX1_letTimePass_57 : decode cX1_letTimePass 57 = .ok (.istore 8, 2) := by decide +kernel
theorem dX1_letTimePass_59 : decode cX1_letTimePass 59 = .ok (.iload 8, 2) := by decide +kernel
theorem dX1_letTimePass_61 : decode cX1_letTimePass 61 = .ok (.aload_n 1, 1) := by decide +kernel
theorem dX1_letTimePass_62 : decode cX1_letTimePass 62 = .ok (.getfield 51, 3) := by decide +kernel
theorem dX1_letTimePass_65 : decode cX1_letTimePass 65 = .ok (.if_icmp .ge 115, 3) := by decide +kernel
theorem dX1_letTimePass_68 : decode cX1_letTimePass 68 = .ok (.aload_n 0, 1) := by decide +kernel
theorem dX1_letTimePass_69 : decode cX1_letTimePass 69 = .ok (.getfield 25, 3) := by decide +kernel
theorem dX1_letTimePass_72 : decode cX1_letTimePass 72 = .ok (.iload 8, 2) := by decide +kernel
theorem dX1_letTimePass_74 : decode cX1_letTimePass 74 = .ok (.baload, 1) := by decide +kernel
theorem dX1_letTimePass_75 : decode cX1_letTimePass 75 = .ok (.ifCond .eq 14, 3) := by decide +kernel
theorem dX1_letTimePass_78 : decode cX1_letTimePass 78 = .ok (.aload_n 1, 1) := by decide +kernel
theorem dX1_letTimePass_79 : decode cX1_letTimePass 79 = .ok (.getfield 71, 3) := by decide +kernel
theorem dX1_letTimePass_82 : decode cX1_letTimePass 82 = .ok (.iload 8, 2) := by decide +kernel
theorem dX1_letTimePass_84 : decode cX1_letTimePass 84 = .ok (.iaload, 1) := by decide +kernel
theorem dX1_letTimePass_85 : decode cX1_letTimePass 85 = .ok (.i2l, 1) := by decide +kernel
theorem dX1_letTimePass_86 : decode cX1_letTimePass 86 = .ok (.goto 12, 3) := by decide +kernel
theorem dX1_letTimePass_89 : decode cX1_letTimePass 89 = .ok (.aload_n 1, 1) := by decide +kernel
theorem dX1_letTimePass_90 : decode cX1_letTimePass 90 = .ok (.getfield 74, 3) := by decide +kernel
theorem dX1_letTimePass_93 : decode cX1_letTimePass 93 = .ok (.iload 8, 2) := by decide +kernel
theorem dX1_letTimePass_95 : decode cX1_letTimePass 95 = .ok (.iaload, 1) := by decide +kernel
theorem dX1_letTimePass_96 : decode cX1_letTimePass 96 = .ok (.ineg, 1) := by decide +kernel
theorem dX1_letTimePass_97 : decode cX1_letTimePass 97 = .ok (.i2l, 1) := by decide +kernel
theorem dX1_letTimePass_98 : decode cX1_letTimePass 98 = .ok (.lstore 9, 2) := by decide +kernel
theorem dX1_letTimePass_100 : decode cX1_letTimePass 100 = .ok (.aload_n 0, 1) := by decide +kernel
theorem dX1_letTimePass_101 : decode cX1_letTimePass 101 = .ok (.getfield 18, 3) := by decide +kernel
theorem dX1_letTimePass_104 : decode cX1_letTimePass 104 = .ok (.iload 8, 2) := by decide +kernel
theorem dX1_letTimePass_106 : decode cX1_letTimePass 106 = .ok (.laload, 1) := by decide +kernel
theorem dX1_letTimePass_107 : decode cX1_letTimePass 107 = .ok (.aload_n 0, 1) := by decide +kernel
theorem dX1_letTimePass_108 : decode cX1_letTimePass 108 = .ok (.getfield 43, 3) := by decide +kernel
theorem dX1_letTimePass_111 : decode cX1_letTimePass 111 = .ok (.lmul, 1) := by decide +kernel
theorem dX1_letTimePass_112 : decode cX1_letTimePass 112 = .ok (.lload 9, 2) := by decide +kernel
theorem dX1_letTimePass_114 : decode cX1_letTimePass 114 = .ok (.aload_n 0, 1) := by decide +kernel
theorem dX1_letTimePass_115 : decode cX1_letTimePass 115 = .ok (.getfield 40, 3) := by decide +kernel
theorem dX1_letTimePass_118 : decode cX1_letTimePass 118 = .ok (.lmul, 1) := by decide +kernel
theorem dX1_letTimePass_119 : decode cX1_letTimePass 119 = .ok (.aload_n 0, 1) := by decide +kernel
theorem dX1_letTimePass_120 : decode cX1_letTimePass 120 = .ok (.getfield 22, 3) := by decide +kernel
theorem dX1_letTimePass_123 : decode cX1_letTimePass 123 = .ok (.iload 8, 2) := by decide +kernel
theorem dX1_letTimePass_125 : decode cX1_letTimePass 125 = .ok (.laload, 1) := by decide +kernel
theorem dX1_letTimePass_126 : decode cX1_letTimePass 126 = .ok (.lmul, 1) := by decide +kernel
theorem dX1_letTimePass_127 : decode cX1_letTimePass 127 = .ok (.ladd, 1) := by decide +kernel
theorem dX1_letTimePass_128 : decode cX1_letTimePass 128 = .ok (.lstore_n 2, 1) := by decide +kernel
theorem dX1_letTimePass_129 : decode cX1_letTimePass 129 = .ok (.aload_n 0, 1) := by decide +kernel
theorem dX1_letTimePass_130 : decode cX1_letTimePass 130 = .ok (.getfield 22, 3) := by decide +kernel
theorem dX1_letTimePass_133 : decode cX1_letTimePass 133 = .ok (.iload 8, 2) := by decide +kernel
theorem dX1_letTimePass_135 : decode cX1_letTimePass 135 = .ok (.laload, 1) := by decide +kernel
theorem dX1_letTimePass_136 : decode cX1_letTimePass 136 = .ok (.aload_n 0, 1) := by decide +kernel
theorem dX1_letTimePass_137 : decode cX1_letTimePass 137 = .ok (.getfield 43, 3) := by decide +kernel
theorem dX1_letTimePass_140 : decode cX1_letTimePass 140 = .ok (.lmul, 1) := by decide +kernel
theorem dX1_letTimePass_141 : decode cX1_letTimePass 141 = .ok (.lstore 4, 2) := by decide +kernel
theorem dX1_letTimePass_143 : decode cX1_letTimePass 143 = .ok (.lload_n 2, 1) := by decide +kernel
theorem dX1_letTimePass_144 : decode cX1_letTimePass 144 = .ok (.lload 4, 2) := by decide +kernel
theorem dX1_letTimePass_146 : decode cX1_letTimePass 146 = .ok (.invokestatic 77, 3) := by decide +kernel
theorem dX1_letTimePass_149 : decode cX1_letTimePass 149 = .ok (.lstore 6, 2) := by decide +kernel
theorem dX1_letTimePass_151 : decode cX1_letTimePass 151 = .ok (.aload_n 0, 1) := by decide +kernel
theorem dX1_letTimePass_152 : decode cX1_letTimePass 152 = .ok (.getfield 18, 3) := by decide +kernel
theorem dX1_letTimePass_155 : decode cX1_letTimePass 155 = .ok (.iload 8, 2) := by decide +kernel
theorem dX1_letTimePass_157 : decode cX1_letTimePass 157 = .ok (.lload_n 2, 1) := by decide +kernel
theorem dX1_letTimePass_158 : decode cX1_letTimePass 158 = .ok (.lload 6, 2) := by decide +kernel
theorem dX1_letTimePass_160 : decode cX1_letTimePass 160 = .ok (.ldiv, 1) := by decide +kernel
theorem dX1_letTimePass_161 : decode cX1_letTimePass 161 = .ok (.lastore, 1) := by decide +kernel
theorem dX1_letTimePass_162 : decode cX1_letTimePass 162 = .ok (.aload_n 0, 1) := by decide +kernel
theorem dX1_letTimePass_163 : decode cX1_letTimePass 163 = .ok (.getfield 22, 3) := by decide +kernel
theorem dX1_letTimePass_166 : decode cX1_letTimePass 166 = .ok (.iload 8, 2) := by decide +kernel
theorem dX1_letTimePass_168 : decode cX1_letTimePass 168 = .ok (.lload 4, 2) := by decide +kernel
theorem dX1_letTimePass_170 : decode cX1_letTimePass 170 = .ok (.lload 6, 2) := by decide +kernel
theorem dX1_letTimePass_172 : decode cX1_letTimePass 172 = .ok (.ldiv, 1) := by decide +kernel
theorem dX1_letTimePass_173 : decode cX1_letTimePass 173 = .ok (.lastore, 1) := by decide +kernel
theorem dX1_letTimePass_174 : decode cX1_letTimePass 174 = .ok (.iinc 8 1, 3) := by decide +kernel
theorem dX1_letTimePass_177 : decode cX1_letTimePass 177 = .ok (.goto (-118), 3) := by decide +kernel
theorem dX1_letTimePass_180 : decode cX1_letTimePass 180 = .ok (.return_, 1) := by decide +kernel
set_option maxRecDepth 20000 in
theorem ggX1_passOn_X1_doAct : GoodIn wsX1_passOn wsX1_doAct := goodIn_r _ [12, 13, 14, 15, 16, 17, 18, 19, 20, 21, 11, 22, 23, 24, 25, 26, 27, 28, 29, 30, 31, 32, 33, 34, 35, 36, 37, 38, 39, 40, 41, 42, 43, 44, 45, 46] (by decide +kernel) (by decide +kernel)
set_option maxRecDepth 20000 in
theorem gX1_passOn_X1_doAct : GoodIn wsX1_passOn (wsV RX1 93 RX1 yX1_doAct wsX1_doAct) := goodIn_app (goodIn_of _ (by decide +kernel)) ggX1_passOn_X1_doAct
theorem dX1_passOn_0 : decode cX1_passOn 0 = .ok (.iconst 0, 1) := by decide +kernel
theorem dX1_passOn_1 : decode cX1_passOn 1 = .ok (.istore_n 2, 1) := by decide +kernel
theorem dX1_passOn_2 : decode cX1_passOn 2 = .ok (.iload_n 2, 1) := by decide +kernel
theorem dX1_passOn_3 : decode cX1_passOn 3 = .ok (.aload_n 1, 1) := by decide +kernel
theorem dX1_passOn_4 : decode cX1_passOn 4 = .ok (.getfield 81, 3) := by decide +kernel
theorem dX1_passOn_7 : decode cX1_passOn 7 = .ok (.if_icmp .ge 73, 3) := by decide +kernel
theorem dX1_passOn_10 : decode cX1_passOn 10 = .ok (.aload_n 1, 1) := by decide +kernel
theorem dX1_passOn_11 : decode cX1_passOn 11 = .ok (.getfield 84, 3) := by decide +kernel
theorem dX1_passOn_14 : decode cX1_passOn 14 = .ok (.iload_n 2, 1) := by decide +kernel
theorem dX1_passOn_15 : decode cX1_passOn 15 = .ok (.iaload, 1) := by decide +kernel
theorem dX1_passOn_16 : decode cX1_passOn 16 = .ok (.aload_n 0, 1) := by decide +kernel
theorem dX1_passOn_17 : decode cX1_passOn 17 = .ok (.getfield 33, 3) := by decide +kernel
theorem dX1_passOn_20 : decode cX1_passOn 20 = .ok (.if_icmp .ne 54, 3) := by decide +kernel
theorem dX1_passOn_23 : decode cX1_passOn 23 = .ok (.aload_n 1, 1) := by decide +kernel
theorem dX1_passOn_24 : decode cX1_passOn 24 = .ok (.getfield 87, 3) := by decide +kernel
theorem dX1_passOn_27 : decode cX1_passOn 27 = .ok (.iload_n 2, 1) := by decide +kernel
theorem dX1_passOn_28 : decode cX1_passOn 28 = .ok (.iaload, 1) := by decide +kernel
theorem dX1_passOn_29 : decode cX1_passOn 29 = .ok (.aload_n 0, 1) := by decide +kernel
theorem dX1_passOn_30 : decode cX1_passOn 30 = .ok (.getfield 37, 3) := by decide +kernel
theorem dX1_passOn_33 : decode cX1_passOn 33 = .ok (.if_icmp .ne 41, 3) := by decide +kernel
theorem dX1_passOn_36 : decode cX1_passOn 36 = .ok (.aload_n 0, 1) := by decide +kernel
theorem dX1_passOn_37 : decode cX1_passOn 37 = .ok (.getfield 29, 3) := by decide +kernel
theorem dX1_passOn_40 : decode cX1_passOn 40 = .ok (.iload_n 2, 1) := by decide +kernel
theorem dX1_passOn_41 : decode cX1_passOn 41 = .ok (.dup2, 1) := by decide +kernel
theorem dX1_passOn_42 : decode cX1_passOn 42 = .ok (.iaload, 1) := by decide +kernel
theorem dX1_passOn_43 : decode cX1_passOn 43 = .ok (.iconst 1, 1) := by decide +kernel
theorem dX1_passOn_44 : decode cX1_passOn 44 = .ok (.iadd, 1) := by decide +kernel
theorem dX1_passOn_45 : decode cX1_passOn 45 = .ok (.iastore, 1) := by decide +kernel
theorem dX1_passOn_46 : decode cX1_passOn 46 = .ok (.aload_n 0, 1) := by decide +kernel
theorem dX1_passOn_47 : decode cX1_passOn 47 = .ok (.getfield 29, 3) := by decide +kernel
theorem dX1_passOn_50 : decode cX1_passOn 50 = .ok (.iload_n 2, 1) := by decide +kernel
theorem dX1_passOn_51 : decode cX1_passOn 51 = .ok (.iaload, 1) := by decide +kernel
theorem dX1_passOn_52 : decode cX1_passOn 52 = .ok (.aload_n 1, 1) := by decide +kernel
theorem dX1_passOn_53 : decode cX1_passOn 53 = .ok (.getfield 90, 3) := by decide +kernel
theorem dX1_passOn_56 : decode cX1_passOn 56 = .ok (.iload_n 2, 1) := by decide +kernel
theorem dX1_passOn_57 : decode cX1_passOn 57 = .ok (.iaload, 1) := by decide +kernel
theorem dX1_passOn_58 : decode cX1_passOn 58 = .ok (.if_icmp .ne 16, 3) := by decide +kernel
theorem dX1_passOn_61 : decode cX1_passOn 61 = .ok (.aload_n 0, 1) := by decide +kernel
theorem dX1_passOn_62 : decode cX1_passOn 62 = .ok (.getfield 29, 3) := by decide +kernel
theorem dX1_passOn_65 : decode cX1_passOn 65 = .ok (.iload_n 2, 1) := by decide +kernel
theorem dX1_passOn_66 : decode cX1_passOn 66 = .ok (.iconst 0, 1) := by decide +kernel
theorem dX1_passOn_67 : decode cX1_passOn 67 = .ok (.iastore, 1) := by decide +kernel
theorem dX1_passOn_68 : decode cX1_passOn 68 = .ok (.aload_n 0, 1) := by decide +kernel
theorem dX1_passOn_69 : decode cX1_passOn 69 = .ok (.aload_n 1, 1) := by decide +kernel
theorem dX1_passOn_70 : decode cX1_passOn 70 = .ok (.iload_n 2, 1) := by decide +kernel
theorem dX1_passOn_71 : decode cX1_passOn 71 = .ok (.invokevirtual 93, 3) := by decide +kernel
theorem dX1_passOn_74 : decode cX1_passOn 74 = .ok (.iinc 2 1, 3) := by decide +kernel
theorem dX1_passOn_77 : decode cX1_passOn 77 = .ok (.goto (-75), 3) := by decide +kernel
theorem dX1_passOn_80 : decode cX1_passOn 80 = .ok (.return_, 1) := by decide +kernel
set_option maxRecDepth 20000 in
theorem ggX1_doAct_X1_keepBetweenBars : GoodIn wsX1_doAct wsX1_keepBetweenBars := goodIn_r _ [11, 3, 12, 5, 13, 26, 27, 28, 29, 30, 31, 32, 33, 34, 35, 14, 15, 16, 17, 18, 19, 20, 21, 22, 23, 24, 25] (by decide +kernel) (by decide +kernel)
set_option maxRecDepth 20000 in
theorem gX1_doAct_X1_keepBetweenBars : GoodIn wsX1_doAct (wsV RX1 106 RX1 yX1_keepBetweenBars wsX1_keepBetweenBars) := goodIn_app (goodIn_of _ (by decide +kernel)) ggX1_doAct_X1_keepBetweenBars
theorem dX1_doAct_0 : decode cX1_doAct 0 = .ok (.aload_n 1, 1) := by decide +kernel
theorem dX1_doAct_1 : decode cX1_doAct 1 = .ok (.getfield 97, 3) := by decide +kernel
theorem dX1_doAct_4 : decode cX1_doAct 4 = .ok (.iload_n 2, 1) := by decide +kernel
theorem dX1_doAct_5 : decode cX1_doAct 5 = .ok (.iaload, 1) := by decide +kernel
theorem dX1_doAct_6 : decode cX1_doAct 6 = .ok (.istore_n 3, 1) := by decide +kernel
theorem dX1_doAct_7 : decode cX1_doAct 7 = .ok (.aload_n 1, 1) := by decide +kernel
theorem dX1_doAct_8 : decode cX1_doAct 8 = .ok (.getfield 100, 3) := by decide +kernel
theorem dX1_doAct_11 : decode cX1_doAct 11 = .ok (.iload_n 2, 1) := by decide +kernel
theorem dX1_doAct_12 : decode cX1_doAct 12 = .ok (.iaload, 1) := by decide +kernel
theorem dX1_doAct_13 : decode cX1_doAct 13 = .ok (.lookupswitch 82 #[(0, 27), (1, 59)], 27) := by decide +kernel
theorem dX1_doAct_40 : decode cX1_doAct 40 = .ok (.aload_n 0, 1) := by decide +kernel
theorem dX1_doAct_41 : decode cX1_doAct 41 = .ok (.getfield 18, 3) := by decide +kernel
theorem dX1_doAct_44 : decode cX1_doAct 44 = .ok (.iload_n 3, 1) := by decide +kernel
theorem dX1_doAct_45 : decode cX1_doAct 45 = .ok (.dup2, 1) := by decide +kernel
theorem dX1_doAct_46 : decode cX1_doAct 46 = .ok (.laload, 1) := by decide +kernel
theorem dX1_doAct_47 : decode cX1_doAct 47 = .ok (.aload_n 1, 1) := by decide +kernel
theorem dX1_doAct_48 : decode cX1_doAct 48 = .ok (.getfield 103, 3) := by decide +kernel
theorem dX1_doAct_51 : decode cX1_doAct 51 = .ok (.iload_n 2, 1) := by decide +kernel
theorem dX1_doAct_52 : decode cX1_doAct 52 = .ok (.iaload, 1) := by decide +kernel
theorem dX1_doAct_53 : decode cX1_doAct 53 = .ok (.i2l, 1) := by decide +kernel
theorem dX1_doAct_54 : decode cX1_doAct 54 = .ok (.aload_n 0, 1) := by decide +kernel
theorem dX1_doAct_55 : decode cX1_doAct 55 = .ok (.getfield 22, 3) := by decide +kernel
theorem dX1_doAct_58 : decode cX1_doAct 58 = .ok (.iload_n 3, 1) := by decide +kernel
theorem dX1_doAct_59 : decode cX1_doAct 59 = .ok (.laload, 1) := by decide +kernel
theorem dX1_doAct_60 : decode cX1_doAct 60 = .ok (.lmul, 1) := by decide +kernel
theorem dX1_doAct_61 : decode cX1_doAct 61 = .ok (.ladd, 1) := by decide +kernel
theorem dX1_doAct_62 : decode cX1_doAct 62 = .ok (.lastore, 1) := by decide +kernel
theorem dX1_doAct_63 : decode cX1_doAct 63 = .ok (.aload_n 0, 1) := by decide +kernel
theorem dX1_doAct_64 : decode cX1_doAct 64 = .ok (.aload_n 1, 1) := by decide +kernel
theorem dX1_doAct_65 : decode cX1_doAct 65 = .ok (.iload_n 3, 1) := by decide +kernel
theorem dX1_doAct_66 : decode cX1_doAct 66 = .ok (.invokevirtual 106, 3) := by decide +kernel
theorem dX1_doAct_69 : decode cX1_doAct 69 = .ok (.goto 46, 3) := by decide +kernel
theorem dX1_doAct_72 : decode cX1_doAct 72 = .ok (.aload_n 0, 1) := by decide +kernel
theorem dX1_doAct_73 : decode cX1_doAct 73 = .ok (.getfield 25, 3) := by decide +kernel
theorem dX1_doAct_76 : decode cX1_doAct 76 = .ok (.iload_n 3, 1) := by decide +kernel
theorem dX1_doAct_77 : decode cX1_doAct 77 = .ok (.aload_n 0, 1) := by decide +kernel
theorem dX1_doAct_78 : decode cX1_doAct 78 = .ok (.getfield 25, 3) := by decide +kernel
theorem dX1_doAct_81 : decode cX1_doAct 81 = .ok (.iload_n 3, 1) := by decide +kernel
theorem dX1_doAct_82 : decode cX1_doAct 82 = .ok (.baload, 1) := by decide +kernel
theorem dX1_doAct_83 : decode cX1_doAct 83 = .ok (.ifCond .ne 7, 3) := by decide +kernel
theorem dX1_doAct_86 : decode cX1_doAct 86 = .ok (.iconst 1, 1) := by decide +kernel
theorem dX1_doAct_87 : decode cX1_doAct 87 = .ok (.goto 4, 3) := by decide +kernel
theorem dX1_doAct_90 : decode cX1_doAct 90 = .ok (.iconst 0, 1) := by decide +kernel
theorem dX1_doAct_91 : decode cX1_doAct 91 = .ok (.bastore, 1) := by decide +kernel
theorem dX1_doAct_92 : decode cX1_doAct 92 = .ok (.goto 23, 3) := by decide +kernel
theorem dX1_doAct_95 : decode cX1_doAct 95 = .ok (.aload_n 0, 1) := by decide +kernel
theorem dX1_doAct_96 : decode cX1_doAct 96 = .ok (.getfield 25, 3) := by decide +kernel
theorem dX1_doAct_99 : decode cX1_doAct 99 = .ok (.iload_n 3, 1) := by decide +kernel
theorem dX1_doAct_100 : decode cX1_doAct 100 = .ok (.aload_n 1, 1) := by decide +kernel
theorem dX1_doAct_101 : decode cX1_doAct 101 = .ok (.getfield 103, 3) := by decide +kernel
theorem dX1_doAct_104 : decode cX1_doAct 104 = .ok (.iload_n 2, 1) := by decide +kernel
theorem dX1_doAct_105 : decode cX1_doAct 105 = .ok (.iaload, 1) := by decide +kernel
theorem dX1_doAct_106 : decode cX1_doAct 106 = .ok (.ifCond .ne 7, 3) := by decide +kernel
theorem dX1_doAct_109 : decode cX1_doAct 109 = .ok (.iconst 1, 1) := by decide +kernel
theorem dX1_doAct_110 : decode cX1_doAct 110 = .ok (.goto 4, 3) := by decide +kernel
theorem dX1_doAct_113 : decode cX1_doAct 113 = .ok (.iconst 0, 1) := by decide +kernel
theorem dX1_doAct_114 : decode cX1_doAct 114 = .ok (.bastore, 1) := by decide +kernel
theorem dX1_doAct_115 : decode cX1_doAct 115 = .ok (.return_, 1) := by decide +kernel
theorem dX1_keepBetweenBars_0 : decode cX1_keepBetweenBars 0 = .ok (.aload_n 0, 1) := by decide +kernel
theorem dX1_keepBetweenBars_1 : decode cX1_keepBetweenBars 1 = .ok (.getfield 18, 3) := by decide +kernel
theorem dX1_keepBetweenBars_4 : decode cX1_keepBetweenBars 4 = .ok (.iload_n 2, 1) := by decide +kernel
theorem dX1_keepBetweenBars_5 : decode cX1_keepBetweenBars 5 = .ok (.laload, 1) := by decide +kernel
theorem dX1_keepBetweenBars_6 : decode cX1_keepBetweenBars 6 = .ok (.aload_n 1, 1) := by decide +kernel
theorem dX1_keepBetweenBars_7 : decode cX1_keepBetweenBars 7 = .ok (.getfield 68, 3) := by decide +kernel
theorem dX1_keepBetweenBars_10 : decode cX1_keepBetweenBars 10 = .ok (.iload_n 2, 1) := by decide +kernel
theorem dX1_keepBetweenBars_11 : decode cX1_keepBetweenBars 11 = .ok (.iaload, 1) := by decide +kernel
theorem dX1_keepBetweenBars_12 : decode cX1_keepBetweenBars 12 = .ok (.i2l, 1) := by decide +kernel
theorem dX1_keepBetweenBars_13 : decode cX1_keepBetweenBars 13 = .ok (.aload_n 0, 1) := by decide +kernel
theorem dX1_keepBetweenBars_14 : decode cX1_keepBetweenBars 14 = .ok (.getfield 22, 3) := by decide +kernel
theorem dX1_keepBetweenBars_17 : decode cX1_keepBetweenBars 17 = .ok (.iload_n 2, 1) := by decide +kernel
theorem dX1_keepBetweenBars_18 : decode cX1_keepBetweenBars 18 = .ok (.laload, 1) := by decide +kernel
theorem dX1_keepBetweenBars_19 : decode cX1_keepBetweenBars 19 = .ok (.lmul, 1) := by decide +kernel
theorem dX1_keepBetweenBars_20 : decode cX1_keepBetweenBars 20 = .ok (.lcmp, 1) := by decide +kernel
theorem dX1_keepBetweenBars_21 : decode cX1_keepBetweenBars 21 = .ok (.ifCond .le 26, 3) := by decide +kernel
theorem dX1_keepBetweenBars_24 : decode cX1_keepBetweenBars 24 = .ok (.aload_n 0, 1) := by decide +kernel
theorem dX1_keepBetweenBars_25 : decode cX1_keepBetweenBars 25 = .ok (.getfield 18, 3) := by decide +kernel
theorem dX1_keepBetweenBars_28 : decode cX1_keepBetweenBars 28 = .ok (.iload_n 2, 1) := by decide +kernel
theorem dX1_keepBetweenBars_29 : decode cX1_keepBetweenBars 29 = .ok (.aload_n 1, 1) := by decide +kernel
theorem dX1_keepBetweenBars_30 : decode cX1_keepBetweenBars 30 = .ok (.getfield 68, 3) := by decide +kernel
theorem dX1_keepBetweenBars_33 : decode cX1_keepBetweenBars 33 = .ok (.iload_n 2, 1) := by decide +kernel
theorem dX1_keepBetweenBars_34 : decode cX1_keepBetweenBars 34 = .ok (.iaload, 1) := by decide +kernel
theorem dX1_keepBetweenBars_35 : decode cX1_keepBetweenBars 35 = .ok (.i2l, 1) := by decide +kernel
theorem dX1_keepBetweenBars_36 : decode cX1_keepBetweenBars 36 = .ok (.lastore, 1) := by decide +kernel
theorem dX1_keepBetweenBars_37 : decode cX1_keepBetweenBars 37 = .ok (.aload_n 0, 1) := by decide +kernel
theorem dX1_keepBetweenBars_38 : decode cX1_keepBetweenBars 38 = .ok (.getfield 22, 3) := by decide +kernel
theorem dX1_keepBetweenBars_41 : decode cX1_keepBetweenBars 41 = .ok (.iload_n 2, 1) := by decide +kernel
theorem dX1_keepBetweenBars_42 : decode cX1_keepBetweenBars 42 = .ok (.lconst 1, 1) := by decide +kernel
theorem dX1_keepBetweenBars_43 : decode cX1_keepBetweenBars 43 = .ok (.lastore, 1) := by decide +kernel
theorem dX1_keepBetweenBars_44 : decode cX1_keepBetweenBars 44 = .ok (.goto 47, 3) := by decide +kernel
theorem dX1_keepBetweenBars_47 : decode cX1_keepBetweenBars 47 = .ok (.aload_n 0, 1) := by decide +kernel
theorem dX1_keepBetweenBars_48 : decode cX1_keepBetweenBars 48 = .ok (.getfield 18, 3) := by decide +kernel
theorem dX1_keepBetweenBars_51 : decode cX1_keepBetweenBars 51 = .ok (.iload_n 2, 1) := by decide +kernel
theorem dX1_keepBetweenBars_52 : decode cX1_keepBetweenBars 52 = .ok (.laload, 1) := by decide +kernel
theorem dX1_keepBetweenBars_53 : decode cX1_keepBetweenBars 53 = .ok (.aload_n 1, 1) := by decide +kernel
theorem dX1_keepBetweenBars_54 : decode cX1_keepBetweenBars 54 = .ok (.getfield 46, 3) := by decide +kernel
theorem dX1_keepBetweenBars_57 : decode cX1_keepBetweenBars 57 = .ok (.iload_n 2, 1) := by decide +kernel
theorem dX1_keepBetweenBars_58 : decode cX1_keepBetweenBars 58 = .ok (.iaload, 1) := by decide +kernel
theorem dX1_keepBetweenBars_59 : decode cX1_keepBetweenBars 59 = .ok (.i2l, 1) := by decide +kernel
theorem dX1_keepBetweenBars_60 : decode cX1_keepBetweenBars 60 = .ok (.aload_n 0, 1) := by decide +kernel
theorem dX1_keepBetweenBars_61 : decode cX1_keepBetweenBars 61 = .ok (.getfield 22, 3) := by decide +kernel
theorem dX1_keepBetweenBars_64 : decode cX1_keepBetweenBars 64 = .ok (.iload_n 2, 1) := by decide +kernel
theorem dX1_keepBetweenBars_65 : decode cX1_keepBetweenBars 65 = .ok (.laload, 1) := by decide +kernel
theorem dX1_keepBetweenBars_66 : decode cX1_keepBetweenBars 66 = .ok (.lmul, 1) := by decide +kernel
theorem dX1_keepBetweenBars_67 : decode cX1_keepBetweenBars 67 = .ok (.lcmp, 1) := by decide +kernel
theorem dX1_keepBetweenBars_68 : decode cX1_keepBetweenBars 68 = .ok (.ifCond .ge 23, 3) := by decide +kernel
theorem dX1_keepBetweenBars_71 : decode cX1_keepBetweenBars 71 = .ok (.aload_n 0, 1) := by decide +kernel
theorem dX1_keepBetweenBars_72 : decode cX1_keepBetweenBars 72 = .ok (.getfield 18, 3) := by decide +kernel
theorem dX1_keepBetweenBars_75 : decode cX1_keepBetweenBars 75 = .ok (.iload_n 2, 1) := by decide +kernel
theorem dX1_keepBetweenBars_76 : decode cX1_keepBetweenBars 76 = .ok (.aload_n 1, 1) := by decide +kernel
theorem dX1_keepBetweenBars_77 : decode cX1_keepBetweenBars 77 = .ok (.getfield 46, 3) := by decide +kernel
theorem dX1_keepBetweenBars_80 : decode cX1_keepBetweenBars 80 = .ok (.iload_n 2, 1) := by decide +kernel
theorem dX1_keepBetweenBars_81 : decode cX1_keepBetweenBars 81 = .ok (.iaload, 1) := by decide +kernel
theorem dX1_keepBetweenBars_82 : decode cX1_keepBetweenBars 82 = .ok (.i2l, 1) := by decide +kernel
theorem dX1_keepBetweenBars_83 : decode cX1_keepBetweenBars 83 = .ok (.lastore, 1) := by decide +kernel
theorem dX1_keepBetweenBars_84 : decode cX1_keepBetweenBars 84 = .ok (.aload_n 0, 1) := by decide +kernel
theorem dX1_keepBetweenBars_85 : decode cX1_keepBetweenBars 85 = .ok (.getfield 22, 3) := by decide +kernel
theorem dX1_keepBetweenBars_88 : decode cX1_keepBetweenBars 88 = .ok (.iload_n 2, 1) := by decide +kernel
theorem dX1_keepBetweenBars_89 : decode cX1_keepBetweenBars 89 = .ok (.lconst 1, 1) := by decide +kernel
theorem dX1_keepBetweenBars_90 : decode cX1_keepBetweenBars 90 = .ok (.lastore, 1) := by decide +kernel
theorem dX1_keepBetweenBars_91 : decode cX1_keepBetweenBars 91 = .ok (.return_, 1) := by decide +kernel
set_option maxRecDepth 20000 in
theorem ggX1_isSpent_X1_isTooLong : GoodIn wsX1_isSpent wsX1_isTooLong := goodIn_r _ [9, 10, 11] (by decide +kernel) (by decide +kernel)
set_option maxRecDepth 20000 in
theorem gX1_isSpent_X1_isTooLong : GoodIn wsX1_isSpent (va_wsS RX1 109 yX1_isTooLong wsX1_isTooLong) := goodIn_app (goodIn_of _ (by decide +kernel)) ggX1_isSpent_X1_isTooLong
theorem dX1_isSpent_0 : decode cX1_isSpent 0 = .ok (.aload_n 0, 1) := by decide +kernel
theorem dX1_isSpent_1 : decode cX1_isSpent 1 = .ok (.getfield 9, 3) := by decide +kernel
theorem dX1_isSpent_4 : decode cX1_isSpent 4 = .ok (.aload_n 0, 1) := by decide +kernel
theorem dX1_isSpent_5 : decode cX1_isSpent 5 = .ok (.getfield 15, 3) := by decide +kernel
theorem dX1_isSpent_8 : decode cX1_isSpent 8 = .ok (.invokestatic 109, 3) := by decide +kernel
theorem dX1_isSpent_11 : decode cX1_isSpent 11 = .ok (.ifCond .eq 5, 3) := by decide +kernel
theorem dX1_isSpent_14 : decode cX1_isSpent 14 = .ok (.iconst 1, 1) := by decide +kernel
theorem dX1_isSpent_15 : decode cX1_isSpent 15 = .ok (.ireturn, 1) := by decide +kernel
theorem dX1_isSpent_16 : decode cX1_isSpent 16 = .ok (.iconst 0, 1) := by decide +kernel
theorem dX1_isSpent_17 : decode cX1_isSpent 17 = .ok (.istore_n 2, 1) := by decide +kernel
theorem dX1_isSpent_18 : decode cX1_isSpent 18 = .ok (.iload_n 2, 1) := by decide +kernel
theorem dX1_isSpent_19 : decode cX1_isSpent 19 = .ok (.aload_n 1, 1) := by decide +kernel
theorem dX1_isSpent_20 : decode cX1_isSpent 20 = .ok (.getfield 51, 3) := by decide +kernel
theorem dX1_isSpent_23 : decode cX1_isSpent 23 = .ok (.if_icmp .ge 29, 3) := by decide +kernel
theorem dX1_isSpent_26 : decode cX1_isSpent 26 = .ok (.aload_n 0, 1) := by decide +kernel
theorem dX1_isSpent_27 : decode cX1_isSpent 27 = .ok (.getfield 18, 3) := by decide +kernel
theorem dX1_isSpent_30 : decode cX1_isSpent 30 = .ok (.iload_n 2, 1) := by decide +kernel
theorem dX1_isSpent_31 : decode cX1_isSpent 31 = .ok (.laload, 1) := by decide +kernel
theorem dX1_isSpent_32 : decode cX1_isSpent 32 = .ok (.aload_n 0, 1) := by decide +kernel
theorem dX1_isSpent_33 : decode cX1_isSpent 33 = .ok (.getfield 22, 3) := by decide +kernel
theorem dX1_isSpent_36 : decode cX1_isSpent 36 = .ok (.iload_n 2, 1) := by decide +kernel
theorem dX1_isSpent_37 : decode cX1_isSpent 37 = .ok (.laload, 1) := by decide +kernel
theorem dX1_isSpent_38 : decode cX1_isSpent 38 = .ok (.invokestatic 109, 3) := by decide +kernel
theorem dX1_isSpent_41 : decode cX1_isSpent 41 = .ok (.ifCond .eq 5, 3) := by decide +kernel
theorem dX1_isSpent_44 : decode cX1_isSpent 44 = .ok (.iconst 1, 1) := by decide +kernel
theorem dX1_isSpent_45 : decode cX1_isSpent 45 = .ok (.ireturn, 1) := by decide +kernel
theorem dX1_isSpent_46 : decode cX1_isSpent 46 = .ok (.iinc 2 1, 3) := by decide +kernel
theorem dX1_isSpent_49 : decode cX1_isSpent 49 = .ok (.goto (-31), 3) := by decide +kernel
theorem dX1_isSpent_52 : decode cX1_isSpent 52 = .ok (.iconst 0, 1) := by decide +kernel
theorem dX1_isSpent_53 : decode cX1_isSpent 53 = .ok (.ireturn, 1) := by decide +kernel
theorem dX1_isTooLong_0 : decode cX1_isTooLong 0 = .ok (.lload_n 0, 1) := by decide +kernel
theorem dX1_isTooLong_1 : decode cX1_isTooLong 1 = .ok (.ldc2_w 113, 3) := by decide +kernel
theorem dX1_isTooLong_4 : decode cX1_isTooLong 4 = .ok (.lcmp, 1) := by decide +kernel
theorem dX1_isTooLong_5 : decode cX1_isTooLong 5 = .ok (.ifCond .gt 19, 3) := by decide +kernel
theorem dX1_isTooLong_8 : decode cX1_isTooLong 8 = .ok (.lload_n 0, 1) := by decide +kernel
theorem dX1_isTooLong_9 : decode cX1_isTooLong 9 = .ok (.ldc2_w 115, 3) := by decide +kernel
theorem dX1_isTooLong_12 : decode cX1_isTooLong 12 = .ok (.lcmp, 1) := by decide +kernel
theorem dX1_isTooLong_13 : decode cX1_isTooLong 13 = .ok (.ifCond .lt 11, 3) := by decide +kernel
theorem dX1_isTooLong_16 : decode cX1_isTooLong 16 = .ok (.lload_n 2, 1) := by decide +kernel
theorem dX1_isTooLong_17 : decode cX1_isTooLong 17 = .ok (.ldc2_w 113, 3) := by decide +kernel
theorem dX1_isTooLong_20 : decode cX1_isTooLong 20 = .ok (.lcmp, 1) := by decide +kernel
theorem dX1_isTooLong_21 : decode cX1_isTooLong 21 = .ok (.ifCond .le 7, 3) := by decide +kernel
theorem dX1_isTooLong_24 : decode cX1_isTooLong 24 = .ok (.iconst 1, 1) := by decide +kernel
theorem dX1_isTooLong_25 : decode cX1_isTooLong 25 = .ok (.goto 4, 3) := by decide +kernel
theorem dX1_isTooLong_28 : decode cX1_isTooLong 28 = .ok (.iconst 0, 1) := by decide +kernel
theorem dX1_isTooLong_29 : decode cX1_isTooLong 29 = .ok (.ireturn, 1) := by decide +kernel
set_option maxRecDepth 20000 in
theorem ggX1_packedEvent_X2_packed : GoodIn wsX1_packedEvent wsX2_packed := goodIn_r _ [7] (by decide +kernel) (by decide +kernel)
set_option maxRecDepth 20000 in
theorem gX1_packedEvent_X2_packed_n117 : GoodIn wsX1_packedEvent (wsX2_packed) := ggX1_packedEvent_X2_packed
theorem dX1_packedEvent_0 : decode cX1_packedEvent 0 = .ok (.aload_n 0, 1) := by decide +kernel
theorem dX1_packedEvent_1 : decode cX1_packedEvent 1 = .ok (.getfield 9, 3) := by decide +kernel
theorem dX1_packedEvent_4 : decode cX1_packedEvent 4 = .ok (.aload_n 0, 1) := by decide +kernel
theorem dX1_packedEvent_5 : decode cX1_packedEvent 5 = .ok (.getfield 15, 3) := by decide +kernel
theorem dX1_packedEvent_8 : decode cX1_packedEvent 8 = .ok (.invokestatic 117, 3) := by decide +kernel
theorem dX1_packedEvent_11 : decode cX1_packedEvent 11 = .ok (.iconst 3, 1) := by decide +kernel
theorem dX1_packedEvent_12 : decode cX1_packedEvent 12 = .ok (.lshl, 1) := by decide +kernel
theorem dX1_packedEvent_13 : decode cX1_packedEvent 13 = .ok (.aload_n 0, 1) := by decide +kernel
theorem dX1_packedEvent_14 : decode cX1_packedEvent 14 = .ok (.getfield 33, 3) := by decide +kernel
theorem dX1_packedEvent_17 : decode cX1_packedEvent 17 = .ok (.iconst 2, 1) := by decide +kernel
theorem dX1_packedEvent_18 : decode cX1_packedEvent 18 = .ok (.imul, 1) := by decide +kernel
theorem dX1_packedEvent_19 : decode cX1_packedEvent 19 = .ok (.i2l, 1) := by decide +kernel
theorem dX1_packedEvent_20 : decode cX1_packedEvent 20 = .ok (.ladd, 1) := by decide +kernel
theorem dX1_packedEvent_21 : decode cX1_packedEvent 21 = .ok (.aload_n 0, 1) := by decide +kernel
theorem dX1_packedEvent_22 : decode cX1_packedEvent 22 = .ok (.getfield 37, 3) := by decide +kernel
theorem dX1_packedEvent_25 : decode cX1_packedEvent 25 = .ok (.i2l, 1) := by decide +kernel
theorem dX1_packedEvent_26 : decode cX1_packedEvent 26 = .ok (.ladd, 1) := by decide +kernel
theorem dX1_packedEvent_27 : decode cX1_packedEvent 27 = .ok (.lreturn, 1) := by decide +kernel
theorem dX1_packedMarks_0 : decode cX1_packedMarks 0 = .ok (.lconst 0, 1) := by decide +kernel
theorem dX1_packedMarks_1 : decode cX1_packedMarks 1 = .ok (.lstore_n 1, 1) := by decide +kernel
theorem dX1_packedMarks_2 : decode cX1_packedMarks 2 = .ok (.iconst 0, 1) := by decide +kernel
theorem dX1_packedMarks_3 : decode cX1_packedMarks 3 = .ok (.istore_n 3, 1) := by decide +kernel
theorem dX1_packedMarks_4 : decode cX1_packedMarks 4 = .ok (.iload_n 3, 1) := by decide +kernel
theorem dX1_packedMarks_5 : decode cX1_packedMarks 5 = .ok (.iconst 4, 1) := by decide +kernel
theorem dX1_packedMarks_6 : decode cX1_packedMarks 6 = .ok (.if_icmp .ge 31, 3) := by decide +kernel
theorem dX1_packedMarks_9 : decode cX1_packedMarks 9 = .ok (.lload_n 1, 1) := by decide +kernel
theorem dX1_packedMarks_10 : decode cX1_packedMarks 10 = .ok (.ldc2_w 120, 3) := by decide +kernel
theorem dX1_packedMarks_13 : decode cX1_packedMarks 13 = .ok (.lmul, 1) := by decide +kernel
theorem dX1_packedMarks_14 : decode cX1_packedMarks 14 = .ok (.aload_n 0, 1) := by decide +kernel
theorem dX1_packedMarks_15 : decode cX1_packedMarks 15 = .ok (.getfield 25, 3) := by decide +kernel
theorem dX1_packedMarks_18 : decode cX1_packedMarks 18 = .ok (.iload_n 3, 1) := by decide +kernel
theorem dX1_packedMarks_19 : decode cX1_packedMarks 19 = .ok (.baload, 1) := by decide +kernel
theorem dX1_packedMarks_20 : decode cX1_packedMarks 20 = .ok (.ifCond .eq 7, 3) := by decide +kernel
theorem dX1_packedMarks_23 : decode cX1_packedMarks 23 = .ok (.iconst 1, 1) := by decide +kernel
theorem dX1_packedMarks_24 : decode cX1_packedMarks 24 = .ok (.goto 4, 3) := by decide +kernel
theorem dX1_packedMarks_27 : decode cX1_packedMarks 27 = .ok (.iconst 0, 1) := by decide +kernel
theorem dX1_packedMarks_28 : decode cX1_packedMarks 28 = .ok (.i2l, 1) := by decide +kernel
theorem dX1_packedMarks_29 : decode cX1_packedMarks 29 = .ok (.ladd, 1) := by decide +kernel
theorem dX1_packedMarks_30 : decode cX1_packedMarks 30 = .ok (.lstore_n 1, 1) := by decide +kernel
theorem dX1_packedMarks_31 : decode cX1_packedMarks 31 = .ok (.iinc 3 1, 3) := by decide +kernel
theorem dX1_packedMarks_34 : decode cX1_packedMarks 34 = .ok (.goto (-30), 3) := by decide +kernel
theorem dX1_packedMarks_37 : decode cX1_packedMarks 37 = .ok (.iconst 0, 1) := by decide +kernel
theorem dX1_packedMarks_38 : decode cX1_packedMarks 38 = .ok (.istore_n 3, 1) := by decide +kernel
theorem dX1_packedMarks_39 : decode cX1_packedMarks 39 = .ok (.iload_n 3, 1) := by decide +kernel
theorem dX1_packedMarks_40 : decode cX1_packedMarks 40 = .ok (.bipush 8, 2) := by decide +kernel
theorem dX1_packedMarks_42 : decode cX1_packedMarks 42 = .ok (.if_icmp .ge 21, 3) := by decide +kernel
theorem dX1_packedMarks_45 : decode cX1_packedMarks 45 = .ok (.lload_n 1, 1) := by decide +kernel
theorem dX1_packedMarks_46 : decode cX1_packedMarks 46 = .ok (.iconst 4, 1) := by decide +kernel
theorem dX1_packedMarks_47 : decode cX1_packedMarks 47 = .ok (.lshl, 1) := by decide +kernel
theorem dX1_packedMarks_48 : decode cX1_packedMarks 48 = .ok (.aload_n 0, 1) := by decide +kernel
theorem dX1_packedMarks_49 : decode cX1_packedMarks 49 = .ok (.getfield 29, 3) := by decide +kernel
theorem dX1_packedMarks_52 : decode cX1_packedMarks 52 = .ok (.iload_n 3, 1) := by decide +kernel
theorem dX1_packedMarks_53 : decode cX1_packedMarks 53 = .ok (.iaload, 1) := by decide +kernel
theorem dX1_packedMarks_54 : decode cX1_packedMarks 54 = .ok (.i2l, 1) := by decide +kernel
theorem dX1_packedMarks_55 : decode cX1_packedMarks 55 = .ok (.ladd, 1) := by decide +kernel
theorem dX1_packedMarks_56 : decode cX1_packedMarks 56 = .ok (.lstore_n 1, 1) := by decide +kernel
theorem dX1_packedMarks_57 : decode cX1_packedMarks 57 = .ok (.iinc 3 1, 3) := by decide +kernel
theorem dX1_packedMarks_60 : decode cX1_packedMarks 60 = .ok (.goto (-21), 3) := by decide +kernel
theorem dX1_packedMarks_63 : decode cX1_packedMarks 63 = .ok (.lload_n 1, 1) := by decide +kernel
theorem dX1_packedMarks_64 : decode cX1_packedMarks 64 = .ok (.lreturn, 1) := by decide +kernel
set_option maxRecDepth 20000 in
theorem ggX2_init_X0_init : GoodIn wsX2_init wsX0_init := goodIn_r _ [30, 31, 2, 3, 32, 14, 33, 34, 35, 36, 37, 38, 39, 40, 41, 42, 43, 58, 59, 60, 61, 62, 63, 64, 65, 66, 67, 68, 69] (by decide +kernel) (by decide +kernel)
set_option maxRecDepth 20000 in
theorem gX2_init_X0_init_n11 : GoodIn wsX2_init (wsX0_init) := ggX2_init_X0_init
set_option maxRecDepth 20000 in
theorem ggX2_init_X1_init : GoodIn wsX2_init wsX1_init := goodIn_r _ [45, 46, 2, 3, 47, 48, 17, 49, 50, 51, 52, 14, 53, 54, 55, 56, 57, 87, 88, 89, 90, 91, 92, 93, 94, 95, 96] (by decide +kernel) (by decide +kernel)
set_option maxRecDepth 20000 in
theorem gX2_init_X1_init_n18 : GoodIn wsX2_init (wsX1_init) := ggX2_init_X1_init
theorem dX2_init_0 : decode cX2_init 0 = .ok (.aload_n 0, 1) := by decide +kernel
theorem dX2_init_1 : decode cX2_init 1 = .ok (.invokespecial 3, 3) := by decide +kernel
theorem dX2_init_4 : decode cX2_init 4 = .ok (.aload_n 0, 1) := by decide +kernel
theorem dX2_init_5 : decode cX2_init 5 = .ok (.new 9, 3) := by decide +kernel
theorem dX2_init_8 : decode cX2_init 8 = .ok (.dup, 1) := by decide +kernel
theorem dX2_init_9 : decode cX2_init 9 = .ok (.invokespecial 11, 3) := by decide +kernel
theorem dX2_init_12 : decode cX2_init 12 = .ok (.putfield 12, 3) := by decide +kernel
theorem dX2_init_15 : decode cX2_init 15 = .ok (.aload_n 0, 1) := by decide +kernel
theorem dX2_init_16 : decode cX2_init 16 = .ok (.new 16, 3) := by decide +kernel
theorem dX2_init_19 : decode cX2_init 19 = .ok (.dup, 1) := by decide +kernel
theorem dX2_init_20 : decode cX2_init 20 = .ok (.invokespecial 18, 3) := by decide +kernel
theorem dX2_init_23 : decode cX2_init 23 = .ok (.putfield 19, 3) := by decide +kernel
theorem dX2_init_26 : decode cX2_init 26 = .ok (.aload_n 0, 1) := by decide +kernel
theorem dX2_init_27 : decode cX2_init 27 = .ok (.new 16, 3) := by decide +kernel
theorem dX2_init_30 : decode cX2_init 30 = .ok (.dup, 1) := by decide +kernel
theorem dX2_init_31 : decode cX2_init 31 = .ok (.invokespecial 18, 3) := by decide +kernel
theorem dX2_init_34 : decode cX2_init 34 = .ok (.putfield 23, 3) := by decide +kernel
theorem dX2_init_37 : decode cX2_init 37 = .ok (.aload_n 0, 1) := by decide +kernel
theorem dX2_init_38 : decode cX2_init 38 = .ok (.iconst 0, 1) := by decide +kernel
theorem dX2_init_39 : decode cX2_init 39 = .ok (.putfield 26, 3) := by decide +kernel
theorem dX2_init_42 : decode cX2_init 42 = .ok (.aload_n 0, 1) := by decide +kernel
theorem dX2_init_43 : decode cX2_init 43 = .ok (.iconst 4, 1) := by decide +kernel
theorem dX2_init_44 : decode cX2_init 44 = .ok (.newarray .int, 2) := by decide +kernel
theorem dX2_init_46 : decode cX2_init 46 = .ok (.putfield 30, 3) := by decide +kernel
theorem dX2_init_49 : decode cX2_init 49 = .ok (.aload_n 0, 1) := by decide +kernel
theorem dX2_init_50 : decode cX2_init 50 = .ok (.iconst 4, 1) := by decide +kernel
theorem dX2_init_51 : decode cX2_init 51 = .ok (.newarray .int, 2) := by decide +kernel
theorem dX2_init_53 : decode cX2_init 53 = .ok (.putfield 34, 3) := by decide +kernel
theorem dX2_init_56 : decode cX2_init 56 = .ok (.aload_n 0, 1) := by decide +kernel
theorem dX2_init_57 : decode cX2_init 57 = .ok (.sipush 500, 3) := by decide +kernel
theorem dX2_init_60 : decode cX2_init 60 = .ok (.newarray .long, 2) := by decide +kernel
theorem dX2_init_62 : decode cX2_init 62 = .ok (.putfield 37, 3) := by decide +kernel
theorem dX2_init_65 : decode cX2_init 65 = .ok (.aload_n 0, 1) := by decide +kernel
theorem dX2_init_66 : decode cX2_init 66 = .ok (.sipush 1806, 3) := by decide +kernel
theorem dX2_init_69 : decode cX2_init 69 = .ok (.newarray .long, 2) := by decide +kernel
theorem dX2_init_71 : decode cX2_init 71 = .ok (.putfield 41, 3) := by decide +kernel
theorem dX2_init_74 : decode cX2_init 74 = .ok (.aload_n 0, 1) := by decide +kernel
theorem dX2_init_75 : decode cX2_init 75 = .ok (.bipush 8, 2) := by decide +kernel
theorem dX2_init_77 : decode cX2_init 77 = .ok (.newarray .long, 2) := by decide +kernel
theorem dX2_init_79 : decode cX2_init 79 = .ok (.putfield 44, 3) := by decide +kernel
theorem dX2_init_82 : decode cX2_init 82 = .ok (.aload_n 0, 1) := by decide +kernel
theorem dX2_init_83 : decode cX2_init 83 = .ok (.iconst 0, 1) := by decide +kernel
theorem dX2_init_84 : decode cX2_init 84 = .ok (.putfield 47, 3) := by decide +kernel
theorem dX2_init_87 : decode cX2_init 87 = .ok (.aload_n 0, 1) := by decide +kernel
theorem dX2_init_88 : decode cX2_init 88 = .ok (.bipush 10, 2) := by decide +kernel
theorem dX2_init_90 : decode cX2_init 90 = .ok (.newarray .int, 2) := by decide +kernel
theorem dX2_init_92 : decode cX2_init 92 = .ok (.putfield 51, 3) := by decide +kernel
theorem dX2_init_95 : decode cX2_init 95 = .ok (.aload_n 0, 1) := by decide +kernel
theorem dX2_init_96 : decode cX2_init 96 = .ok (.iconst 0, 1) := by decide +kernel
theorem dX2_init_97 : decode cX2_init 97 = .ok (.putfield 54, 3) := by decide +kernel
theorem dX2_init_100 : decode cX2_init 100 = .ok (.aload_n 0, 1) := by decide +kernel
theorem dX2_init_101 : decode cX2_init 101 = .ok (.bipush 8, 2) := by decide +kernel
theorem dX2_init_103 : decode cX2_init 103 = .ok (.newarray .int, 2) := by decide +kernel
theorem dX2_init_105 : decode cX2_init 105 = .ok (.putfield 57, 3) := by decide +kernel
theorem dX2_init_108 : decode cX2_init 108 = .ok (.aload_n 0, 1) := by decide +kernel
theorem dX2_init_109 : decode cX2_init 109 = .ok (.bipush 8, 2) := by decide +kernel
theorem dX2_init_111 : decode cX2_init 111 = .ok (.newarray .int, 2) := by decide +kernel
theorem dX2_init_113 : decode cX2_init 113 = .ok (.putfield 60, 3) := by decide +kernel
theorem dX2_init_116 : decode cX2_init 116 = .ok (.aload_n 0, 1) := by decide +kernel
theorem dX2_init_117 : decode cX2_init 117 = .ok (.iconst 0, 1) := by decide +kernel
theorem dX2_init_118 : decode cX2_init 118 = .ok (.putfield 63, 3) := by decide +kernel
theorem dX2_init_121 : decode cX2_init 121 = .ok (.aload_n 0, 1) := by decide +kernel
theorem dX2_init_122 : decode cX2_init 122 = .ok (.bipush 100, 2) := by decide +kernel
theorem dX2_init_124 : decode cX2_init 124 = .ok (.newarray .int, 2) := by decide +kernel
theorem dX2_init_126 : decode cX2_init 126 = .ok (.putfield 66, 3) := by decide +kernel
theorem dX2_init_129 : decode cX2_init 129 = .ok (.aload_n 0, 1) := by decide +kernel
theorem dX2_init_130 : decode cX2_init 130 = .ok (.bipush 80, 2) := by decide +kernel
theorem dX2_init_132 : decode cX2_init 132 = .ok (.newarray .int, 2) := by decide +kernel
theorem dX2_init_134 : decode cX2_init 134 = .ok (.putfield 69, 3) := by decide +kernel
theorem dX2_init_137 : decode cX2_init 137 = .ok (.return_, 1) := by decide +kernel
set_option maxRecDepth 20000 in
theorem ggX2_cell_X2_isRate : GoodIn wsX2_cell wsX2_isRate := goodIn_r _ [10] (by decide +kernel) (by decide +kernel)
set_option maxRecDepth 20000 in
theorem gX2_cell_X2_isRate : GoodIn wsX2_cell (va_wsS RX2 72 yX2_isRate wsX2_isRate) := goodIn_app (goodIn_of _ (by decide +kernel)) ggX2_cell_X2_isRate
set_option maxRecDepth 20000 in
theorem ggX2_cell_X2_startAgain : GoodIn wsX2_cell wsX2_startAgain := goodIn_r _ [14, 15, 1, 16, 17, 18, 19, 20, 21, 22, 23, 24, 25, 26, 27, 28, 29, 30, 31, 32, 33, 34, 35, 36, 37, 38, 39, 40, 41, 42, 43, 44, 45, 46, 47, 60, 61, 62, 63, 64, 65, 66, 67, 68, 69, 48, 49, 50, 51, 52, 53, 54, 55, 56, 57, 58, 59] (by decide +kernel) (by decide +kernel)
set_option maxRecDepth 20000 in
theorem gX2_cell_X2_startAgain : GoodIn wsX2_cell (wsV RX2 91 RX2 yX2_startAgain wsX2_startAgain) := goodIn_app (goodIn_of _ (by decide +kernel)) ggX2_cell_X2_startAgain
theorem dX2_cell_0 : decode cX2_cell 0 = .ok (.iload_n 1, 1) := by decide +kernel
theorem dX2_cell_1 : decode cX2_cell 1 = .ok (.bipush (-50), 2) := by decide +kernel
theorem dX2_cell_3 : decode cX2_cell 3 = .ok (.if_icmp .lt 18, 3) := by decide +kernel
theorem dX2_cell_6 : decode cX2_cell 6 = .ok (.iload_n 1, 1) := by decide +kernel
theorem dX2_cell_7 : decode cX2_cell 7 = .ok (.iload_n 2, 1) := by decide +kernel
theorem dX2_cell_8 : decode cX2_cell 8 = .ok (.if_icmp .ge 13, 3) := by decide +kernel
theorem dX2_cell_11 : decode cX2_cell 11 = .ok (.iload_n 2, 1) := by decide +kernel
theorem dX2_cell_12 : decode cX2_cell 12 = .ok (.bipush 50, 2) := by decide +kernel
theorem dX2_cell_14 : decode cX2_cell 14 = .ok (.if_icmp .gt 7, 3) := by decide +kernel
theorem dX2_cell_17 : decode cX2_cell 17 = .ok (.iconst 1, 1) := by decide +kernel
theorem dX2_cell_18 : decode cX2_cell 18 = .ok (.goto 4, 3) := by decide +kernel
theorem dX2_cell_21 : decode cX2_cell 21 = .ok (.iconst 0, 1) := by decide +kernel
theorem dX2_cell_22 : decode cX2_cell 22 = .ok (.istore 5, 2) := by decide +kernel
theorem dX2_cell_24 : decode cX2_cell 24 = .ok (.iload 5, 2) := by decide +kernel
theorem dX2_cell_26 : decode cX2_cell 26 = .ok (.ifCond .eq 29, 3) := by decide +kernel
theorem dX2_cell_29 : decode cX2_cell 29 = .ok (.iload_n 3, 1) := by decide +kernel
theorem dX2_cell_30 : decode cX2_cell 30 = .ok (.invokestatic 72, 3) := by decide +kernel
theorem dX2_cell_33 : decode cX2_cell 33 = .ok (.ifCond .eq 22, 3) := by decide +kernel
theorem dX2_cell_36 : decode cX2_cell 36 = .ok (.iload 4, 2) := by decide +kernel
theorem dX2_cell_38 : decode cX2_cell 38 = .ok (.invokestatic 72, 3) := by decide +kernel
theorem dX2_cell_41 : decode cX2_cell 41 = .ok (.ifCond .eq 14, 3) := by decide +kernel
theorem dX2_cell_44 : decode cX2_cell 44 = .ok (.aload_n 0, 1) := by decide +kernel
theorem dX2_cell_45 : decode cX2_cell 45 = .ok (.getfield 12, 3) := by decide +kernel
theorem dX2_cell_48 : decode cX2_cell 48 = .ok (.getfield 76, 3) := by decide +kernel
theorem dX2_cell_51 : decode cX2_cell 51 = .ok (.iconst 4, 1) := by decide +kernel
theorem dX2_cell_52 : decode cX2_cell 52 = .ok (.if_icmp .lt 5, 3) := by decide +kernel
theorem dX2_cell_55 : decode cX2_cell 55 = .ok (.iconst (-1), 1) := by decide +kernel
theorem dX2_cell_56 : decode cX2_cell 56 = .ok (.ireturn, 1) := by decide +kernel
theorem dX2_cell_57 : decode cX2_cell 57 = .ok (.aload_n 0, 1) := by decide +kernel
theorem dX2_cell_58 : decode cX2_cell 58 = .ok (.getfield 12, 3) := by decide +kernel
theorem dX2_cell_61 : decode cX2_cell 61 = .ok (.getfield 76, 3) := by decide +kernel
theorem dX2_cell_64 : decode cX2_cell 64 = .ok (.istore 6, 2) := by decide +kernel
theorem dX2_cell_66 : decode cX2_cell 66 = .ok (.aload_n 0, 1) := by decide +kernel
theorem dX2_cell_67 : decode cX2_cell 67 = .ok (.getfield 12, 3) := by decide +kernel
theorem dX2_cell_70 : decode cX2_cell 70 = .ok (.getfield 79, 3) := by decide +kernel
theorem dX2_cell_73 : decode cX2_cell 73 = .ok (.iload 6, 2) := by decide +kernel
theorem dX2_cell_75 : decode cX2_cell 75 = .ok (.iload_n 1, 1) := by decide +kernel
theorem dX2_cell_76 : decode cX2_cell 76 = .ok (.iastore, 1) := by decide +kernel
theorem dX2_cell_77 : decode cX2_cell 77 = .ok (.aload_n 0, 1) := by decide +kernel
theorem dX2_cell_78 : decode cX2_cell 78 = .ok (.getfield 12, 3) := by decide +kernel
theorem dX2_cell_81 : decode cX2_cell 81 = .ok (.getfield 82, 3) := by decide +kernel
theorem dX2_cell_84 : decode cX2_cell 84 = .ok (.iload 6, 2) := by decide +kernel
theorem dX2_cell_86 : decode cX2_cell 86 = .ok (.iload_n 2, 1) := by decide +kernel
theorem dX2_cell_87 : decode cX2_cell 87 = .ok (.iastore, 1) := by decide +kernel
theorem dX2_cell_88 : decode cX2_cell 88 = .ok (.aload_n 0, 1) := by decide +kernel
theorem dX2_cell_89 : decode cX2_cell 89 = .ok (.getfield 12, 3) := by decide +kernel
theorem dX2_cell_92 : decode cX2_cell 92 = .ok (.getfield 85, 3) := by decide +kernel
theorem dX2_cell_95 : decode cX2_cell 95 = .ok (.iload 6, 2) := by decide +kernel
theorem dX2_cell_97 : decode cX2_cell 97 = .ok (.iload_n 3, 1) := by decide +kernel
theorem dX2_cell_98 : decode cX2_cell 98 = .ok (.iastore, 1) := by decide +kernel
theorem dX2_cell_99 : decode cX2_cell 99 = .ok (.aload_n 0, 1) := by decide +kernel
theorem dX2_cell_100 : decode cX2_cell 100 = .ok (.getfield 12, 3) := by decide +kernel
theorem dX2_cell_103 : decode cX2_cell 103 = .ok (.getfield 88, 3) := by decide +kernel
theorem dX2_cell_106 : decode cX2_cell 106 = .ok (.iload 6, 2) := by decide +kernel
theorem dX2_cell_108 : decode cX2_cell 108 = .ok (.iload 4, 2) := by decide +kernel
theorem dX2_cell_110 : decode cX2_cell 110 = .ok (.iastore, 1) := by decide +kernel
theorem dX2_cell_111 : decode cX2_cell 111 = .ok (.aload_n 0, 1) := by decide +kernel
theorem dX2_cell_112 : decode cX2_cell 112 = .ok (.getfield 12, 3) := by decide +kernel
theorem dX2_cell_115 : decode cX2_cell 115 = .ok (.iload 6, 2) := by decide +kernel
theorem dX2_cell_117 : decode cX2_cell 117 = .ok (.iconst 1, 1) := by decide +kernel
theorem dX2_cell_118 : decode cX2_cell 118 = .ok (.iadd, 1) := by decide +kernel
theorem dX2_cell_119 : decode cX2_cell 119 = .ok (.putfield 76, 3) := by decide +kernel
theorem dX2_cell_122 : decode cX2_cell 122 = .ok (.aload_n 0, 1) := by decide +kernel
theorem dX2_cell_123 : decode cX2_cell 123 = .ok (.invokevirtual 91, 3) := by decide +kernel
theorem dX2_cell_126 : decode cX2_cell 126 = .ok (.iload 6, 2) := by decide +kernel
theorem dX2_cell_128 : decode cX2_cell 128 = .ok (.ireturn, 1) := by decide +kernel
set_option maxRecDepth 20000 in
theorem ggX2_link_X2_isCell : GoodIn wsX2_link wsX2_isCell := goodIn_r _ [13, 1, 14, 38, 39, 40, 41, 42, 43, 44, 45, 46, 47, 48, 49, 50, 51, 52, 53, 54, 55, 56, 57, 58, 59, 60, 61, 62, 63, 64, 65, 66] (by decide +kernel) (by decide +kernel)
set_option maxRecDepth 20000 in
theorem gX2_link_X2_isCell : GoodIn wsX2_link (wsV RX2 94 RX2 yX2_isCell wsX2_isCell) := goodIn_app (goodIn_of _ (by decide +kernel)) ggX2_link_X2_isCell
set_option maxRecDepth 20000 in
theorem ggX2_link_X2_isAct : GoodIn wsX2_link wsX2_isAct := goodIn_r _ [17] (by decide +kernel) (by decide +kernel)
set_option maxRecDepth 20000 in
theorem gX2_link_X2_isAct : GoodIn wsX2_link (va_wsS RX2 97 yX2_isAct wsX2_isAct) := goodIn_app (goodIn_of _ (by decide +kernel)) ggX2_link_X2_isAct
set_option maxRecDepth 20000 in
theorem ggX2_link_X2_startAgain : GoodIn wsX2_link wsX2_startAgain := goodIn_r _ [21, 22, 1, 23, 24, 25, 26, 27, 28, 29, 30, 31, 32, 33, 34, 35, 36, 37, 38, 39, 40, 41, 42, 43, 44, 45, 46, 47, 48, 49, 50, 51, 52, 53, 54, 67, 68, 69, 70, 71, 72, 73, 74, 75, 76, 55, 56, 57, 58, 59, 60, 61, 62, 63, 64, 65, 66] (by decide +kernel) (by decide +kernel)
set_option maxRecDepth 20000 in
theorem gX2_link_X2_startAgain : GoodIn wsX2_link (wsV RX2 91 RX2 yX2_startAgain wsX2_startAgain) := goodIn_app (goodIn_of _ (by decide +kernel)) ggX2_link_X2_startAgain
theorem dX2_link_0 : decode cX2_link 0 = .ok (.aload_n 0, 1) := by decide +kernel
theorem dX2_link_1 : decode cX2_link 1 = .ok (.iload_n 1, 1) := by decide +kernel
theorem dX2_link_2 : decode cX2_link 2 = .ok (.invokevirtual 94, 3) := by decide +kernel
theorem dX2_link_5 : decode cX2_link 5 = .ok (.ifCond .eq 32, 3) := by decide +kernel
theorem dX2_link_8 : decode cX2_link 8 = .ok (.aload_n 0, 1) := by decide +kernel
theorem dX2_link_9 : decode cX2_link 9 = .ok (.iload 4, 2) := by decide +kernel
theorem dX2_link_11 : decode cX2_link 11 = .ok (.invokevirtual 94, 3) := by decide +kernel
theorem dX2_link_14 : decode cX2_link 14 = .ok (.ifCond .eq 23, 3) := by decide +kernel
theorem dX2_link_17 : decode cX2_link 17 = .ok (.iload_n 2, 1) := by decide +kernel
theorem dX2_link_18 : decode cX2_link 18 = .ok (.ifCond .eq 8, 3) := by decide +kernel
theorem dX2_link_21 : decode cX2_link 21 = .ok (.iload_n 2, 1) := by decide +kernel
theorem dX2_link_22 : decode cX2_link 22 = .ok (.iconst 1, 1) := by decide +kernel
theorem dX2_link_23 : decode cX2_link 23 = .ok (.if_icmp .ne 14, 3) := by decide +kernel
theorem dX2_link_26 : decode cX2_link 26 = .ok (.iload_n 3, 1) := by decide +kernel
theorem dX2_link_27 : decode cX2_link 27 = .ok (.iconst 1, 1) := by decide +kernel
theorem dX2_link_28 : decode cX2_link 28 = .ok (.if_icmp .lt 9, 3) := by decide +kernel
theorem dX2_link_31 : decode cX2_link 31 = .ok (.iload_n 3, 1) := by decide +kernel
theorem dX2_link_32 : decode cX2_link 32 = .ok (.bipush 9, 2) := by decide +kernel
theorem dX2_link_34 : decode cX2_link 34 = .ok (.if_icmp .le 5, 3) := by decide +kernel
theorem dX2_link_37 : decode cX2_link 37 = .ok (.iconst (-1), 1) := by decide +kernel
theorem dX2_link_38 : decode cX2_link 38 = .ok (.ireturn, 1) := by decide +kernel
theorem dX2_link_39 : decode cX2_link 39 = .ok (.iload 5, 2) := by decide +kernel
theorem dX2_link_41 : decode cX2_link 41 = .ok (.iload 6, 2) := by decide +kernel
theorem dX2_link_43 : decode cX2_link 43 = .ok (.invokestatic 97, 3) := by decide +kernel
theorem dX2_link_46 : decode cX2_link 46 = .ok (.ifCond .eq 15, 3) := by decide +kernel
theorem dX2_link_49 : decode cX2_link 49 = .ok (.aload_n 0, 1) := by decide +kernel
theorem dX2_link_50 : decode cX2_link 50 = .ok (.getfield 12, 3) := by decide +kernel
theorem dX2_link_53 : decode cX2_link 53 = .ok (.getfield 101, 3) := by decide +kernel
theorem dX2_link_56 : decode cX2_link 56 = .ok (.bipush 8, 2) := by decide +kernel
theorem dX2_link_58 : decode cX2_link 58 = .ok (.if_icmp .lt 5, 3) := by decide +kernel
theorem dX2_link_61 : decode cX2_link 61 = .ok (.iconst (-1), 1) := by decide +kernel
theorem dX2_link_62 : decode cX2_link 62 = .ok (.ireturn, 1) := by decide +kernel
theorem dX2_link_63 : decode cX2_link 63 = .ok (.aload_n 0, 1) := by decide +kernel
theorem dX2_link_64 : decode cX2_link 64 = .ok (.getfield 12, 3) := by decide +kernel
theorem dX2_link_67 : decode cX2_link 67 = .ok (.getfield 101, 3) := by decide +kernel
theorem dX2_link_70 : decode cX2_link 70 = .ok (.istore 7, 2) := by decide +kernel
theorem dX2_link_72 : decode cX2_link 72 = .ok (.aload_n 0, 1) := by decide +kernel
theorem dX2_link_73 : decode cX2_link 73 = .ok (.getfield 12, 3) := by decide +kernel
theorem dX2_link_76 : decode cX2_link 76 = .ok (.getfield 104, 3) := by decide +kernel
theorem dX2_link_79 : decode cX2_link 79 = .ok (.iload 7, 2) := by decide +kernel
theorem dX2_link_81 : decode cX2_link 81 = .ok (.iload_n 1, 1) := by decide +kernel
theorem dX2_link_82 : decode cX2_link 82 = .ok (.iastore, 1) := by decide +kernel
theorem dX2_link_83 : decode cX2_link 83 = .ok (.aload_n 0, 1) := by decide +kernel
theorem dX2_link_84 : decode cX2_link 84 = .ok (.getfield 12, 3) := by decide +kernel
theorem dX2_link_87 : decode cX2_link 87 = .ok (.getfield 107, 3) := by decide +kernel
theorem dX2_link_90 : decode cX2_link 90 = .ok (.iload 7, 2) := by decide +kernel
theorem dX2_link_92 : decode cX2_link 92 = .ok (.iload_n 2, 1) := by decide +kernel
theorem dX2_link_93 : decode cX2_link 93 = .ok (.iastore, 1) := by decide +kernel
theorem dX2_link_94 : decode cX2_link 94 = .ok (.aload_n 0, 1) := by decide +kernel
theorem dX2_link_95 : decode cX2_link 95 = .ok (.getfield 12, 3) := by decide +kernel
theorem dX2_link_98 : decode cX2_link 98 = .ok (.getfield 110, 3) := by decide +kernel
theorem dX2_link_101 : decode cX2_link 101 = .ok (.iload 7, 2) := by decide +kernel
theorem dX2_link_103 : decode cX2_link 103 = .ok (.iload_n 3, 1) := by decide +kernel
theorem dX2_link_104 : decode cX2_link 104 = .ok (.iastore, 1) := by decide +kernel
theorem dX2_link_105 : decode cX2_link 105 = .ok (.aload_n 0, 1) := by decide +kernel
theorem dX2_link_106 : decode cX2_link 106 = .ok (.getfield 12, 3) := by decide +kernel
theorem dX2_link_109 : decode cX2_link 109 = .ok (.getfield 113, 3) := by decide +kernel
theorem dX2_link_112 : decode cX2_link 112 = .ok (.iload 7, 2) := by decide +kernel
theorem dX2_link_114 : decode cX2_link 114 = .ok (.iload 4, 2) := by decide +kernel
theorem dX2_link_116 : decode cX2_link 116 = .ok (.iastore, 1) := by decide +kernel
theorem dX2_link_117 : decode cX2_link 117 = .ok (.aload_n 0, 1) := by decide +kernel
theorem dX2_link_118 : decode cX2_link 118 = .ok (.getfield 12, 3) := by decide +kernel
theorem dX2_link_121 : decode cX2_link 121 = .ok (.getfield 116, 3) := by decide +kernel
theorem dX2_link_124 : decode cX2_link 124 = .ok (.iload 7, 2) := by decide +kernel
theorem dX2_link_126 : decode cX2_link 126 = .ok (.iload 5, 2) := by decide +kernel
theorem dX2_link_128 : decode cX2_link 128 = .ok (.iastore, 1) := by decide +kernel
theorem dX2_link_129 : decode cX2_link 129 = .ok (.aload_n 0, 1) := by decide +kernel
theorem dX2_link_130 : decode cX2_link 130 = .ok (.getfield 12, 3) := by decide +kernel
theorem dX2_link_133 : decode cX2_link 133 = .ok (.getfield 119, 3) := by decide +kernel
theorem dX2_link_136 : decode cX2_link 136 = .ok (.iload 7, 2) := by decide +kernel
theorem dX2_link_138 : decode cX2_link 138 = .ok (.iload 6, 2) := by decide +kernel
theorem dX2_link_140 : decode cX2_link 140 = .ok (.iastore, 1) := by decide +kernel
theorem dX2_link_141 : decode cX2_link 141 = .ok (.aload_n 0, 1) := by decide +kernel
theorem dX2_link_142 : decode cX2_link 142 = .ok (.getfield 12, 3) := by decide +kernel
theorem dX2_link_145 : decode cX2_link 145 = .ok (.iload 7, 2) := by decide +kernel
theorem dX2_link_147 : decode cX2_link 147 = .ok (.iconst 1, 1) := by decide +kernel
theorem dX2_link_148 : decode cX2_link 148 = .ok (.iadd, 1) := by decide +kernel
theorem dX2_link_149 : decode cX2_link 149 = .ok (.putfield 101, 3) := by decide +kernel
theorem dX2_link_152 : decode cX2_link 152 = .ok (.aload_n 0, 1) := by decide +kernel
theorem dX2_link_153 : decode cX2_link 153 = .ok (.invokevirtual 91, 3) := by decide +kernel
theorem dX2_link_156 : decode cX2_link 156 = .ok (.iload 7, 2) := by decide +kernel
theorem dX2_link_158 : decode cX2_link 158 = .ok (.ireturn, 1) := by decide +kernel
set_option maxRecDepth 20000 in
theorem ggX2_clear_X2_startAgain : GoodIn wsX2_clear wsX2_startAgain := goodIn_r _ [8, 9, 1, 10, 11, 12, 13, 14, 15, 16, 17, 18, 19, 20, 21, 22, 23, 24, 25, 26, 27, 28, 29, 30, 31, 32, 33, 34, 35, 36, 37, 38, 39, 40, 41, 54, 55, 56, 57, 58, 59, 60, 61, 62, 63, 42, 43, 44, 45, 46, 47, 48, 49, 50, 51, 52, 53] (by decide +kernel) (by decide +kernel)
set_option maxRecDepth 20000 in
theorem gX2_clear_X2_startAgain : GoodIn wsX2_clear (wsV RX2 91 RX2 yX2_startAgain wsX2_startAgain) := goodIn_app (goodIn_of _ (by decide +kernel)) ggX2_clear_X2_startAgain
theorem dX2_clear_0 : decode cX2_clear 0 = .ok (.aload_n 0, 1) := by decide +kernel
theorem dX2_clear_1 : decode cX2_clear 1 = .ok (.getfield 12, 3) := by decide +kernel
theorem dX2_clear_4 : decode cX2_clear 4 = .ok (.getfield 76, 3) := by decide +kernel
theorem dX2_clear_7 : decode cX2_clear 7 = .ok (.istore_n 1, 1) := by decide +kernel
theorem dX2_clear_8 : decode cX2_clear 8 = .ok (.aload_n 0, 1) := by decide +kernel
theorem dX2_clear_9 : decode cX2_clear 9 = .ok (.getfield 12, 3) := by decide +kernel
theorem dX2_clear_12 : decode cX2_clear 12 = .ok (.iconst 0, 1) := by decide +kernel
theorem dX2_clear_13 : decode cX2_clear 13 = .ok (.putfield 76, 3) := by decide +kernel
theorem dX2_clear_16 : decode cX2_clear 16 = .ok (.aload_n 0, 1) := by decide +kernel
theorem dX2_clear_17 : decode cX2_clear 17 = .ok (.getfield 12, 3) := by decide +kernel
theorem dX2_clear_20 : decode cX2_clear 20 = .ok (.iconst 0, 1) := by decide +kernel
theorem dX2_clear_21 : decode cX2_clear 21 = .ok (.putfield 101, 3) := by decide +kernel
theorem dX2_clear_24 : decode cX2_clear 24 = .ok (.aload_n 0, 1) := by decide +kernel
theorem dX2_clear_25 : decode cX2_clear 25 = .ok (.invokevirtual 91, 3) := by decide +kernel
theorem dX2_clear_28 : decode cX2_clear 28 = .ok (.iload_n 1, 1) := by decide +kernel
theorem dX2_clear_29 : decode cX2_clear 29 = .ok (.ireturn, 1) := by decide +kernel
set_option maxRecDepth 20000 in
theorem ggX2_reset_X2_startAgain : GoodIn wsX2_reset wsX2_startAgain := goodIn_r _ [6, 7, 8, 1, 9, 10, 11, 12, 13, 14, 15, 16, 17, 18, 19, 20, 21, 22, 23, 24, 25, 26, 27, 28, 29, 30, 31, 32, 33, 34, 35, 36, 37, 38, 39, 40, 41, 42, 43, 44, 45, 46, 47, 48, 49, 50, 51, 52, 53, 54, 55, 56, 57, 58, 59, 60, 61] (by decide +kernel) (by decide +kernel)
set_option maxRecDepth 20000 in
theorem gX2_reset_X2_startAgain : GoodIn wsX2_reset (wsV RX2 91 RX2 yX2_startAgain wsX2_startAgain) := goodIn_app (goodIn_of _ (by decide +kernel)) ggX2_reset_X2_startAgain
theorem dX2_reset_0 : decode cX2_reset 0 = .ok (.aload_n 0, 1) := by decide +kernel
theorem dX2_reset_1 : decode cX2_reset 1 = .ok (.getfield 26, 3) := by decide +kernel
theorem dX2_reset_4 : decode cX2_reset 4 = .ok (.istore_n 1, 1) := by decide +kernel
theorem dX2_reset_5 : decode cX2_reset 5 = .ok (.aload_n 0, 1) := by decide +kernel
theorem dX2_reset_6 : decode cX2_reset 6 = .ok (.invokevirtual 91, 3) := by decide +kernel
theorem dX2_reset_9 : decode cX2_reset 9 = .ok (.iload_n 1, 1) := by decide +kernel
theorem dX2_reset_10 : decode cX2_reset 10 = .ok (.ireturn, 1) := by decide +kernel
set_option maxRecDepth 20000 in
theorem ggX2_set_X2_isCell : GoodIn wsX2_set wsX2_isCell := goodIn_r _ [6, 1, 7, 38, 39, 40, 41, 42, 43, 44, 45, 46, 47, 48, 49, 50, 51, 52, 53, 54, 55, 56, 57, 58, 59, 60, 61, 62, 63, 64, 65, 66] (by decide +kernel) (by decide +kernel)
set_option maxRecDepth 20000 in
theorem gX2_set_X2_isCell : GoodIn wsX2_set (wsV RX2 94 RX2 yX2_isCell wsX2_isCell) := goodIn_app (goodIn_of _ (by decide +kernel)) ggX2_set_X2_isCell
set_option maxRecDepth 20000 in
theorem ggX2_set_X2_isRate : GoodIn wsX2_set wsX2_isRate := goodIn_r _ [10] (by decide +kernel) (by decide +kernel)
set_option maxRecDepth 20000 in
theorem gX2_set_X2_isRate : GoodIn wsX2_set (va_wsS RX2 72 yX2_isRate wsX2_isRate) := goodIn_app (goodIn_of _ (by decide +kernel)) ggX2_set_X2_isRate
set_option maxRecDepth 20000 in
theorem ggX2_set_X0_ratesOf : GoodIn wsX2_set wsX0_ratesOf := goodIn_r _ [15, 16, 17, 55, 56, 57, 58, 59, 60, 61, 62, 63, 64, 65, 66] (by decide +kernel) (by decide +kernel)
set_option maxRecDepth 20000 in
theorem gX2_set_X0_ratesOf : GoodIn wsX2_set (wsV RX2 122 RX0 yX0_ratesOf wsX0_ratesOf) := goodIn_app (goodIn_of _ (by decide +kernel)) ggX2_set_X0_ratesOf
set_option maxRecDepth 20000 in
theorem ggX2_set_X2_startAgain : GoodIn wsX2_set wsX2_startAgain := goodIn_r _ [21, 22, 1, 23, 24, 25, 26, 27, 28, 29, 30, 31, 32, 33, 34, 35, 36, 37, 38, 39, 40, 41, 42, 43, 44, 45, 46, 47, 48, 49, 50, 51, 52, 53, 54, 67, 68, 69, 70, 71, 72, 73, 74, 75, 76, 55, 56, 57, 58, 59, 60, 61, 62, 63, 64, 65, 66] (by decide +kernel) (by decide +kernel)
set_option maxRecDepth 20000 in
theorem gX2_set_X2_startAgain : GoodIn wsX2_set (wsV RX2 91 RX2 yX2_startAgain wsX2_startAgain) := goodIn_app (goodIn_of _ (by decide +kernel)) ggX2_set_X2_startAgain
theorem dX2_set_0 : decode cX2_set 0 = .ok (.aload_n 0, 1) := by decide +kernel
theorem dX2_set_1 : decode cX2_set 1 = .ok (.iload_n 1, 1) := by decide +kernel
theorem dX2_set_2 : decode cX2_set 2 = .ok (.invokevirtual 94, 3) := by decide +kernel
theorem dX2_set_5 : decode cX2_set 5 = .ok (.ifCond .eq 19, 3) := by decide +kernel
theorem dX2_set_8 : decode cX2_set 8 = .ok (.iload_n 2, 1) := by decide +kernel
theorem dX2_set_9 : decode cX2_set 9 = .ok (.ifCond .eq 8, 3) := by decide +kernel
theorem dX2_set_12 : decode cX2_set 12 = .ok (.iload_n 2, 1) := by decide +kernel
theorem dX2_set_13 : decode cX2_set 13 = .ok (.iconst 1, 1) := by decide +kernel
theorem dX2_set_14 : decode cX2_set 14 = .ok (.if_icmp .ne 10, 3) := by decide +kernel
theorem dX2_set_17 : decode cX2_set 17 = .ok (.iload_n 3, 1) := by decide +kernel
theorem dX2_set_18 : decode cX2_set 18 = .ok (.invokestatic 72, 3) := by decide +kernel
theorem dX2_set_21 : decode cX2_set 21 = .ok (.ifCond .ne 5, 3) := by decide +kernel
theorem dX2_set_24 : decode cX2_set 24 = .ok (.iconst (-1), 1) := by decide +kernel
theorem dX2_set_25 : decode cX2_set 25 = .ok (.ireturn, 1) := by decide +kernel
theorem dX2_set_26 : decode cX2_set 26 = .ok (.aload_n 0, 1) := by decide +kernel
theorem dX2_set_27 : decode cX2_set 27 = .ok (.getfield 12, 3) := by decide +kernel
theorem dX2_set_30 : decode cX2_set 30 = .ok (.iload_n 2, 1) := by decide +kernel
theorem dX2_set_31 : decode cX2_set 31 = .ok (.invokevirtual 122, 3) := by decide +kernel
theorem dX2_set_34 : decode cX2_set 34 = .ok (.astore 4, 2) := by decide +kernel
theorem dX2_set_36 : decode cX2_set 36 = .ok (.aload 4, 2) := by decide +kernel
theorem dX2_set_38 : decode cX2_set 38 = .ok (.iload_n 1, 1) := by decide +kernel
theorem dX2_set_39 : decode cX2_set 39 = .ok (.iaload, 1) := by decide +kernel
theorem dX2_set_40 : decode cX2_set 40 = .ok (.istore 5, 2) := by decide +kernel
theorem dX2_set_42 : decode cX2_set 42 = .ok (.aload 4, 2) := by decide +kernel
theorem dX2_set_44 : decode cX2_set 44 = .ok (.iload_n 1, 1) := by decide +kernel
theorem dX2_set_45 : decode cX2_set 45 = .ok (.iload_n 3, 1) := by decide +kernel
theorem dX2_set_46 : decode cX2_set 46 = .ok (.iastore, 1) := by decide +kernel
theorem dX2_set_47 : decode cX2_set 47 = .ok (.aload_n 0, 1) := by decide +kernel
theorem dX2_set_48 : decode cX2_set 48 = .ok (.invokevirtual 91, 3) := by decide +kernel
theorem dX2_set_51 : decode cX2_set 51 = .ok (.iload 5, 2) := by decide +kernel
theorem dX2_set_53 : decode cX2_set 53 = .ok (.ireturn, 1) := by decide +kernel
set_option maxRecDepth 20000 in
theorem ggX2_run_X1_copyFrom : GoodIn wsX2_run wsX1_copyFrom := goodIn_r _ [8, 9, 10, 11, 12, 13, 14, 100, 101, 102, 103, 104, 105, 106, 107, 108, 109] (by decide +kernel) (by decide +kernel)
set_option maxRecDepth 20000 in
theorem gX2_run_X1_copyFrom : GoodIn wsX2_run (wsV RX2 126 RX1 yX1_copyFrom wsX1_copyFrom) := goodIn_app (goodIn_of _ (by decide +kernel)) ggX2_run_X1_copyFrom
set_option maxRecDepth 20000 in
theorem ggX2_run_X1_advance : GoodIn wsX2_run wsX1_advance := goodIn_r _ [18, 19, 13, 20, 21, 22, 23, 24, 7, 25, 26, 12, 11, 27, 28, 29, 30, 31, 32, 33, 34, 35, 9, 10, 36, 37, 38, 39, 40, 41, 42, 43, 44, 45, 14, 46, 47, 48, 49, 50, 51, 52, 53, 54, 55, 56, 57, 58, 59, 60, 61, 62, 63, 64, 65, 66, 110, 111, 112, 113, 114, 115, 116, 117, 118, 119, 120, 121, 100, 101, 102, 103, 104, 105, 106, 107, 108, 109] (by decide +kernel) (by decide +kernel)
set_option maxRecDepth 20000 in
theorem gX2_run_X1_advance : GoodIn wsX2_run (wsV RX2 130 RX1 yX1_advance wsX1_advance) := goodIn_app (goodIn_of _ (by decide +kernel)) ggX2_run_X1_advance
set_option maxRecDepth 20000 in
theorem ggX2_run_X2_noteEvent : GoodIn wsX2_run wsX2_noteEvent := goodIn_r _ [70, 71, 72, 2, 73, 74, 75, 76, 77, 78, 79, 7, 80, 9, 10, 20, 21, 81, 37, 82, 83, 84, 85, 86, 87, 88, 89, 90, 91, 92, 93, 94, 95, 96, 97, 98, 99, 100, 101, 102, 103, 104, 105, 106, 107, 108, 109] (by decide +kernel) (by decide +kernel)
set_option maxRecDepth 20000 in
theorem gX2_run_X2_noteEvent : GoodIn wsX2_run (wsV RX2 134 RX2 yX2_noteEvent wsX2_noteEvent) := goodIn_app (goodIn_of _ (by decide +kernel)) ggX2_run_X2_noteEvent
theorem dX2_run_0 : decode cX2_run 0 = .ok (.iload_n 1, 1) := by decide +kernel
theorem dX2_run_1 : decode cX2_run 1 = .ok (.ifCond .lt 10, 3) := by decide +kernel
theorem dX2_run_4 : decode cX2_run 4 = .ok (.iload_n 1, 1) := by decide +kernel
theorem dX2_run_5 : decode cX2_run 5 = .ok (.sipush 500, 3) := by decide +kernel
theorem dX2_run_8 : decode cX2_run 8 = .ok (.if_icmp .le 5, 3) := by decide +kernel
theorem dX2_run_11 : decode cX2_run 11 = .ok (.iconst (-1), 1) := by decide +kernel
theorem dX2_run_12 : decode cX2_run 12 = .ok (.ireturn, 1) := by decide +kernel
theorem dX2_run_13 : decode cX2_run 13 = .ok (.iconst 0, 1) := by decide +kernel
theorem dX2_run_14 : decode cX2_run 14 = .ok (.istore_n 2, 1) := by decide +kernel
theorem dX2_run_15 : decode cX2_run 15 = .ok (.iload_n 2, 1) := by decide +kernel
theorem dX2_run_16 : decode cX2_run 16 = .ok (.iload_n 1, 1) := by decide +kernel
theorem dX2_run_17 : decode cX2_run 17 = .ok (.if_icmp .ge 58, 3) := by decide +kernel
theorem dX2_run_20 : decode cX2_run 20 = .ok (.aload_n 0, 1) := by decide +kernel
theorem dX2_run_21 : decode cX2_run 21 = .ok (.getfield 23, 3) := by decide +kernel
theorem dX2_run_24 : decode cX2_run 24 = .ok (.aload_n 0, 1) := by decide +kernel
theorem dX2_run_25 : decode cX2_run 25 = .ok (.getfield 19, 3) := by decide +kernel
theorem dX2_run_28 : decode cX2_run 28 = .ok (.invokevirtual 126, 3) := by decide +kernel
theorem dX2_run_31 : decode cX2_run 31 = .ok (.aload_n 0, 1) := by decide +kernel
theorem dX2_run_32 : decode cX2_run 32 = .ok (.getfield 23, 3) := by decide +kernel
theorem dX2_run_35 : decode cX2_run 35 = .ok (.aload_n 0, 1) := by decide +kernel
theorem dX2_run_36 : decode cX2_run 36 = .ok (.getfield 12, 3) := by decide +kernel
theorem dX2_run_39 : decode cX2_run 39 = .ok (.invokevirtual 130, 3) := by decide +kernel
theorem dX2_run_42 : decode cX2_run 42 = .ok (.ifCond .ne 5, 3) := by decide +kernel
theorem dX2_run_45 : decode cX2_run 45 = .ok (.iload_n 2, 1) := by decide +kernel
theorem dX2_run_46 : decode cX2_run 46 = .ok (.ireturn, 1) := by decide +kernel
theorem dX2_run_47 : decode cX2_run 47 = .ok (.aload_n 0, 1) := by decide +kernel
theorem dX2_run_48 : decode cX2_run 48 = .ok (.getfield 19, 3) := by decide +kernel
theorem dX2_run_51 : decode cX2_run 51 = .ok (.astore_n 3, 1) := by decide +kernel
theorem dX2_run_52 : decode cX2_run 52 = .ok (.aload_n 0, 1) := by decide +kernel
theorem dX2_run_53 : decode cX2_run 53 = .ok (.aload_n 0, 1) := by decide +kernel
theorem dX2_run_54 : decode cX2_run 54 = .ok (.getfield 23, 3) := by decide +kernel
theorem dX2_run_57 : decode cX2_run 57 = .ok (.putfield 19, 3) := by decide +kernel
theorem dX2_run_60 : decode cX2_run 60 = .ok (.aload_n 0, 1) := by decide +kernel
theorem dX2_run_61 : decode cX2_run 61 = .ok (.aload_n 3, 1) := by decide +kernel
theorem dX2_run_62 : decode cX2_run 62 = .ok (.putfield 23, 3) := by decide +kernel
theorem dX2_run_65 : decode cX2_run 65 = .ok (.aload_n 0, 1) := by decide +kernel
theorem dX2_run_66 : decode cX2_run 66 = .ok (.invokevirtual 134, 3) := by decide +kernel
theorem dX2_run_69 : decode cX2_run 69 = .ok (.iinc 2 1, 3) := by decide +kernel
theorem dX2_run_72 : decode cX2_run 72 = .ok (.goto (-57), 3) := by decide +kernel
theorem dX2_run_75 : decode cX2_run 75 = .ok (.iload_n 1, 1) := by decide +kernel
theorem dX2_run_76 : decode cX2_run 76 = .ok (.ireturn, 1) := by decide +kernel
set_option maxRecDepth 20000 in
theorem ggX2_count_X2_isNextSpent : GoodIn wsX2_count wsX2_isNextSpent := goodIn_r _ [14, 1, 2, 15, 5, 16, 17, 18, 19, 20, 21, 22, 23, 24, 25, 26, 27, 28, 29, 30, 31, 32, 33, 34, 35, 36, 37, 38, 39, 40, 41, 42, 43, 44, 45, 46, 47, 48, 13, 49, 50, 51, 52, 53, 54, 55, 56, 57, 58, 59, 60, 61, 62, 63, 64, 65, 66, 67, 68, 69, 70, 71, 72, 73, 74, 75, 76, 77, 78, 79, 80, 81, 82, 83, 84, 85, 86, 87, 88, 89, 90, 91, 92, 93, 94, 95, 96, 97, 98, 99, 100, 101, 102, 103, 104, 105, 106, 107, 108, 109, 110, 111, 112, 113, 114, 115, 116] (by decide +kernel) (by decide +kernel)
set_option maxRecDepth 20000 in
theorem gX2_count_X2_isNextSpent : GoodIn wsX2_count (wsV RX2 144 RX2 yX2_isNextSpent wsX2_isNextSpent) := goodIn_app (goodIn_of _ (by decide +kernel)) ggX2_count_X2_isNextSpent
theorem dX2_count_0 : decode cX2_count 0 = .ok (.iload_n 1, 1) := by decide +kernel
theorem dX2_count_1 : decode cX2_count 1 = .ok (.tableswitch 109 0 7 #[47, 55, 63, 68, 77, 86, 99, 104], 47) := by decide +kernel
theorem dX2_count_48 : decode cX2_count 48 = .ok (.aload_n 0, 1) := by decide +kernel
theorem dX2_count_49 : decode cX2_count 49 = .ok (.getfield 12, 3) := by decide +kernel
theorem dX2_count_52 : decode cX2_count 52 = .ok (.getfield 76, 3) := by decide +kernel
theorem dX2_count_55 : decode cX2_count 55 = .ok (.ireturn, 1) := by decide +kernel
theorem dX2_count_56 : decode cX2_count 56 = .ok (.aload_n 0, 1) := by decide +kernel
theorem dX2_count_57 : decode cX2_count 57 = .ok (.getfield 12, 3) := by decide +kernel
theorem dX2_count_60 : decode cX2_count 60 = .ok (.getfield 101, 3) := by decide +kernel
theorem dX2_count_63 : decode cX2_count 63 = .ok (.ireturn, 1) := by decide +kernel
theorem dX2_count_64 : decode cX2_count 64 = .ok (.aload_n 0, 1) := by decide +kernel
theorem dX2_count_65 : decode cX2_count 65 = .ok (.getfield 26, 3) := by decide +kernel
theorem dX2_count_68 : decode cX2_count 68 = .ok (.ireturn, 1) := by decide +kernel
theorem dX2_count_69 : decode cX2_count 69 = .ok (.aload_n 0, 1) := by decide +kernel
theorem dX2_count_70 : decode cX2_count 70 = .ok (.getfield 19, 3) := by decide +kernel
theorem dX2_count_73 : decode cX2_count 73 = .ok (.getfield 137, 3) := by decide +kernel
theorem dX2_count_76 : decode cX2_count 76 = .ok (.l2i, 1) := by decide +kernel
theorem dX2_count_77 : decode cX2_count 77 = .ok (.ireturn, 1) := by decide +kernel
theorem dX2_count_78 : decode cX2_count 78 = .ok (.aload_n 0, 1) := by decide +kernel
theorem dX2_count_79 : decode cX2_count 79 = .ok (.getfield 19, 3) := by decide +kernel
theorem dX2_count_82 : decode cX2_count 82 = .ok (.getfield 141, 3) := by decide +kernel
theorem dX2_count_85 : decode cX2_count 85 = .ok (.l2i, 1) := by decide +kernel
theorem dX2_count_86 : decode cX2_count 86 = .ok (.ireturn, 1) := by decide +kernel
theorem dX2_count_87 : decode cX2_count 87 = .ok (.aload_n 0, 1) := by decide +kernel
theorem dX2_count_88 : decode cX2_count 88 = .ok (.invokevirtual 144, 3) := by decide +kernel
theorem dX2_count_91 : decode cX2_count 91 = .ok (.ifCond .eq 7, 3) := by decide +kernel
theorem dX2_count_94 : decode cX2_count 94 = .ok (.iconst 1, 1) := by decide +kernel
theorem dX2_count_95 : decode cX2_count 95 = .ok (.goto 4, 3) := by decide +kernel
theorem dX2_count_98 : decode cX2_count 98 = .ok (.iconst 0, 1) := by decide +kernel
theorem dX2_count_99 : decode cX2_count 99 = .ok (.ireturn, 1) := by decide +kernel
theorem dX2_count_100 : decode cX2_count 100 = .ok (.aload_n 0, 1) := by decide +kernel
theorem dX2_count_101 : decode cX2_count 101 = .ok (.getfield 54, 3) := by decide +kernel
theorem dX2_count_104 : decode cX2_count 104 = .ok (.ireturn, 1) := by decide +kernel
theorem dX2_count_105 : decode cX2_count 105 = .ok (.aload_n 0, 1) := by decide +kernel
theorem dX2_count_106 : decode cX2_count 106 = .ok (.getfield 63, 3) := by decide +kernel
theorem dX2_count_109 : decode cX2_count 109 = .ok (.ireturn, 1) := by decide +kernel
theorem dX2_count_110 : decode cX2_count 110 = .ok (.iconst (-1), 1) := by decide +kernel
theorem dX2_count_111 : decode cX2_count 111 = .ok (.ireturn, 1) := by decide +kernel
set_option maxRecDepth 20000 in
theorem ggX2_of_X2_isCell : GoodIn wsX2_of wsX2_isCell := goodIn_r _ [13, 14, 15, 32, 33, 34, 35, 36, 37, 38, 39, 40, 41, 42, 43, 44, 45, 46, 47, 48, 59, 60, 61, 62, 63, 64, 65, 66, 67, 68, 69, 70] (by decide +kernel) (by decide +kernel)
set_option maxRecDepth 20000 in
theorem gX2_of_X2_isCell : GoodIn wsX2_of (wsV RX2 94 RX2 yX2_isCell wsX2_isCell) := goodIn_app (goodIn_of _ (by decide +kernel)) ggX2_of_X2_isCell
set_option maxRecDepth 20000 in
theorem ggX2_of_X2_beatTerm : GoodIn wsX2_of wsX2_beatTerm := goodIn_r _ [19, 14, 20, 21, 22, 23, 24, 25, 26, 27, 28, 29, 30, 12, 31, 32, 33, 34, 35, 36, 37, 38, 39, 40, 41, 42, 43, 44, 45, 46, 47, 48, 59, 60, 61, 62, 63, 64, 65, 66, 67, 68, 69, 70] (by decide +kernel) (by decide +kernel)
set_option maxRecDepth 20000 in
theorem gX2_of_X2_beatTerm : GoodIn wsX2_of (wsV RX2 165 RX2 yX2_beatTerm wsX2_beatTerm) := goodIn_app (goodIn_of _ (by decide +kernel)) ggX2_of_X2_beatTerm
theorem dX2_of_0 : decode cX2_of 0 = .ok (.aload_n 0, 1) := by decide +kernel
theorem dX2_of_1 : decode cX2_of 1 = .ok (.iload_n 1, 1) := by decide +kernel
theorem dX2_of_2 : decode cX2_of 2 = .ok (.invokevirtual 94, 3) := by decide +kernel
theorem dX2_of_5 : decode cX2_of 5 = .ok (.ifCond .ne 13, 3) := by decide +kernel
theorem dX2_of_8 : decode cX2_of 8 = .ok (.new 148, 3) := by decide +kernel
theorem dX2_of_11 : decode cX2_of 11 = .ok (.dup, 1) := by decide +kernel
theorem dX2_of_12 : decode cX2_of 12 = .ok (.ldc 150, 2) := by decide +kernel
theorem dX2_of_14 : decode cX2_of 14 = .ok (.invokespecial 152, 3) := by decide +kernel
theorem dX2_of_17 : decode cX2_of 17 = .ok (.athrow, 1) := by decide +kernel
theorem dX2_of_18 : decode cX2_of 18 = .ok (.iload_n 2, 1) := by decide +kernel
theorem dX2_of_19 : decode cX2_of 19 = .ok (.tableswitch 109 0 6 #[41, 52, 63, 81, 88, 95, 102], 41) := by decide +kernel
theorem dX2_of_60 : decode cX2_of 60 = .ok (.aload_n 0, 1) := by decide +kernel
theorem dX2_of_61 : decode cX2_of 61 = .ok (.getfield 19, 3) := by decide +kernel
theorem dX2_of_64 : decode cX2_of 64 = .ok (.getfield 155, 3) := by decide +kernel
theorem dX2_of_67 : decode cX2_of 67 = .ok (.iload_n 1, 1) := by decide +kernel
theorem dX2_of_68 : decode cX2_of 68 = .ok (.laload, 1) := by decide +kernel
theorem dX2_of_69 : decode cX2_of 69 = .ok (.l2i, 1) := by decide +kernel
theorem dX2_of_70 : decode cX2_of 70 = .ok (.ireturn, 1) := by decide +kernel
theorem dX2_of_71 : decode cX2_of 71 = .ok (.aload_n 0, 1) := by decide +kernel
theorem dX2_of_72 : decode cX2_of 72 = .ok (.getfield 19, 3) := by decide +kernel
theorem dX2_of_75 : decode cX2_of 75 = .ok (.getfield 158, 3) := by decide +kernel
theorem dX2_of_78 : decode cX2_of 78 = .ok (.iload_n 1, 1) := by decide +kernel
theorem dX2_of_79 : decode cX2_of 79 = .ok (.laload, 1) := by decide +kernel
theorem dX2_of_80 : decode cX2_of 80 = .ok (.l2i, 1) := by decide +kernel
theorem dX2_of_81 : decode cX2_of 81 = .ok (.ireturn, 1) := by decide +kernel
theorem dX2_of_82 : decode cX2_of 82 = .ok (.aload_n 0, 1) := by decide +kernel
theorem dX2_of_83 : decode cX2_of 83 = .ok (.getfield 19, 3) := by decide +kernel
theorem dX2_of_86 : decode cX2_of 86 = .ok (.getfield 161, 3) := by decide +kernel
theorem dX2_of_89 : decode cX2_of 89 = .ok (.iload_n 1, 1) := by decide +kernel
theorem dX2_of_90 : decode cX2_of 90 = .ok (.baload, 1) := by decide +kernel
theorem dX2_of_91 : decode cX2_of 91 = .ok (.ifCond .eq 7, 3) := by decide +kernel
theorem dX2_of_94 : decode cX2_of 94 = .ok (.iconst 1, 1) := by decide +kernel
theorem dX2_of_95 : decode cX2_of 95 = .ok (.goto 4, 3) := by decide +kernel
theorem dX2_of_98 : decode cX2_of 98 = .ok (.iconst 0, 1) := by decide +kernel
theorem dX2_of_99 : decode cX2_of 99 = .ok (.ireturn, 1) := by decide +kernel
theorem dX2_of_100 : decode cX2_of 100 = .ok (.aload_n 0, 1) := by decide +kernel
theorem dX2_of_101 : decode cX2_of 101 = .ok (.getfield 30, 3) := by decide +kernel
theorem dX2_of_104 : decode cX2_of 104 = .ok (.iload_n 1, 1) := by decide +kernel
theorem dX2_of_105 : decode cX2_of 105 = .ok (.iaload, 1) := by decide +kernel
theorem dX2_of_106 : decode cX2_of 106 = .ok (.ireturn, 1) := by decide +kernel
theorem dX2_of_107 : decode cX2_of 107 = .ok (.aload_n 0, 1) := by decide +kernel
theorem dX2_of_108 : decode cX2_of 108 = .ok (.getfield 34, 3) := by decide +kernel
theorem dX2_of_111 : decode cX2_of 111 = .ok (.iload_n 1, 1) := by decide +kernel
theorem dX2_of_112 : decode cX2_of 112 = .ok (.iaload, 1) := by decide +kernel
theorem dX2_of_113 : decode cX2_of 113 = .ok (.ireturn, 1) := by decide +kernel
theorem dX2_of_114 : decode cX2_of 114 = .ok (.aload_n 0, 1) := by decide +kernel
theorem dX2_of_115 : decode cX2_of 115 = .ok (.iload_n 1, 1) := by decide +kernel
theorem dX2_of_116 : decode cX2_of 116 = .ok (.iconst 1, 1) := by decide +kernel
theorem dX2_of_117 : decode cX2_of 117 = .ok (.invokevirtual 165, 3) := by decide +kernel
theorem dX2_of_120 : decode cX2_of 120 = .ok (.ireturn, 1) := by decide +kernel
theorem dX2_of_121 : decode cX2_of 121 = .ok (.aload_n 0, 1) := by decide +kernel
theorem dX2_of_122 : decode cX2_of 122 = .ok (.iload_n 1, 1) := by decide +kernel
theorem dX2_of_123 : decode cX2_of 123 = .ok (.iconst 0, 1) := by decide +kernel
theorem dX2_of_124 : decode cX2_of 124 = .ok (.invokevirtual 165, 3) := by decide +kernel
theorem dX2_of_127 : decode cX2_of 127 = .ok (.ireturn, 1) := by decide +kernel
theorem dX2_of_128 : decode cX2_of 128 = .ok (.new 148, 3) := by decide +kernel
theorem dX2_of_131 : decode cX2_of 131 = .ok (.dup, 1) := by decide +kernel
theorem dX2_of_132 : decode cX2_of 132 = .ok (.ldc 169, 2) := by decide +kernel
theorem dX2_of_134 : decode cX2_of 134 = .ok (.invokespecial 152, 3) := by decide +kernel
theorem dX2_of_137 : decode cX2_of 137 = .ok (.athrow, 1) := by decide +kernel
theorem dX2_counted_0 : decode cX2_counted 0 = .ok (.iload_n 1, 1) := by decide +kernel
theorem dX2_counted_1 : decode cX2_counted 1 = .ok (.ifCond .lt 26, 3) := by decide +kernel
theorem dX2_counted_4 : decode cX2_counted 4 = .ok (.iload_n 1, 1) := by decide +kernel
theorem dX2_counted_5 : decode cX2_counted 5 = .ok (.aload_n 0, 1) := by decide +kernel
theorem dX2_counted_6 : decode cX2_counted 6 = .ok (.getfield 12, 3) := by decide +kernel
theorem dX2_counted_9 : decode cX2_counted 9 = .ok (.getfield 101, 3) := by decide +kernel
theorem dX2_counted_12 : decode cX2_counted 12 = .ok (.if_icmp .ge 15, 3) := by decide +kernel
theorem dX2_counted_15 : decode cX2_counted 15 = .ok (.aload_n 0, 1) := by decide +kernel
theorem dX2_counted_16 : decode cX2_counted 16 = .ok (.getfield 19, 3) := by decide +kernel
theorem dX2_counted_19 : decode cX2_counted 19 = .ok (.getfield 171, 3) := by decide +kernel
theorem dX2_counted_22 : decode cX2_counted 22 = .ok (.iload_n 1, 1) := by decide +kernel
theorem dX2_counted_23 : decode cX2_counted 23 = .ok (.iaload, 1) := by decide +kernel
theorem dX2_counted_24 : decode cX2_counted 24 = .ok (.goto 4, 3) := by decide +kernel
theorem dX2_counted_27 : decode cX2_counted 27 = .ok (.iconst (-1), 1) := by decide +kernel
theorem dX2_counted_28 : decode cX2_counted 28 = .ok (.ireturn, 1) := by decide +kernel
set_option maxRecDepth 20000 in
theorem ggX2_event_X2_turnedIn : GoodIn wsX2_event wsX2_turnedIn := goodIn_r _ [6] (by decide +kernel) (by decide +kernel)
set_option maxRecDepth 20000 in
theorem gX2_event_X2_turnedIn : GoodIn wsX2_event (va_wsS RX2 174 yX2_turnedIn wsX2_turnedIn) := goodIn_app (goodIn_of _ (by decide +kernel)) ggX2_event_X2_turnedIn
set_option maxRecDepth 20000 in
theorem ggX2_event_X2_sideIn : GoodIn wsX2_event wsX2_sideIn := goodIn_r _ [9] (by decide +kernel) (by decide +kernel)
set_option maxRecDepth 20000 in
theorem gX2_event_X2_sideIn : GoodIn wsX2_event (va_wsS RX2 178 yX2_sideIn wsX2_sideIn) := goodIn_app (goodIn_of _ (by decide +kernel)) ggX2_event_X2_sideIn
set_option maxRecDepth 20000 in
theorem ggX2_event_X2_timeNumIn : GoodIn wsX2_event wsX2_timeNumIn := goodIn_r _ [12] (by decide +kernel) (by decide +kernel)
set_option maxRecDepth 20000 in
theorem gX2_event_X2_timeNumIn : GoodIn wsX2_event (va_wsS RX2 181 yX2_timeNumIn wsX2_timeNumIn) := goodIn_app (goodIn_of _ (by decide +kernel)) ggX2_event_X2_timeNumIn
set_option maxRecDepth 20000 in
theorem ggX2_event_X2_timeDenIn : GoodIn wsX2_event wsX2_timeDenIn := goodIn_r _ [15, 16] (by decide +kernel) (by decide +kernel)
set_option maxRecDepth 20000 in
theorem gX2_event_X2_timeDenIn : GoodIn wsX2_event (va_wsS RX2 185 yX2_timeDenIn wsX2_timeDenIn) := goodIn_app (goodIn_of _ (by decide +kernel)) ggX2_event_X2_timeDenIn
theorem dX2_event_0 : decode cX2_event 0 = .ok (.iload_n 1, 1) := by decide +kernel
theorem dX2_event_1 : decode cX2_event 1 = .ok (.ifCond .lt 18, 3) := by decide +kernel
theorem dX2_event_4 : decode cX2_event 4 = .ok (.iload_n 1, 1) := by decide +kernel
theorem dX2_event_5 : decode cX2_event 5 = .ok (.aload_n 0, 1) := by decide +kernel
theorem dX2_event_6 : decode cX2_event 6 = .ok (.getfield 26, 3) := by decide +kernel
theorem dX2_event_9 : decode cX2_event 9 = .ok (.if_icmp .ge 10, 3) := by decide +kernel
theorem dX2_event_12 : decode cX2_event 12 = .ok (.iload_n 1, 1) := by decide +kernel
theorem dX2_event_13 : decode cX2_event 13 = .ok (.sipush 500, 3) := by decide +kernel
theorem dX2_event_16 : decode cX2_event 16 = .ok (.if_icmp .lt 5, 3) := by decide +kernel
theorem dX2_event_19 : decode cX2_event 19 = .ok (.iconst (-1), 1) := by decide +kernel
theorem dX2_event_20 : decode cX2_event 20 = .ok (.ireturn, 1) := by decide +kernel
theorem dX2_event_21 : decode cX2_event 21 = .ok (.iload_n 2, 1) := by decide +kernel
theorem dX2_event_22 : decode cX2_event 22 = .ok (.tableswitch 72 0 3 #[30, 40, 50, 61], 30) := by decide +kernel
theorem dX2_event_52 : decode cX2_event 52 = .ok (.aload_n 0, 1) := by decide +kernel
theorem dX2_event_53 : decode cX2_event 53 = .ok (.getfield 37, 3) := by decide +kernel
theorem dX2_event_56 : decode cX2_event 56 = .ok (.iload_n 1, 1) := by decide +kernel
theorem dX2_event_57 : decode cX2_event 57 = .ok (.laload, 1) := by decide +kernel
theorem dX2_event_58 : decode cX2_event 58 = .ok (.invokestatic 174, 3) := by decide +kernel
theorem dX2_event_61 : decode cX2_event 61 = .ok (.ireturn, 1) := by decide +kernel
theorem dX2_event_62 : decode cX2_event 62 = .ok (.aload_n 0, 1) := by decide +kernel
theorem dX2_event_63 : decode cX2_event 63 = .ok (.getfield 37, 3) := by decide +kernel
theorem dX2_event_66 : decode cX2_event 66 = .ok (.iload_n 1, 1) := by decide +kernel
theorem dX2_event_67 : decode cX2_event 67 = .ok (.laload, 1) := by decide +kernel
theorem dX2_event_68 : decode cX2_event 68 = .ok (.invokestatic 178, 3) := by decide +kernel
theorem dX2_event_71 : decode cX2_event 71 = .ok (.ireturn, 1) := by decide +kernel
theorem dX2_event_72 : decode cX2_event 72 = .ok (.aload_n 0, 1) := by decide +kernel
theorem dX2_event_73 : decode cX2_event 73 = .ok (.getfield 37, 3) := by decide +kernel
theorem dX2_event_76 : decode cX2_event 76 = .ok (.iload_n 1, 1) := by decide +kernel
theorem dX2_event_77 : decode cX2_event 77 = .ok (.laload, 1) := by decide +kernel
theorem dX2_event_78 : decode cX2_event 78 = .ok (.invokestatic 181, 3) := by decide +kernel
theorem dX2_event_81 : decode cX2_event 81 = .ok (.l2i, 1) := by decide +kernel
theorem dX2_event_82 : decode cX2_event 82 = .ok (.ireturn, 1) := by decide +kernel
theorem dX2_event_83 : decode cX2_event 83 = .ok (.aload_n 0, 1) := by decide +kernel
theorem dX2_event_84 : decode cX2_event 84 = .ok (.getfield 37, 3) := by decide +kernel
theorem dX2_event_87 : decode cX2_event 87 = .ok (.iload_n 1, 1) := by decide +kernel
theorem dX2_event_88 : decode cX2_event 88 = .ok (.laload, 1) := by decide +kernel
theorem dX2_event_89 : decode cX2_event 89 = .ok (.invokestatic 185, 3) := by decide +kernel
theorem dX2_event_92 : decode cX2_event 92 = .ok (.l2i, 1) := by decide +kernel
theorem dX2_event_93 : decode cX2_event 93 = .ok (.ireturn, 1) := by decide +kernel
theorem dX2_event_94 : decode cX2_event 94 = .ok (.iconst (-1), 1) := by decide +kernel
theorem dX2_event_95 : decode cX2_event 95 = .ok (.ireturn, 1) := by decide +kernel
set_option maxRecDepth 20000 in
theorem ggX2_ring_X1_copyFrom : GoodIn wsX2_ring wsX1_copyFrom := goodIn_r _ [9, 10, 11, 12, 13, 14, 15, 154, 155, 156, 157, 158, 159, 160, 161, 162, 163] (by decide +kernel) (by decide +kernel)
set_option maxRecDepth 20000 in
theorem gX2_ring_X1_copyFrom : GoodIn wsX2_ring (wsV RX2 126 RX1 yX1_copyFrom wsX1_copyFrom) := goodIn_app (goodIn_of _ (by decide +kernel)) ggX2_ring_X1_copyFrom
set_option maxRecDepth 20000 in
theorem ggX2_ring_X2_writeTrail : GoodIn wsX2_ring wsX2_writeTrail := goodIn_r _ [20, 21, 3, 22, 23, 24, 25, 19, 26, 27, 28, 29, 8, 30, 31, 14, 15, 32, 33, 34, 35, 10, 11, 36, 37, 125, 126, 127, 128, 129, 130, 131, 132, 133, 134, 135, 136, 137, 138, 139, 140, 141, 154, 155, 156, 157, 158, 159, 160, 161, 162, 163] (by decide +kernel) (by decide +kernel)
set_option maxRecDepth 20000 in
theorem gX2_ring_X2_writeTrail : GoodIn wsX2_ring (wsV RX2 188 RX2 yX2_writeTrail wsX2_writeTrail) := goodIn_app (goodIn_of _ (by decide +kernel)) ggX2_ring_X2_writeTrail
set_option maxRecDepth 20000 in
theorem ggX2_ring_X1_advance : GoodIn wsX2_ring wsX1_advance := goodIn_r _ [41, 42, 14, 36, 37, 43, 44, 45, 8, 46, 47, 13, 12, 48, 49, 50, 51, 52, 53, 54, 55, 56, 10, 11, 57, 19, 58, 59, 60, 61, 62, 63, 64, 65, 15, 66, 67, 68, 69, 70, 71, 72, 73, 74, 75, 76, 77, 78, 79, 80, 81, 82, 83, 84, 85, 86, 142, 143, 144, 145, 146, 147, 148, 149, 150, 151, 152, 153, 154, 155, 156, 157, 158, 159, 160, 161, 162, 163] (by decide +kernel) (by decide +kernel)
set_option maxRecDepth 20000 in
theorem gX2_ring_X1_advance : GoodIn wsX2_ring (wsV RX2 130 RX1 yX1_advance wsX1_advance) := goodIn_app (goodIn_of _ (by decide +kernel)) ggX2_ring_X1_advance
set_option maxRecDepth 20000 in
theorem ggX2_ring_X2_sameAhead : GoodIn wsX2_ring wsX2_sameAhead := goodIn_r _ [90, 91, 92, 93, 19, 94, 21, 125, 126, 127, 128, 129, 130, 131, 132, 133, 134, 135, 136, 137, 138, 139, 140, 141] (by decide +kernel) (by decide +kernel)
set_option maxRecDepth 20000 in
theorem gX2_ring_X2_sameAhead : GoodIn wsX2_ring (wsV RX2 192 RX2 yX2_sameAhead wsX2_sameAhead) := goodIn_app (goodIn_of _ (by decide +kernel)) ggX2_ring_X2_sameAhead
set_option maxRecDepth 20000 in
theorem ggX2_ring_X2_keepRing : GoodIn wsX2_ring wsX2_keepRing := goodIn_r _ [98, 99, 100, 101, 102, 103, 19, 104, 21, 105, 106, 107, 108, 109, 110, 111, 112, 113, 114, 115, 116, 117, 118, 57, 58, 119, 120, 121, 122, 123, 124, 125, 126, 127, 128, 129, 130, 131, 132, 133, 134, 135, 136, 137, 138, 139, 140, 141] (by decide +kernel) (by decide +kernel)
set_option maxRecDepth 20000 in
theorem gX2_ring_X2_keepRing : GoodIn wsX2_ring (wsV RX2 196 RX2 yX2_keepRing wsX2_keepRing) := goodIn_app (goodIn_of _ (by decide +kernel)) ggX2_ring_X2_keepRing
theorem dX2_ring_0 : decode cX2_ring 0 = .ok (.iload_n 1, 1) := by decide +kernel
theorem dX2_ring_1 : decode cX2_ring 1 = .ok (.iconst 1, 1) := by decide +kernel
theorem dX2_ring_2 : decode cX2_ring 2 = .ok (.if_icmp .lt 20, 3) := by decide +kernel
theorem dX2_ring_5 : decode cX2_ring 5 = .ok (.iload_n 1, 1) := by decide +kernel
theorem dX2_ring_6 : decode cX2_ring 6 = .ok (.sipush 300, 3) := by decide +kernel
theorem dX2_ring_9 : decode cX2_ring 9 = .ok (.if_icmp .gt 13, 3) := by decide +kernel
theorem dX2_ring_12 : decode cX2_ring 12 = .ok (.aload_n 0, 1) := by decide +kernel
theorem dX2_ring_13 : decode cX2_ring 13 = .ok (.getfield 12, 3) := by decide +kernel
theorem dX2_ring_16 : decode cX2_ring 16 = .ok (.getfield 76, 3) := by decide +kernel
theorem dX2_ring_19 : decode cX2_ring 19 = .ok (.ifCond .ne 5, 3) := by decide +kernel
theorem dX2_ring_22 : decode cX2_ring 22 = .ok (.iconst (-1), 1) := by decide +kernel
theorem dX2_ring_23 : decode cX2_ring 23 = .ok (.ireturn, 1) := by decide +kernel
theorem dX2_ring_24 : decode cX2_ring 24 = .ok (.aload_n 0, 1) := by decide +kernel
theorem dX2_ring_25 : decode cX2_ring 25 = .ok (.getfield 23, 3) := by decide +kernel
theorem dX2_ring_28 : decode cX2_ring 28 = .ok (.aload_n 0, 1) := by decide +kernel
theorem dX2_ring_29 : decode cX2_ring 29 = .ok (.getfield 19, 3) := by decide +kernel
theorem dX2_ring_32 : decode cX2_ring 32 = .ok (.invokevirtual 126, 3) := by decide +kernel
theorem dX2_ring_35 : decode cX2_ring 35 = .ok (.aload_n 0, 1) := by decide +kernel
theorem dX2_ring_36 : decode cX2_ring 36 = .ok (.iconst 0, 1) := by decide +kernel
theorem dX2_ring_37 : decode cX2_ring 37 = .ok (.invokevirtual 188, 3) := by decide +kernel
theorem dX2_ring_40 : decode cX2_ring 40 = .ok (.iconst 1, 1) := by decide +kernel
theorem dX2_ring_41 : decode cX2_ring 41 = .ok (.istore_n 2, 1) := by decide +kernel
theorem dX2_ring_42 : decode cX2_ring 42 = .ok (.iload_n 2, 1) := by decide +kernel
theorem dX2_ring_43 : decode cX2_ring 43 = .ok (.iload_n 1, 1) := by decide +kernel
theorem dX2_ring_44 : decode cX2_ring 44 = .ok (.if_icmp .gt 52, 3) := by decide +kernel
theorem dX2_ring_47 : decode cX2_ring 47 = .ok (.aload_n 0, 1) := by decide +kernel
theorem dX2_ring_48 : decode cX2_ring 48 = .ok (.getfield 23, 3) := by decide +kernel
theorem dX2_ring_51 : decode cX2_ring 51 = .ok (.aload_n 0, 1) := by decide +kernel
theorem dX2_ring_52 : decode cX2_ring 52 = .ok (.getfield 12, 3) := by decide +kernel
theorem dX2_ring_55 : decode cX2_ring 55 = .ok (.invokevirtual 130, 3) := by decide +kernel
theorem dX2_ring_58 : decode cX2_ring 58 = .ok (.ifCond .ne 6, 3) := by decide +kernel
theorem dX2_ring_61 : decode cX2_ring 61 = .ok (.bipush (-3), 2) := by decide +kernel
end
section
theorem dX2_ring_63 : decode cX2_ring 63 = .ok (.ireturn, 1) := by decide +kernel
theorem dX2_ring_64 : decode cX2_ring 64 = .ok (.aload_n 0, 1) := by decide +kernel
theorem dX2_ring_65 : decode cX2_ring 65 = .ok (.iload_n 2, 1) := by decide +kernel
theorem dX2_ring_66 : decode cX2_ring 66 = .ok (.invokevirtual 188, 3) := by decide +kernel
theorem dX2_ring_69 : decode cX2_ring 69 = .ok (.aload_n 0, 1) := by decide +kernel
theorem dX2_ring_70 : decode cX2_ring 70 = .ok (.iload_n 2, 1) := by decide +kernel
theorem dX2_ring_71 : decode cX2_ring 71 = .ok (.invokevirtual 192, 3) := by decide +kernel
theorem dX2_ring_74 : decode cX2_ring 74 = .ok (.istore_n 3, 1) := by decide +kernel
theorem dX2_ring_75 : decode cX2_ring 75 = .ok (.iload_n 3, 1) := by decide +kernel
theorem dX2_ring_76 : decode cX2_ring 76 = .ok (.iconst (-1), 1) := by decide +kernel
theorem dX2_ring_77 : decode cX2_ring 77 = .ok (.if_icmp .eq 13, 3) := by decide +kernel
theorem dX2_ring_80 : decode cX2_ring 80 = .ok (.aload_n 0, 1) := by decide +kernel
theorem dX2_ring_81 : decode cX2_ring 81 = .ok (.iload_n 3, 1) := by decide +kernel
theorem dX2_ring_82 : decode cX2_ring 82 = .ok (.iload_n 2, 1) := by decide +kernel
theorem dX2_ring_83 : decode cX2_ring 83 = .ok (.invokevirtual 196, 3) := by decide +kernel
theorem dX2_ring_86 : decode cX2_ring 86 = .ok (.iload_n 2, 1) := by decide +kernel
theorem dX2_ring_87 : decode cX2_ring 87 = .ok (.iload_n 3, 1) := by decide +kernel
theorem dX2_ring_88 : decode cX2_ring 88 = .ok (.isub, 1) := by decide +kernel
theorem dX2_ring_89 : decode cX2_ring 89 = .ok (.ireturn, 1) := by decide +kernel
theorem dX2_ring_90 : decode cX2_ring 90 = .ok (.iinc 2 1, 3) := by decide +kernel
theorem dX2_ring_93 : decode cX2_ring 93 = .ok (.goto (-51), 3) := by decide +kernel
theorem dX2_ring_96 : decode cX2_ring 96 = .ok (.bipush (-2), 2) := by decide +kernel
theorem dX2_ring_98 : decode cX2_ring 98 = .ok (.ireturn, 1) := by decide +kernel
theorem dX2_ringed_0 : decode cX2_ringed 0 = .ok (.aload_n 0, 1) := by decide +kernel
theorem dX2_ringed_1 : decode cX2_ringed 1 = .ok (.getfield 47, 3) := by decide +kernel
theorem dX2_ringed_4 : decode cX2_ringed 4 = .ok (.ifCond .eq 22, 3) := by decide +kernel
theorem dX2_ringed_7 : decode cX2_ringed 7 = .ok (.iload_n 1, 1) := by decide +kernel
theorem dX2_ringed_8 : decode cX2_ringed 8 = .ok (.ifCond .lt 18, 3) := by decide +kernel
theorem dX2_ringed_11 : decode cX2_ringed 11 = .ok (.iload_n 1, 1) := by decide +kernel
theorem dX2_ringed_12 : decode cX2_ringed 12 = .ok (.bipush 8, 2) := by decide +kernel
theorem dX2_ringed_14 : decode cX2_ringed 14 = .ok (.if_icmp .ge 12, 3) := by decide +kernel
theorem dX2_ringed_17 : decode cX2_ringed 17 = .ok (.aload_n 0, 1) := by decide +kernel
theorem dX2_ringed_18 : decode cX2_ringed 18 = .ok (.getfield 44, 3) := by decide +kernel
theorem dX2_ringed_21 : decode cX2_ringed 21 = .ok (.iload_n 1, 1) := by decide +kernel
theorem dX2_ringed_22 : decode cX2_ringed 22 = .ok (.laload, 1) := by decide +kernel
theorem dX2_ringed_23 : decode cX2_ringed 23 = .ok (.goto 6, 3) := by decide +kernel
theorem dX2_ringed_26 : decode cX2_ringed 26 = .ok (.ldc2_w 200, 3) := by decide +kernel
theorem dX2_ringed_29 : decode cX2_ringed 29 = .ok (.lreturn, 1) := by decide +kernel
set_option maxRecDepth 20000 in
theorem ggX2_drawer_X2_isRate : GoodIn wsX2_drawer wsX2_isRate := goodIn_r _ [6] (by decide +kernel) (by decide +kernel)
set_option maxRecDepth 20000 in
theorem gX2_drawer_X2_isRate : GoodIn wsX2_drawer (va_wsS RX2 72 yX2_isRate wsX2_isRate) := goodIn_app (goodIn_of _ (by decide +kernel)) ggX2_drawer_X2_isRate
set_option maxRecDepth 20000 in
theorem ggX2_drawer_X2_isStocked : GoodIn wsX2_drawer wsX2_isStocked := goodIn_r _ [10, 1, 2, 11, 12, 13, 14, 15, 16, 17, 18, 19, 20, 21, 22, 23, 24, 25, 26, 27] (by decide +kernel) (by decide +kernel)
set_option maxRecDepth 20000 in
theorem gX2_drawer_X2_isStocked : GoodIn wsX2_drawer (wsV RX2 202 RX2 yX2_isStocked wsX2_isStocked) := goodIn_app (goodIn_of _ (by decide +kernel)) ggX2_drawer_X2_isStocked
theorem dX2_drawer_0 : decode cX2_drawer 0 = .ok (.iload_n 1, 1) := by decide +kernel
theorem dX2_drawer_1 : decode cX2_drawer 1 = .ok (.invokestatic 72, 3) := by decide +kernel
theorem dX2_drawer_4 : decode cX2_drawer 4 = .ok (.ifCond .eq 20, 3) := by decide +kernel
theorem dX2_drawer_7 : decode cX2_drawer 7 = .ok (.aload_n 0, 1) := by decide +kernel
theorem dX2_drawer_8 : decode cX2_drawer 8 = .ok (.iload_n 1, 1) := by decide +kernel
theorem dX2_drawer_9 : decode cX2_drawer 9 = .ok (.invokevirtual 202, 3) := by decide +kernel
theorem dX2_drawer_12 : decode cX2_drawer 12 = .ok (.ifCond .ne 12, 3) := by decide +kernel
theorem dX2_drawer_15 : decode cX2_drawer 15 = .ok (.aload_n 0, 1) := by decide +kernel
theorem dX2_drawer_16 : decode cX2_drawer 16 = .ok (.getfield 54, 3) := by decide +kernel
theorem dX2_drawer_19 : decode cX2_drawer 19 = .ok (.bipush 10, 2) := by decide +kernel
theorem dX2_drawer_21 : decode cX2_drawer 21 = .ok (.if_icmp .lt 5, 3) := by decide +kernel
theorem dX2_drawer_24 : decode cX2_drawer 24 = .ok (.iconst (-1), 1) := by decide +kernel
theorem dX2_drawer_25 : decode cX2_drawer 25 = .ok (.ireturn, 1) := by decide +kernel
theorem dX2_drawer_26 : decode cX2_drawer 26 = .ok (.aload_n 0, 1) := by decide +kernel
theorem dX2_drawer_27 : decode cX2_drawer 27 = .ok (.getfield 51, 3) := by decide +kernel
theorem dX2_drawer_30 : decode cX2_drawer 30 = .ok (.aload_n 0, 1) := by decide +kernel
theorem dX2_drawer_31 : decode cX2_drawer 31 = .ok (.getfield 54, 3) := by decide +kernel
theorem dX2_drawer_34 : decode cX2_drawer 34 = .ok (.iload_n 1, 1) := by decide +kernel
theorem dX2_drawer_35 : decode cX2_drawer 35 = .ok (.iastore, 1) := by decide +kernel
theorem dX2_drawer_36 : decode cX2_drawer 36 = .ok (.aload_n 0, 1) := by decide +kernel
theorem dX2_drawer_37 : decode cX2_drawer 37 = .ok (.dup, 1) := by decide +kernel
theorem dX2_drawer_38 : decode cX2_drawer 38 = .ok (.getfield 54, 3) := by decide +kernel
theorem dX2_drawer_41 : decode cX2_drawer 41 = .ok (.iconst 1, 1) := by decide +kernel
theorem dX2_drawer_42 : decode cX2_drawer 42 = .ok (.iadd, 1) := by decide +kernel
theorem dX2_drawer_43 : decode cX2_drawer 43 = .ok (.putfield 54, 3) := by decide +kernel
theorem dX2_drawer_46 : decode cX2_drawer 46 = .ok (.aload_n 0, 1) := by decide +kernel
theorem dX2_drawer_47 : decode cX2_drawer 47 = .ok (.getfield 54, 3) := by decide +kernel
theorem dX2_drawer_50 : decode cX2_drawer 50 = .ok (.ireturn, 1) := by decide +kernel
set_option maxRecDepth 20000 in
theorem ggX2_parts_X2_isCell : GoodIn wsX2_parts wsX2_isCell := goodIn_r _ [5, 6, 7, 26, 27, 28, 29, 30, 31, 32, 33, 34, 35, 36, 37, 38, 39, 40, 41, 42, 43, 44, 45, 46, 47, 48, 49, 50, 51, 52, 53, 54] (by decide +kernel) (by decide +kernel)
set_option maxRecDepth 20000 in
theorem gX2_parts_X2_isCell : GoodIn wsX2_parts (wsV RX2 94 RX2 yX2_isCell wsX2_isCell) := goodIn_app (goodIn_of _ (by decide +kernel)) ggX2_parts_X2_isCell
set_option maxRecDepth 20000 in
theorem ggX2_parts_X2_isTerm : GoodIn wsX2_parts wsX2_isTerm := goodIn_r _ [10, 11] (by decide +kernel) (by decide +kernel)
set_option maxRecDepth 20000 in
theorem gX2_parts_X2_isTerm : GoodIn wsX2_parts (va_wsS RX2 205 yX2_isTerm wsX2_isTerm) := goodIn_app (goodIn_of _ (by decide +kernel)) ggX2_parts_X2_isTerm
set_option maxRecDepth 20000 in
theorem ggX2_parts_X2_findWays : GoodIn wsX2_parts wsX2_findWays := goodIn_r _ [15, 16, 6, 17, 18, 19, 20, 21, 22, 23, 24, 25, 26, 27, 28, 29, 30, 31, 32, 33, 34, 35, 36, 37, 38, 39, 40, 41, 42, 43, 44, 45, 46, 47, 48, 49, 50, 51, 52, 53, 54] (by decide +kernel) (by decide +kernel)
set_option maxRecDepth 20000 in
theorem gX2_parts_X2_findWays : GoodIn wsX2_parts (wsV RX2 208 RX2 yX2_findWays wsX2_findWays) := goodIn_app (goodIn_of _ (by decide +kernel)) ggX2_parts_X2_findWays
theorem dX2_parts_0 : decode cX2_parts 0 = .ok (.aload_n 0, 1) := by decide +kernel
theorem dX2_parts_1 : decode cX2_parts 1 = .ok (.iload_n 1, 1) := by decide +kernel
theorem dX2_parts_2 : decode cX2_parts 2 = .ok (.invokevirtual 94, 3) := by decide +kernel
theorem dX2_parts_5 : decode cX2_parts 5 = .ok (.ifCond .eq 29, 3) := by decide +kernel
theorem dX2_parts_8 : decode cX2_parts 8 = .ok (.iload_n 2, 1) := by decide +kernel
theorem dX2_parts_9 : decode cX2_parts 9 = .ok (.invokestatic 205, 3) := by decide +kernel
theorem dX2_parts_12 : decode cX2_parts 12 = .ok (.ifCond .eq 22, 3) := by decide +kernel
theorem dX2_parts_15 : decode cX2_parts 15 = .ok (.iload_n 3, 1) := by decide +kernel
theorem dX2_parts_16 : decode cX2_parts 16 = .ok (.invokestatic 205, 3) := by decide +kernel
theorem dX2_parts_19 : decode cX2_parts 19 = .ok (.ifCond .eq 15, 3) := by decide +kernel
theorem dX2_parts_22 : decode cX2_parts 22 = .ok (.aload_n 0, 1) := by decide +kernel
theorem dX2_parts_23 : decode cX2_parts 23 = .ok (.iload_n 1, 1) := by decide +kernel
theorem dX2_parts_24 : decode cX2_parts 24 = .ok (.iload_n 2, 1) := by decide +kernel
theorem dX2_parts_25 : decode cX2_parts 25 = .ok (.i2l, 1) := by decide +kernel
theorem dX2_parts_26 : decode cX2_parts 26 = .ok (.iload_n 3, 1) := by decide +kernel
theorem dX2_parts_27 : decode cX2_parts 27 = .ok (.i2l, 1) := by decide +kernel
theorem dX2_parts_28 : decode cX2_parts 28 = .ok (.invokevirtual 208, 3) := by decide +kernel
theorem dX2_parts_31 : decode cX2_parts 31 = .ok (.goto 4, 3) := by decide +kernel
theorem dX2_parts_34 : decode cX2_parts 34 = .ok (.iconst (-1), 1) := by decide +kernel
theorem dX2_parts_35 : decode cX2_parts 35 = .ok (.ireturn, 1) := by decide +kernel
set_option maxRecDepth 20000 in
theorem ggX2_part_X2_parts : GoodIn wsX2_part wsX2_parts := goodIn_r _ [6, 7, 8, 9, 5, 10, 11, 12, 13, 14, 15, 16, 17, 18, 19, 20, 21, 22, 1, 23, 24, 25, 26, 27, 28, 29, 30, 31, 32, 33, 34, 35, 36, 37, 38, 39, 40, 41, 42, 43, 44, 45, 46, 47, 48, 49, 50, 51, 52, 53, 54, 55, 56, 57, 58] (by decide +kernel) (by decide +kernel)
set_option maxRecDepth 20000 in
theorem gX2_part_X2_parts : GoodIn wsX2_part (wsV RX2 212 RX2 yX2_parts wsX2_parts) := goodIn_app (goodIn_of _ (by decide +kernel)) ggX2_part_X2_parts
theorem dX2_part_0 : decode cX2_part 0 = .ok (.aload_n 0, 1) := by decide +kernel
theorem dX2_part_1 : decode cX2_part 1 = .ok (.iload_n 1, 1) := by decide +kernel
theorem dX2_part_2 : decode cX2_part 2 = .ok (.iload_n 2, 1) := by decide +kernel
theorem dX2_part_3 : decode cX2_part 3 = .ok (.iload_n 3, 1) := by decide +kernel
theorem dX2_part_4 : decode cX2_part 4 = .ok (.invokevirtual 212, 3) := by decide +kernel
theorem dX2_part_7 : decode cX2_part 7 = .ok (.istore 5, 2) := by decide +kernel
theorem dX2_part_9 : decode cX2_part 9 = .ok (.iload 4, 2) := by decide +kernel
theorem dX2_part_11 : decode cX2_part 11 = .ok (.ifCond .lt 20, 3) := by decide +kernel
theorem dX2_part_14 : decode cX2_part 14 = .ok (.iload 4, 2) := by decide +kernel
theorem dX2_part_16 : decode cX2_part 16 = .ok (.iload 5, 2) := by decide +kernel
theorem dX2_part_18 : decode cX2_part 18 = .ok (.if_icmp .ge 13, 3) := by decide +kernel
theorem dX2_part_21 : decode cX2_part 21 = .ok (.aload_n 0, 1) := by decide +kernel
theorem dX2_part_22 : decode cX2_part 22 = .ok (.getfield 66, 3) := by decide +kernel
theorem dX2_part_25 : decode cX2_part 25 = .ok (.iload 4, 2) := by decide +kernel
theorem dX2_part_27 : decode cX2_part 27 = .ok (.iaload, 1) := by decide +kernel
theorem dX2_part_28 : decode cX2_part 28 = .ok (.goto 4, 3) := by decide +kernel
theorem dX2_part_31 : decode cX2_part 31 = .ok (.iconst (-1), 1) := by decide +kernel
theorem dX2_part_32 : decode cX2_part 32 = .ok (.ireturn, 1) := by decide +kernel
set_option maxRecDepth 20000 in
theorem ggX2_measure_X2_isTerm : GoodIn wsX2_measure wsX2_isTerm := goodIn_r _ [7, 8] (by decide +kernel) (by decide +kernel)
set_option maxRecDepth 20000 in
theorem gX2_measure_X2_isTerm : GoodIn wsX2_measure (va_wsS RX2 205 yX2_isTerm wsX2_isTerm) := goodIn_app (goodIn_of _ (by decide +kernel)) ggX2_measure_X2_isTerm
theorem dX2_measure_0 : decode cX2_measure 0 = .ok (.iload_n 1, 1) := by decide +kernel
theorem dX2_measure_1 : decode cX2_measure 1 = .ok (.invokestatic 205, 3) := by decide +kernel
theorem dX2_measure_4 : decode cX2_measure 4 = .ok (.ifCond .eq 19, 3) := by decide +kernel
theorem dX2_measure_7 : decode cX2_measure 7 = .ok (.iload_n 2, 1) := by decide +kernel
theorem dX2_measure_8 : decode cX2_measure 8 = .ok (.invokestatic 205, 3) := by decide +kernel
theorem dX2_measure_11 : decode cX2_measure 11 = .ok (.ifCond .eq 12, 3) := by decide +kernel
theorem dX2_measure_14 : decode cX2_measure 14 = .ok (.aload_n 0, 1) := by decide +kernel
theorem dX2_measure_15 : decode cX2_measure 15 = .ok (.getfield 63, 3) := by decide +kernel
theorem dX2_measure_18 : decode cX2_measure 18 = .ok (.bipush 8, 2) := by decide +kernel
theorem dX2_measure_20 : decode cX2_measure 20 = .ok (.if_icmp .lt 5, 3) := by decide +kernel
theorem dX2_measure_23 : decode cX2_measure 23 = .ok (.iconst (-1), 1) := by decide +kernel
theorem dX2_measure_24 : decode cX2_measure 24 = .ok (.ireturn, 1) := by decide +kernel
theorem dX2_measure_25 : decode cX2_measure 25 = .ok (.aload_n 0, 1) := by decide +kernel
theorem dX2_measure_26 : decode cX2_measure 26 = .ok (.getfield 57, 3) := by decide +kernel
theorem dX2_measure_29 : decode cX2_measure 29 = .ok (.aload_n 0, 1) := by decide +kernel
theorem dX2_measure_30 : decode cX2_measure 30 = .ok (.getfield 63, 3) := by decide +kernel
theorem dX2_measure_33 : decode cX2_measure 33 = .ok (.iload_n 1, 1) := by decide +kernel
theorem dX2_measure_34 : decode cX2_measure 34 = .ok (.iastore, 1) := by decide +kernel
theorem dX2_measure_35 : decode cX2_measure 35 = .ok (.aload_n 0, 1) := by decide +kernel
theorem dX2_measure_36 : decode cX2_measure 36 = .ok (.getfield 60, 3) := by decide +kernel
theorem dX2_measure_39 : decode cX2_measure 39 = .ok (.aload_n 0, 1) := by decide +kernel
theorem dX2_measure_40 : decode cX2_measure 40 = .ok (.getfield 63, 3) := by decide +kernel
theorem dX2_measure_43 : decode cX2_measure 43 = .ok (.iload_n 2, 1) := by decide +kernel
theorem dX2_measure_44 : decode cX2_measure 44 = .ok (.iastore, 1) := by decide +kernel
theorem dX2_measure_45 : decode cX2_measure 45 = .ok (.aload_n 0, 1) := by decide +kernel
theorem dX2_measure_46 : decode cX2_measure 46 = .ok (.dup, 1) := by decide +kernel
theorem dX2_measure_47 : decode cX2_measure 47 = .ok (.getfield 63, 3) := by decide +kernel
theorem dX2_measure_50 : decode cX2_measure 50 = .ok (.iconst 1, 1) := by decide +kernel
theorem dX2_measure_51 : decode cX2_measure 51 = .ok (.iadd, 1) := by decide +kernel
theorem dX2_measure_52 : decode cX2_measure 52 = .ok (.putfield 63, 3) := by decide +kernel
theorem dX2_measure_55 : decode cX2_measure 55 = .ok (.aload_n 0, 1) := by decide +kernel
theorem dX2_measure_56 : decode cX2_measure 56 = .ok (.getfield 63, 3) := by decide +kernel
theorem dX2_measure_59 : decode cX2_measure 59 = .ok (.ireturn, 1) := by decide +kernel
theorem dX2_forget_0 : decode cX2_forget 0 = .ok (.aload_n 0, 1) := by decide +kernel
theorem dX2_forget_1 : decode cX2_forget 1 = .ok (.getfield 63, 3) := by decide +kernel
theorem dX2_forget_4 : decode cX2_forget 4 = .ok (.istore_n 1, 1) := by decide +kernel
theorem dX2_forget_5 : decode cX2_forget 5 = .ok (.aload_n 0, 1) := by decide +kernel
theorem dX2_forget_6 : decode cX2_forget 6 = .ok (.iconst 0, 1) := by decide +kernel
theorem dX2_forget_7 : decode cX2_forget 7 = .ok (.putfield 63, 3) := by decide +kernel
theorem dX2_forget_10 : decode cX2_forget 10 = .ok (.iload_n 1, 1) := by decide +kernel
theorem dX2_forget_11 : decode cX2_forget 11 = .ok (.ireturn, 1) := by decide +kernel
set_option maxRecDepth 20000 in
theorem ggX2_faults_X2_isCell : GoodIn wsX2_faults wsX2_isCell := goodIn_r _ [5, 6, 7, 117, 118, 119, 120, 121, 122, 123, 124, 125, 126, 127, 128, 129, 130, 131, 132, 133, 134, 135, 136, 137, 138, 139, 140, 141, 142, 143, 144, 145] (by decide +kernel) (by decide +kernel)
set_option maxRecDepth 20000 in
theorem gX2_faults_X2_isCell : GoodIn wsX2_faults (wsV RX2 94 RX2 yX2_isCell wsX2_isCell) := goodIn_app (goodIn_of _ (by decide +kernel)) ggX2_faults_X2_isCell
set_option maxRecDepth 20000 in
theorem ggX2_faults_X2_findFaults : GoodIn wsX2_faults wsX2_findFaults := goodIn_r _ [11, 6, 7, 12, 13, 14, 15, 16, 17, 18, 19, 20, 21, 22, 23, 24, 4, 25, 26, 27, 28, 29, 30, 31, 32, 33, 34, 35, 36, 37, 38, 39, 40, 41, 42, 43, 44, 45, 46, 47, 48, 49, 50, 51, 52, 53, 54, 55, 56, 57, 58, 59, 60, 61, 62, 63, 64, 65, 66, 67, 68, 69, 70, 71, 72, 73, 74, 75, 76, 77, 78, 79, 80, 81, 82, 83, 84, 85, 86, 87, 88, 89, 90, 91, 92, 93, 94, 95, 96, 97, 98, 99, 100, 101, 102, 103, 104, 105, 106, 107, 108, 109, 110, 111, 112, 113, 114, 115, 116, 117, 118, 119, 120, 121, 122, 123, 124, 125, 126, 127, 128, 129, 130, 131, 132, 133, 134, 135, 136, 137, 138, 139, 140, 141, 142, 143, 144, 145, 146, 147, 148, 149, 150, 151, 152, 153, 154, 155] (by decide +kernel) (by decide +kernel)
set_option maxRecDepth 20000 in
theorem gX2_faults_X2_findFaults : GoodIn wsX2_faults (wsV RX2 216 RX2 yX2_findFaults wsX2_findFaults) := goodIn_app (goodIn_of _ (by decide +kernel)) ggX2_faults_X2_findFaults
theorem dX2_faults_0 : decode cX2_faults 0 = .ok (.aload_n 0, 1) := by decide +kernel
theorem dX2_faults_1 : decode cX2_faults 1 = .ok (.iload_n 1, 1) := by decide +kernel
theorem dX2_faults_2 : decode cX2_faults 2 = .ok (.invokevirtual 94, 3) := by decide +kernel
theorem dX2_faults_5 : decode cX2_faults 5 = .ok (.ifCond .eq 11, 3) := by decide +kernel
theorem dX2_faults_8 : decode cX2_faults 8 = .ok (.aload_n 0, 1) := by decide +kernel
theorem dX2_faults_9 : decode cX2_faults 9 = .ok (.iload_n 1, 1) := by decide +kernel
theorem dX2_faults_10 : decode cX2_faults 10 = .ok (.invokevirtual 216, 3) := by decide +kernel
theorem dX2_faults_13 : decode cX2_faults 13 = .ok (.goto 4, 3) := by decide +kernel
theorem dX2_faults_16 : decode cX2_faults 16 = .ok (.iconst (-1), 1) := by decide +kernel
theorem dX2_faults_17 : decode cX2_faults 17 = .ok (.ireturn, 1) := by decide +kernel
set_option maxRecDepth 20000 in
theorem ggX2_fault_X2_isCell : GoodIn wsX2_fault wsX2_isCell := goodIn_r _ [6, 7, 8, 117, 118, 119, 120, 121, 122, 123, 124, 125, 126, 127, 128, 129, 130, 131, 132, 133, 134, 135, 136, 137, 138, 139, 140, 141, 142, 143, 144, 145] (by decide +kernel) (by decide +kernel)
set_option maxRecDepth 20000 in
theorem gX2_fault_X2_isCell : GoodIn wsX2_fault (wsV RX2 94 RX2 yX2_isCell wsX2_isCell) := goodIn_app (goodIn_of _ (by decide +kernel)) ggX2_fault_X2_isCell
set_option maxRecDepth 20000 in
theorem ggX2_fault_X2_findFaults : GoodIn wsX2_fault wsX2_findFaults := goodIn_r _ [12, 7, 8, 13, 14, 1, 15, 16, 17, 18, 19, 20, 21, 22, 23, 24, 5, 25, 26, 27, 28, 29, 30, 31, 32, 33, 34, 35, 36, 37, 38, 39, 40, 41, 42, 43, 44, 45, 46, 47, 48, 49, 50, 51, 52, 53, 54, 55, 56, 57, 58, 59, 60, 61, 62, 63, 64, 65, 66, 67, 68, 69, 70, 71, 72, 73, 74, 75, 76, 77, 78, 79, 80, 81, 82, 83, 84, 85, 86, 87, 88, 89, 90, 91, 92, 93, 94, 95, 96, 97, 98, 99, 100, 101, 102, 103, 104, 105, 106, 107, 108, 109, 110, 111, 112, 113, 114, 115, 116, 117, 118, 119, 120, 121, 122, 123, 124, 125, 126, 127, 128, 129, 130, 131, 132, 133, 134, 135, 136, 137, 138, 139, 140, 141, 142, 143, 144, 145, 146, 147, 148, 149, 150, 151, 152, 153, 154, 155] (by decide +kernel) (by decide +kernel)
set_option maxRecDepth 20000 in
theorem gX2_fault_X2_findFaults : GoodIn wsX2_fault (wsV RX2 216 RX2 yX2_findFaults wsX2_findFaults) := goodIn_app (goodIn_of _ (by decide +kernel)) ggX2_fault_X2_findFaults
theorem dX2_fault_0 : decode cX2_fault 0 = .ok (.aload_n 0, 1) := by decide +kernel
theorem dX2_fault_1 : decode cX2_fault 1 = .ok (.iload_n 1, 1) := by decide +kernel
theorem dX2_fault_2 : decode cX2_fault 2 = .ok (.invokevirtual 94, 3) := by decide +kernel
theorem dX2_fault_5 : decode cX2_fault 5 = .ok (.ifCond .eq 11, 3) := by decide +kernel
theorem dX2_fault_8 : decode cX2_fault 8 = .ok (.aload_n 0, 1) := by decide +kernel
theorem dX2_fault_9 : decode cX2_fault 9 = .ok (.iload_n 1, 1) := by decide +kernel
theorem dX2_fault_10 : decode cX2_fault 10 = .ok (.invokevirtual 216, 3) := by decide +kernel
theorem dX2_fault_13 : decode cX2_fault 13 = .ok (.goto 4, 3) := by decide +kernel
theorem dX2_fault_16 : decode cX2_fault 16 = .ok (.iconst 0, 1) := by decide +kernel
theorem dX2_fault_17 : decode cX2_fault 17 = .ok (.istore_n 3, 1) := by decide +kernel
theorem dX2_fault_18 : decode cX2_fault 18 = .ok (.iload_n 2, 1) := by decide +kernel
theorem dX2_fault_19 : decode cX2_fault 19 = .ok (.ifCond .lt 17, 3) := by decide +kernel
theorem dX2_fault_22 : decode cX2_fault 22 = .ok (.iload_n 2, 1) := by decide +kernel
theorem dX2_fault_23 : decode cX2_fault 23 = .ok (.iload_n 3, 1) := by decide +kernel
theorem dX2_fault_24 : decode cX2_fault 24 = .ok (.if_icmp .ge 12, 3) := by decide +kernel
theorem dX2_fault_27 : decode cX2_fault 27 = .ok (.aload_n 0, 1) := by decide +kernel
theorem dX2_fault_28 : decode cX2_fault 28 = .ok (.getfield 69, 3) := by decide +kernel
theorem dX2_fault_31 : decode cX2_fault 31 = .ok (.iload_n 2, 1) := by decide +kernel
theorem dX2_fault_32 : decode cX2_fault 32 = .ok (.iaload, 1) := by decide +kernel
theorem dX2_fault_33 : decode cX2_fault 33 = .ok (.goto 4, 3) := by decide +kernel
theorem dX2_fault_36 : decode cX2_fault 36 = .ok (.iconst (-1), 1) := by decide +kernel
theorem dX2_fault_37 : decode cX2_fault 37 = .ok (.ireturn, 1) := by decide +kernel
set_option maxRecDepth 20000 in
theorem ggX2_fits_X2_isCell : GoodIn wsX2_fits wsX2_isCell := goodIn_r _ [5, 6, 7, 103, 104, 105, 106, 107, 108, 109, 110, 111, 112, 113, 114, 115, 116, 117, 118, 119, 120, 121, 122, 123, 124, 125, 126, 127, 128, 129, 130, 131] (by decide +kernel) (by decide +kernel)
set_option maxRecDepth 20000 in
theorem gX2_fits_X2_isCell : GoodIn wsX2_fits (wsV RX2 94 RX2 yX2_isCell wsX2_isCell) := goodIn_app (goodIn_of _ (by decide +kernel)) ggX2_fits_X2_isCell
set_option maxRecDepth 20000 in
theorem ggX2_fits_X2_isMeasuredSo : GoodIn wsX2_fits wsX2_isMeasuredSo := goodIn_r _ [11, 12, 13, 6, 14, 15, 16, 17, 18, 19, 20, 21, 22, 23, 24, 25, 26, 27, 28, 29, 30, 31, 32, 33, 34, 35, 36, 37, 38, 39, 40, 41, 42, 43, 44, 45, 46, 47, 48, 4, 49, 50, 51, 52, 53, 54, 55, 56, 57, 58, 59, 60, 61, 62, 63, 64, 65, 66, 67, 68, 69, 70, 71, 72, 73, 74, 75, 76, 77, 78, 79, 80, 81, 82, 83, 84, 85, 86, 87, 88, 89, 90, 91, 92, 93, 94, 95, 96, 97, 98, 99, 100, 101, 102, 103, 104, 105, 106, 107, 108, 109, 110, 111, 112, 113, 114, 115, 116, 117, 118, 119, 132, 133, 134, 135, 136, 137, 138, 139, 140, 141, 120, 121, 122, 123, 124, 125, 126, 127, 128, 129, 130, 131] (by decide +kernel) (by decide +kernel)
set_option maxRecDepth 20000 in
theorem gX2_fits_X2_isMeasuredSo : GoodIn wsX2_fits (wsV RX2 219 RX2 yX2_isMeasuredSo wsX2_isMeasuredSo) := goodIn_app (goodIn_of _ (by decide +kernel)) ggX2_fits_X2_isMeasuredSo
theorem dX2_fits_0 : decode cX2_fits 0 = .ok (.aload_n 0, 1) := by decide +kernel
theorem dX2_fits_1 : decode cX2_fits 1 = .ok (.iload_n 1, 1) := by decide +kernel
theorem dX2_fits_2 : decode cX2_fits 2 = .ok (.invokevirtual 94, 3) := by decide +kernel
theorem dX2_fits_5 : decode cX2_fits 5 = .ok (.ifCond .ne 5, 3) := by decide +kernel
theorem dX2_fits_8 : decode cX2_fits 8 = .ok (.iconst (-1), 1) := by decide +kernel
theorem dX2_fits_9 : decode cX2_fits 9 = .ok (.ireturn, 1) := by decide +kernel
theorem dX2_fits_10 : decode cX2_fits 10 = .ok (.aload_n 0, 1) := by decide +kernel
theorem dX2_fits_11 : decode cX2_fits 11 = .ok (.iload_n 1, 1) := by decide +kernel
theorem dX2_fits_12 : decode cX2_fits 12 = .ok (.invokevirtual 219, 3) := by decide +kernel
theorem dX2_fits_15 : decode cX2_fits 15 = .ok (.ifCond .eq 7, 3) := by decide +kernel
theorem dX2_fits_18 : decode cX2_fits 18 = .ok (.iconst 1, 1) := by decide +kernel
theorem dX2_fits_19 : decode cX2_fits 19 = .ok (.goto 4, 3) := by decide +kernel
theorem dX2_fits_22 : decode cX2_fits 22 = .ok (.iconst 0, 1) := by decide +kernel
theorem dX2_fits_23 : decode cX2_fits 23 = .ok (.ireturn, 1) := by decide +kernel
theorem dX2_isCell_0 : decode cX2_isCell 0 = .ok (.iload_n 1, 1) := by decide +kernel
theorem dX2_isCell_1 : decode cX2_isCell 1 = .ok (.ifCond .lt 18, 3) := by decide +kernel
theorem dX2_isCell_4 : decode cX2_isCell 4 = .ok (.iload_n 1, 1) := by decide +kernel
theorem dX2_isCell_5 : decode cX2_isCell 5 = .ok (.aload_n 0, 1) := by decide +kernel
theorem dX2_isCell_6 : decode cX2_isCell 6 = .ok (.getfield 12, 3) := by decide +kernel
theorem dX2_isCell_9 : decode cX2_isCell 9 = .ok (.getfield 76, 3) := by decide +kernel
theorem dX2_isCell_12 : decode cX2_isCell 12 = .ok (.if_icmp .ge 7, 3) := by decide +kernel
theorem dX2_isCell_15 : decode cX2_isCell 15 = .ok (.iconst 1, 1) := by decide +kernel
theorem dX2_isCell_16 : decode cX2_isCell 16 = .ok (.goto 4, 3) := by decide +kernel
theorem dX2_isCell_19 : decode cX2_isCell 19 = .ok (.iconst 0, 1) := by decide +kernel
theorem dX2_isCell_20 : decode cX2_isCell 20 = .ok (.ireturn, 1) := by decide +kernel
theorem dX2_isRate_0 : decode cX2_isRate 0 = .ok (.iload_n 0, 1) := by decide +kernel
theorem dX2_isRate_1 : decode cX2_isRate 1 = .ok (.iconst 1, 1) := by decide +kernel
theorem dX2_isRate_2 : decode cX2_isRate 2 = .ok (.if_icmp .lt 13, 3) := by decide +kernel
theorem dX2_isRate_5 : decode cX2_isRate 5 = .ok (.iload_n 0, 1) := by decide +kernel
theorem dX2_isRate_6 : decode cX2_isRate 6 = .ok (.bipush 60, 2) := by decide +kernel
theorem dX2_isRate_8 : decode cX2_isRate 8 = .ok (.if_icmp .gt 7, 3) := by decide +kernel
theorem dX2_isRate_11 : decode cX2_isRate 11 = .ok (.iconst 1, 1) := by decide +kernel
theorem dX2_isRate_12 : decode cX2_isRate 12 = .ok (.goto 4, 3) := by decide +kernel
theorem dX2_isRate_15 : decode cX2_isRate 15 = .ok (.iconst 0, 1) := by decide +kernel
theorem dX2_isRate_16 : decode cX2_isRate 16 = .ok (.ireturn, 1) := by decide +kernel
theorem dX2_isTerm_0 : decode cX2_isTerm 0 = .ok (.iload_n 0, 1) := by decide +kernel
theorem dX2_isTerm_1 : decode cX2_isTerm 1 = .ok (.iconst 1, 1) := by decide +kernel
theorem dX2_isTerm_2 : decode cX2_isTerm 2 = .ok (.if_icmp .lt 13, 3) := by decide +kernel
theorem dX2_isTerm_5 : decode cX2_isTerm 5 = .ok (.iload_n 0, 1) := by decide +kernel
theorem dX2_isTerm_6 : decode cX2_isTerm 6 = .ok (.ldc 222, 2) := by decide +kernel
theorem dX2_isTerm_8 : decode cX2_isTerm 8 = .ok (.if_icmp .gt 7, 3) := by decide +kernel
theorem dX2_isTerm_11 : decode cX2_isTerm 11 = .ok (.iconst 1, 1) := by decide +kernel
theorem dX2_isTerm_12 : decode cX2_isTerm 12 = .ok (.goto 4, 3) := by decide +kernel
theorem dX2_isTerm_15 : decode cX2_isTerm 15 = .ok (.iconst 0, 1) := by decide +kernel
theorem dX2_isTerm_16 : decode cX2_isTerm 16 = .ok (.ireturn, 1) := by decide +kernel
theorem dX2_isAct_0 : decode cX2_isAct 0 = .ok (.iload_n 0, 1) := by decide +kernel
theorem dX2_isAct_1 : decode cX2_isAct 1 = .ok (.tableswitch 62 0 2 #[27, 45, 47], 27) := by decide +kernel
theorem dX2_isAct_28 : decode cX2_isAct 28 = .ok (.iload_n 1, 1) := by decide +kernel
theorem dX2_isAct_29 : decode cX2_isAct 29 = .ok (.bipush (-20), 2) := by decide +kernel
theorem dX2_isAct_31 : decode cX2_isAct 31 = .ok (.if_icmp .lt 13, 3) := by decide +kernel
theorem dX2_isAct_34 : decode cX2_isAct 34 = .ok (.iload_n 1, 1) := by decide +kernel
theorem dX2_isAct_35 : decode cX2_isAct 35 = .ok (.bipush 20, 2) := by decide +kernel
theorem dX2_isAct_37 : decode cX2_isAct 37 = .ok (.if_icmp .gt 7, 3) := by decide +kernel
theorem dX2_isAct_40 : decode cX2_isAct 40 = .ok (.iconst 1, 1) := by decide +kernel
theorem dX2_isAct_41 : decode cX2_isAct 41 = .ok (.goto 4, 3) := by decide +kernel
theorem dX2_isAct_44 : decode cX2_isAct 44 = .ok (.iconst 0, 1) := by decide +kernel
theorem dX2_isAct_45 : decode cX2_isAct 45 = .ok (.ireturn, 1) := by decide +kernel
theorem dX2_isAct_46 : decode cX2_isAct 46 = .ok (.iconst 1, 1) := by decide +kernel
theorem dX2_isAct_47 : decode cX2_isAct 47 = .ok (.ireturn, 1) := by decide +kernel
theorem dX2_isAct_48 : decode cX2_isAct 48 = .ok (.iload_n 1, 1) := by decide +kernel
theorem dX2_isAct_49 : decode cX2_isAct 49 = .ok (.ifCond .eq 8, 3) := by decide +kernel
theorem dX2_isAct_52 : decode cX2_isAct 52 = .ok (.iload_n 1, 1) := by decide +kernel
theorem dX2_isAct_53 : decode cX2_isAct 53 = .ok (.iconst 1, 1) := by decide +kernel
theorem dX2_isAct_54 : decode cX2_isAct 54 = .ok (.if_icmp .ne 7, 3) := by decide +kernel
theorem dX2_isAct_57 : decode cX2_isAct 57 = .ok (.iconst 1, 1) := by decide +kernel
theorem dX2_isAct_58 : decode cX2_isAct 58 = .ok (.goto 4, 3) := by decide +kernel
theorem dX2_isAct_61 : decode cX2_isAct 61 = .ok (.iconst 0, 1) := by decide +kernel
theorem dX2_isAct_62 : decode cX2_isAct 62 = .ok (.ireturn, 1) := by decide +kernel
theorem dX2_isAct_63 : decode cX2_isAct 63 = .ok (.iconst 0, 1) := by decide +kernel
theorem dX2_isAct_64 : decode cX2_isAct 64 = .ok (.ireturn, 1) := by decide +kernel
theorem dX2_isStocked_0 : decode cX2_isStocked 0 = .ok (.iconst 0, 1) := by decide +kernel
theorem dX2_isStocked_1 : decode cX2_isStocked 1 = .ok (.istore_n 2, 1) := by decide +kernel
theorem dX2_isStocked_2 : decode cX2_isStocked 2 = .ok (.iload_n 2, 1) := by decide +kernel
theorem dX2_isStocked_3 : decode cX2_isStocked 3 = .ok (.aload_n 0, 1) := by decide +kernel
theorem dX2_isStocked_4 : decode cX2_isStocked 4 = .ok (.getfield 54, 3) := by decide +kernel
theorem dX2_isStocked_7 : decode cX2_isStocked 7 = .ok (.if_icmp .ge 21, 3) := by decide +kernel
theorem dX2_isStocked_10 : decode cX2_isStocked 10 = .ok (.aload_n 0, 1) := by decide +kernel
theorem dX2_isStocked_11 : decode cX2_isStocked 11 = .ok (.getfield 51, 3) := by decide +kernel
theorem dX2_isStocked_14 : decode cX2_isStocked 14 = .ok (.iload_n 2, 1) := by decide +kernel
theorem dX2_isStocked_15 : decode cX2_isStocked 15 = .ok (.iaload, 1) := by decide +kernel
theorem dX2_isStocked_16 : decode cX2_isStocked 16 = .ok (.iload_n 1, 1) := by decide +kernel
theorem dX2_isStocked_17 : decode cX2_isStocked 17 = .ok (.if_icmp .ne 5, 3) := by decide +kernel
theorem dX2_isStocked_20 : decode cX2_isStocked 20 = .ok (.iconst 1, 1) := by decide +kernel
theorem dX2_isStocked_21 : decode cX2_isStocked 21 = .ok (.ireturn, 1) := by decide +kernel
theorem dX2_isStocked_22 : decode cX2_isStocked 22 = .ok (.iinc 2 1, 3) := by decide +kernel
theorem dX2_isStocked_25 : decode cX2_isStocked 25 = .ok (.goto (-23), 3) := by decide +kernel
theorem dX2_isStocked_28 : decode cX2_isStocked 28 = .ok (.iconst 0, 1) := by decide +kernel
theorem dX2_isStocked_29 : decode cX2_isStocked 29 = .ok (.ireturn, 1) := by decide +kernel
set_option maxRecDepth 20000 in
theorem ggX2_startAgain_X1_restart : GoodIn wsX2_startAgain wsX1_restart := goodIn_r _ [10, 11, 12, 13, 14, 15, 16, 17, 35, 36, 37, 38, 39, 40, 41, 42, 43, 44, 45, 46, 47, 48, 49, 50, 51, 52, 53, 54, 55, 56] (by decide +kernel) (by decide +kernel)
set_option maxRecDepth 20000 in
theorem gX2_startAgain_X1_restart : GoodIn wsX2_startAgain (wsV RX2 223 RX1 yX1_restart wsX1_restart) := goodIn_app (goodIn_of _ (by decide +kernel)) ggX2_startAgain_X1_restart
theorem dX2_startAgain_0 : decode cX2_startAgain 0 = .ok (.aload_n 0, 1) := by decide +kernel
theorem dX2_startAgain_1 : decode cX2_startAgain 1 = .ok (.getfield 19, 3) := by decide +kernel
theorem dX2_startAgain_4 : decode cX2_startAgain 4 = .ok (.aload_n 0, 1) := by decide +kernel
theorem dX2_startAgain_5 : decode cX2_startAgain 5 = .ok (.getfield 12, 3) := by decide +kernel
theorem dX2_startAgain_8 : decode cX2_startAgain 8 = .ok (.invokevirtual 223, 3) := by decide +kernel
theorem dX2_startAgain_11 : decode cX2_startAgain 11 = .ok (.aload_n 0, 1) := by decide +kernel
theorem dX2_startAgain_12 : decode cX2_startAgain 12 = .ok (.iconst 0, 1) := by decide +kernel
theorem dX2_startAgain_13 : decode cX2_startAgain 13 = .ok (.putfield 26, 3) := by decide +kernel
theorem dX2_startAgain_16 : decode cX2_startAgain 16 = .ok (.iconst 0, 1) := by decide +kernel
theorem dX2_startAgain_17 : decode cX2_startAgain 17 = .ok (.istore_n 1, 1) := by decide +kernel
theorem dX2_startAgain_18 : decode cX2_startAgain 18 = .ok (.iload_n 1, 1) := by decide +kernel
theorem dX2_startAgain_19 : decode cX2_startAgain 19 = .ok (.iconst 4, 1) := by decide +kernel
theorem dX2_startAgain_20 : decode cX2_startAgain 20 = .ok (.if_icmp .ge 23, 3) := by decide +kernel
theorem dX2_startAgain_23 : decode cX2_startAgain 23 = .ok (.aload_n 0, 1) := by decide +kernel
theorem dX2_startAgain_24 : decode cX2_startAgain 24 = .ok (.getfield 30, 3) := by decide +kernel
theorem dX2_startAgain_27 : decode cX2_startAgain 27 = .ok (.iload_n 1, 1) := by decide +kernel
theorem dX2_startAgain_28 : decode cX2_startAgain 28 = .ok (.iconst 0, 1) := by decide +kernel
theorem dX2_startAgain_29 : decode cX2_startAgain 29 = .ok (.iastore, 1) := by decide +kernel
theorem dX2_startAgain_30 : decode cX2_startAgain 30 = .ok (.aload_n 0, 1) := by decide +kernel
theorem dX2_startAgain_31 : decode cX2_startAgain 31 = .ok (.getfield 34, 3) := by decide +kernel
theorem dX2_startAgain_34 : decode cX2_startAgain 34 = .ok (.iload_n 1, 1) := by decide +kernel
theorem dX2_startAgain_35 : decode cX2_startAgain 35 = .ok (.iconst 0, 1) := by decide +kernel
theorem dX2_startAgain_36 : decode cX2_startAgain 36 = .ok (.iastore, 1) := by decide +kernel
theorem dX2_startAgain_37 : decode cX2_startAgain 37 = .ok (.iinc 1 1, 3) := by decide +kernel
theorem dX2_startAgain_40 : decode cX2_startAgain 40 = .ok (.goto (-22), 3) := by decide +kernel
theorem dX2_startAgain_43 : decode cX2_startAgain 43 = .ok (.return_, 1) := by decide +kernel
set_option maxRecDepth 20000 in
theorem ggX2_noteEvent_X1_packedEvent : GoodIn wsX2_noteEvent wsX1_packedEvent := goodIn_r _ [12, 13, 14, 15, 16, 17, 18, 19, 37, 38, 39, 40, 41, 42, 43, 44, 45, 46] (by decide +kernel) (by decide +kernel)
set_option maxRecDepth 20000 in
theorem gX2_noteEvent_X1_packedEvent : GoodIn wsX2_noteEvent (wsV RX2 227 RX1 yX1_packedEvent wsX1_packedEvent) := goodIn_app (goodIn_of _ (by decide +kernel)) ggX2_noteEvent_X1_packedEvent
theorem dX2_noteEvent_0 : decode cX2_noteEvent 0 = .ok (.aload_n 0, 1) := by decide +kernel
theorem dX2_noteEvent_1 : decode cX2_noteEvent 1 = .ok (.getfield 26, 3) := by decide +kernel
theorem dX2_noteEvent_4 : decode cX2_noteEvent 4 = .ok (.sipush 500, 3) := by decide +kernel
theorem dX2_noteEvent_7 : decode cX2_noteEvent 7 = .ok (.if_icmp .ge 19, 3) := by decide +kernel
theorem dX2_noteEvent_10 : decode cX2_noteEvent 10 = .ok (.aload_n 0, 1) := by decide +kernel
theorem dX2_noteEvent_11 : decode cX2_noteEvent 11 = .ok (.getfield 37, 3) := by decide +kernel
theorem dX2_noteEvent_14 : decode cX2_noteEvent 14 = .ok (.aload_n 0, 1) := by decide +kernel
theorem dX2_noteEvent_15 : decode cX2_noteEvent 15 = .ok (.getfield 26, 3) := by decide +kernel
theorem dX2_noteEvent_18 : decode cX2_noteEvent 18 = .ok (.aload_n 0, 1) := by decide +kernel
theorem dX2_noteEvent_19 : decode cX2_noteEvent 19 = .ok (.getfield 19, 3) := by decide +kernel
theorem dX2_noteEvent_22 : decode cX2_noteEvent 22 = .ok (.invokevirtual 227, 3) := by decide +kernel
theorem dX2_noteEvent_25 : decode cX2_noteEvent 25 = .ok (.lastore, 1) := by decide +kernel
theorem dX2_noteEvent_26 : decode cX2_noteEvent 26 = .ok (.aload_n 0, 1) := by decide +kernel
theorem dX2_noteEvent_27 : decode cX2_noteEvent 27 = .ok (.dup, 1) := by decide +kernel
theorem dX2_noteEvent_28 : decode cX2_noteEvent 28 = .ok (.getfield 26, 3) := by decide +kernel
theorem dX2_noteEvent_31 : decode cX2_noteEvent 31 = .ok (.iconst 1, 1) := by decide +kernel
theorem dX2_noteEvent_32 : decode cX2_noteEvent 32 = .ok (.iadd, 1) := by decide +kernel
theorem dX2_noteEvent_33 : decode cX2_noteEvent 33 = .ok (.putfield 26, 3) := by decide +kernel
theorem dX2_noteEvent_36 : decode cX2_noteEvent 36 = .ok (.aload_n 0, 1) := by decide +kernel
theorem dX2_noteEvent_37 : decode cX2_noteEvent 37 = .ok (.getfield 19, 3) := by decide +kernel
theorem dX2_noteEvent_40 : decode cX2_noteEvent 40 = .ok (.getfield 231, 3) := by decide +kernel
theorem dX2_noteEvent_43 : decode cX2_noteEvent 43 = .ok (.ifCond .ne 22, 3) := by decide +kernel
theorem dX2_noteEvent_46 : decode cX2_noteEvent 46 = .ok (.aload_n 0, 1) := by decide +kernel
theorem dX2_noteEvent_47 : decode cX2_noteEvent 47 = .ok (.getfield 30, 3) := by decide +kernel
theorem dX2_noteEvent_50 : decode cX2_noteEvent 50 = .ok (.aload_n 0, 1) := by decide +kernel
theorem dX2_noteEvent_51 : decode cX2_noteEvent 51 = .ok (.getfield 19, 3) := by decide +kernel
theorem dX2_noteEvent_54 : decode cX2_noteEvent 54 = .ok (.getfield 234, 3) := by decide +kernel
theorem dX2_noteEvent_57 : decode cX2_noteEvent 57 = .ok (.dup2, 1) := by decide +kernel
theorem dX2_noteEvent_58 : decode cX2_noteEvent 58 = .ok (.iaload, 1) := by decide +kernel
theorem dX2_noteEvent_59 : decode cX2_noteEvent 59 = .ok (.iconst 1, 1) := by decide +kernel
theorem dX2_noteEvent_60 : decode cX2_noteEvent 60 = .ok (.iadd, 1) := by decide +kernel
theorem dX2_noteEvent_61 : decode cX2_noteEvent 61 = .ok (.iastore, 1) := by decide +kernel
theorem dX2_noteEvent_62 : decode cX2_noteEvent 62 = .ok (.goto 19, 3) := by decide +kernel
theorem dX2_noteEvent_65 : decode cX2_noteEvent 65 = .ok (.aload_n 0, 1) := by decide +kernel
theorem dX2_noteEvent_66 : decode cX2_noteEvent 66 = .ok (.getfield 34, 3) := by decide +kernel
theorem dX2_noteEvent_69 : decode cX2_noteEvent 69 = .ok (.aload_n 0, 1) := by decide +kernel
theorem dX2_noteEvent_70 : decode cX2_noteEvent 70 = .ok (.getfield 19, 3) := by decide +kernel
theorem dX2_noteEvent_73 : decode cX2_noteEvent 73 = .ok (.getfield 234, 3) := by decide +kernel
theorem dX2_noteEvent_76 : decode cX2_noteEvent 76 = .ok (.dup2, 1) := by decide +kernel
theorem dX2_noteEvent_77 : decode cX2_noteEvent 77 = .ok (.iaload, 1) := by decide +kernel
theorem dX2_noteEvent_78 : decode cX2_noteEvent 78 = .ok (.iconst 1, 1) := by decide +kernel
theorem dX2_noteEvent_79 : decode cX2_noteEvent 79 = .ok (.iadd, 1) := by decide +kernel
theorem dX2_noteEvent_80 : decode cX2_noteEvent 80 = .ok (.iastore, 1) := by decide +kernel
theorem dX2_noteEvent_81 : decode cX2_noteEvent 81 = .ok (.return_, 1) := by decide +kernel
set_option maxRecDepth 20000 in
theorem ggX2_isNextSpent_X1_copyFrom : GoodIn wsX2_isNextSpent wsX1_copyFrom := goodIn_r _ [9, 10, 11, 12, 13, 14, 15, 97, 98, 99, 100, 101, 102, 103, 104, 105, 106] (by decide +kernel) (by decide +kernel)
set_option maxRecDepth 20000 in
theorem gX2_isNextSpent_X1_copyFrom : GoodIn wsX2_isNextSpent (wsV RX2 126 RX1 yX1_copyFrom wsX1_copyFrom) := goodIn_app (goodIn_of _ (by decide +kernel)) ggX2_isNextSpent_X1_copyFrom
set_option maxRecDepth 20000 in
theorem ggX2_isNextSpent_X1_advance : GoodIn wsX2_isNextSpent wsX1_advance := goodIn_r _ [19, 20, 14, 21, 22, 23, 24, 25, 8, 26, 27, 13, 12, 28, 29, 30, 31, 32, 33, 34, 35, 36, 10, 11, 37, 38, 39, 40, 41, 42, 43, 44, 45, 46, 15, 47, 48, 49, 50, 51, 52, 53, 54, 55, 56, 57, 58, 59, 60, 61, 62, 63, 64, 65, 66, 67, 85, 86, 87, 88, 89, 90, 91, 92, 93, 94, 95, 96, 97, 98, 99, 100, 101, 102, 103, 104, 105, 106] (by decide +kernel) (by decide +kernel)
set_option maxRecDepth 20000 in
theorem gX2_isNextSpent_X1_advance : GoodIn wsX2_isNextSpent (wsV RX2 130 RX1 yX1_advance wsX1_advance) := goodIn_app (goodIn_of _ (by decide +kernel)) ggX2_isNextSpent_X1_advance
theorem dX2_isNextSpent_0 : decode cX2_isNextSpent 0 = .ok (.aload_n 0, 1) := by decide +kernel
theorem dX2_isNextSpent_1 : decode cX2_isNextSpent 1 = .ok (.getfield 12, 3) := by decide +kernel
theorem dX2_isNextSpent_4 : decode cX2_isNextSpent 4 = .ok (.getfield 76, 3) := by decide +kernel
theorem dX2_isNextSpent_7 : decode cX2_isNextSpent 7 = .ok (.ifCond .ne 5, 3) := by decide +kernel
theorem dX2_isNextSpent_10 : decode cX2_isNextSpent 10 = .ok (.iconst 0, 1) := by decide +kernel
theorem dX2_isNextSpent_11 : decode cX2_isNextSpent 11 = .ok (.ireturn, 1) := by decide +kernel
theorem dX2_isNextSpent_12 : decode cX2_isNextSpent 12 = .ok (.aload_n 0, 1) := by decide +kernel
theorem dX2_isNextSpent_13 : decode cX2_isNextSpent 13 = .ok (.getfield 23, 3) := by decide +kernel
theorem dX2_isNextSpent_16 : decode cX2_isNextSpent 16 = .ok (.aload_n 0, 1) := by decide +kernel
theorem dX2_isNextSpent_17 : decode cX2_isNextSpent 17 = .ok (.getfield 19, 3) := by decide +kernel
theorem dX2_isNextSpent_20 : decode cX2_isNextSpent 20 = .ok (.invokevirtual 126, 3) := by decide +kernel
theorem dX2_isNextSpent_23 : decode cX2_isNextSpent 23 = .ok (.aload_n 0, 1) := by decide +kernel
theorem dX2_isNextSpent_24 : decode cX2_isNextSpent 24 = .ok (.getfield 23, 3) := by decide +kernel
theorem dX2_isNextSpent_27 : decode cX2_isNextSpent 27 = .ok (.aload_n 0, 1) := by decide +kernel
theorem dX2_isNextSpent_28 : decode cX2_isNextSpent 28 = .ok (.getfield 12, 3) := by decide +kernel
theorem dX2_isNextSpent_31 : decode cX2_isNextSpent 31 = .ok (.invokevirtual 130, 3) := by decide +kernel
theorem dX2_isNextSpent_34 : decode cX2_isNextSpent 34 = .ok (.ifCond .ne 7, 3) := by decide +kernel
theorem dX2_isNextSpent_37 : decode cX2_isNextSpent 37 = .ok (.iconst 1, 1) := by decide +kernel
theorem dX2_isNextSpent_38 : decode cX2_isNextSpent 38 = .ok (.goto 4, 3) := by decide +kernel
theorem dX2_isNextSpent_41 : decode cX2_isNextSpent 41 = .ok (.iconst 0, 1) := by decide +kernel
theorem dX2_isNextSpent_42 : decode cX2_isNextSpent 42 = .ok (.ireturn, 1) := by decide +kernel
set_option maxRecDepth 20000 in
theorem ggX2_writeTrail_X2_packed : GoodIn wsX2_writeTrail wsX2_packed := goodIn_r _ [8] (by decide +kernel) (by decide +kernel)
set_option maxRecDepth 20000 in
theorem gX2_writeTrail_X2_packed : GoodIn wsX2_writeTrail (va_wsS RX2 237 yX2_packed wsX2_packed) := goodIn_app (goodIn_of _ (by decide +kernel)) ggX2_writeTrail_X2_packed
set_option maxRecDepth 20000 in
theorem ggX2_writeTrail_X1_packedMarks : GoodIn wsX2_writeTrail wsX1_packedMarks := goodIn_r _ [13, 14, 15, 16, 42, 43, 44, 45, 46, 47, 48, 49, 50, 51] (by decide +kernel) (by decide +kernel)
set_option maxRecDepth 20000 in
theorem gX2_writeTrail_X1_packedMarks : GoodIn wsX2_writeTrail (wsV RX2 241 RX1 yX1_packedMarks wsX1_packedMarks) := goodIn_app (goodIn_of _ (by decide +kernel)) ggX2_writeTrail_X1_packedMarks
set_option maxRecDepth 20000 in
theorem ggX2_writeTrail_X1_packedEvent : GoodIn wsX2_writeTrail wsX1_packedEvent := goodIn_r _ [20, 21, 22, 23, 24, 6, 7, 8, 42, 43, 44, 45, 46, 47, 48, 49, 50, 51] (by decide +kernel) (by decide +kernel)
set_option maxRecDepth 20000 in
theorem gX2_writeTrail_X1_packedEvent : GoodIn wsX2_writeTrail (wsV RX2 227 RX1 yX1_packedEvent wsX1_packedEvent) := goodIn_app (goodIn_of _ (by decide +kernel)) ggX2_writeTrail_X1_packedEvent
theorem dX2_writeTrail_0 : decode cX2_writeTrail 0 = .ok (.iload_n 1, 1) := by decide +kernel
theorem dX2_writeTrail_1 : decode cX2_writeTrail 1 = .ok (.bipush 6, 2) := by decide +kernel
theorem dX2_writeTrail_3 : decode cX2_writeTrail 3 = .ok (.imul, 1) := by decide +kernel
theorem dX2_writeTrail_4 : decode cX2_writeTrail 4 = .ok (.istore_n 2, 1) := by decide +kernel
theorem dX2_writeTrail_5 : decode cX2_writeTrail 5 = .ok (.iconst 0, 1) := by decide +kernel
theorem dX2_writeTrail_6 : decode cX2_writeTrail 6 = .ok (.istore_n 3, 1) := by decide +kernel
theorem dX2_writeTrail_7 : decode cX2_writeTrail 7 = .ok (.iload_n 3, 1) := by decide +kernel
theorem dX2_writeTrail_8 : decode cX2_writeTrail 8 = .ok (.iconst 4, 1) := by decide +kernel
theorem dX2_writeTrail_9 : decode cX2_writeTrail 9 = .ok (.if_icmp .ge 38, 3) := by decide +kernel
theorem dX2_writeTrail_12 : decode cX2_writeTrail 12 = .ok (.aload_n 0, 1) := by decide +kernel
theorem dX2_writeTrail_13 : decode cX2_writeTrail 13 = .ok (.getfield 41, 3) := by decide +kernel
theorem dX2_writeTrail_16 : decode cX2_writeTrail 16 = .ok (.iload_n 2, 1) := by decide +kernel
theorem dX2_writeTrail_17 : decode cX2_writeTrail 17 = .ok (.iload_n 3, 1) := by decide +kernel
theorem dX2_writeTrail_18 : decode cX2_writeTrail 18 = .ok (.iadd, 1) := by decide +kernel
theorem dX2_writeTrail_19 : decode cX2_writeTrail 19 = .ok (.aload_n 0, 1) := by decide +kernel
theorem dX2_writeTrail_20 : decode cX2_writeTrail 20 = .ok (.getfield 23, 3) := by decide +kernel
theorem dX2_writeTrail_23 : decode cX2_writeTrail 23 = .ok (.getfield 155, 3) := by decide +kernel
theorem dX2_writeTrail_26 : decode cX2_writeTrail 26 = .ok (.iload_n 3, 1) := by decide +kernel
theorem dX2_writeTrail_27 : decode cX2_writeTrail 27 = .ok (.laload, 1) := by decide +kernel
theorem dX2_writeTrail_28 : decode cX2_writeTrail 28 = .ok (.aload_n 0, 1) := by decide +kernel
theorem dX2_writeTrail_29 : decode cX2_writeTrail 29 = .ok (.getfield 23, 3) := by decide +kernel
theorem dX2_writeTrail_32 : decode cX2_writeTrail 32 = .ok (.getfield 158, 3) := by decide +kernel
theorem dX2_writeTrail_35 : decode cX2_writeTrail 35 = .ok (.iload_n 3, 1) := by decide +kernel
theorem dX2_writeTrail_36 : decode cX2_writeTrail 36 = .ok (.laload, 1) := by decide +kernel
theorem dX2_writeTrail_37 : decode cX2_writeTrail 37 = .ok (.invokestatic 237, 3) := by decide +kernel
theorem dX2_writeTrail_40 : decode cX2_writeTrail 40 = .ok (.lastore, 1) := by decide +kernel
theorem dX2_writeTrail_41 : decode cX2_writeTrail 41 = .ok (.iinc 3 1, 3) := by decide +kernel
theorem dX2_writeTrail_44 : decode cX2_writeTrail 44 = .ok (.goto (-37), 3) := by decide +kernel
theorem dX2_writeTrail_47 : decode cX2_writeTrail 47 = .ok (.aload_n 0, 1) := by decide +kernel
theorem dX2_writeTrail_48 : decode cX2_writeTrail 48 = .ok (.getfield 41, 3) := by decide +kernel
theorem dX2_writeTrail_51 : decode cX2_writeTrail 51 = .ok (.iload_n 2, 1) := by decide +kernel
theorem dX2_writeTrail_52 : decode cX2_writeTrail 52 = .ok (.iconst 4, 1) := by decide +kernel
theorem dX2_writeTrail_53 : decode cX2_writeTrail 53 = .ok (.iadd, 1) := by decide +kernel
theorem dX2_writeTrail_54 : decode cX2_writeTrail 54 = .ok (.aload_n 0, 1) := by decide +kernel
theorem dX2_writeTrail_55 : decode cX2_writeTrail 55 = .ok (.getfield 23, 3) := by decide +kernel
theorem dX2_writeTrail_58 : decode cX2_writeTrail 58 = .ok (.invokevirtual 241, 3) := by decide +kernel
theorem dX2_writeTrail_61 : decode cX2_writeTrail 61 = .ok (.lastore, 1) := by decide +kernel
theorem dX2_writeTrail_62 : decode cX2_writeTrail 62 = .ok (.aload_n 0, 1) := by decide +kernel
theorem dX2_writeTrail_63 : decode cX2_writeTrail 63 = .ok (.getfield 41, 3) := by decide +kernel
theorem dX2_writeTrail_66 : decode cX2_writeTrail 66 = .ok (.iload_n 2, 1) := by decide +kernel
theorem dX2_writeTrail_67 : decode cX2_writeTrail 67 = .ok (.iconst 5, 1) := by decide +kernel
theorem dX2_writeTrail_68 : decode cX2_writeTrail 68 = .ok (.iadd, 1) := by decide +kernel
theorem dX2_writeTrail_69 : decode cX2_writeTrail 69 = .ok (.aload_n 0, 1) := by decide +kernel
theorem dX2_writeTrail_70 : decode cX2_writeTrail 70 = .ok (.getfield 23, 3) := by decide +kernel
theorem dX2_writeTrail_73 : decode cX2_writeTrail 73 = .ok (.invokevirtual 227, 3) := by decide +kernel
theorem dX2_writeTrail_76 : decode cX2_writeTrail 76 = .ok (.lastore, 1) := by decide +kernel
theorem dX2_writeTrail_77 : decode cX2_writeTrail 77 = .ok (.return_, 1) := by decide +kernel
set_option maxRecDepth 20000 in
theorem ggX2_sameAhead_X2_isSameState : GoodIn wsX2_sameAhead wsX2_isSameState := goodIn_r _ [5, 6, 7, 8, 9, 10, 11, 12, 13, 14, 15, 16, 17, 18, 19, 20, 21, 22, 23] (by decide +kernel) (by decide +kernel)
set_option maxRecDepth 20000 in
theorem gX2_sameAhead_X2_isSameState : GoodIn wsX2_sameAhead (wsV RX2 244 RX2 yX2_isSameState wsX2_isSameState) := goodIn_app (goodIn_of _ (by decide +kernel)) ggX2_sameAhead_X2_isSameState
theorem dX2_sameAhead_0 : decode cX2_sameAhead 0 = .ok (.iconst 0, 1) := by decide +kernel
theorem dX2_sameAhead_1 : decode cX2_sameAhead 1 = .ok (.istore_n 2, 1) := by decide +kernel
theorem dX2_sameAhead_2 : decode cX2_sameAhead 2 = .ok (.iload_n 2, 1) := by decide +kernel
theorem dX2_sameAhead_3 : decode cX2_sameAhead 3 = .ok (.iload_n 1, 1) := by decide +kernel
theorem dX2_sameAhead_4 : decode cX2_sameAhead 4 = .ok (.if_icmp .ge 26, 3) := by decide +kernel
theorem dX2_sameAhead_7 : decode cX2_sameAhead 7 = .ok (.aload_n 0, 1) := by decide +kernel
theorem dX2_sameAhead_8 : decode cX2_sameAhead 8 = .ok (.iload_n 2, 1) := by decide +kernel
theorem dX2_sameAhead_9 : decode cX2_sameAhead 9 = .ok (.bipush 6, 2) := by decide +kernel
theorem dX2_sameAhead_11 : decode cX2_sameAhead 11 = .ok (.imul, 1) := by decide +kernel
theorem dX2_sameAhead_12 : decode cX2_sameAhead 12 = .ok (.iload_n 1, 1) := by decide +kernel
theorem dX2_sameAhead_13 : decode cX2_sameAhead 13 = .ok (.bipush 6, 2) := by decide +kernel
theorem dX2_sameAhead_15 : decode cX2_sameAhead 15 = .ok (.imul, 1) := by decide +kernel
theorem dX2_sameAhead_16 : decode cX2_sameAhead 16 = .ok (.invokevirtual 244, 3) := by decide +kernel
theorem dX2_sameAhead_19 : decode cX2_sameAhead 19 = .ok (.ifCond .eq 5, 3) := by decide +kernel
theorem dX2_sameAhead_22 : decode cX2_sameAhead 22 = .ok (.iload_n 2, 1) := by decide +kernel
theorem dX2_sameAhead_23 : decode cX2_sameAhead 23 = .ok (.ireturn, 1) := by decide +kernel
theorem dX2_sameAhead_24 : decode cX2_sameAhead 24 = .ok (.iinc 2 1, 3) := by decide +kernel
theorem dX2_sameAhead_27 : decode cX2_sameAhead 27 = .ok (.goto (-25), 3) := by decide +kernel
theorem dX2_sameAhead_30 : decode cX2_sameAhead 30 = .ok (.iconst (-1), 1) := by decide +kernel
theorem dX2_sameAhead_31 : decode cX2_sameAhead 31 = .ok (.ireturn, 1) := by decide +kernel
theorem dX2_isSameState_0 : decode cX2_isSameState 0 = .ok (.iconst 0, 1) := by decide +kernel
theorem dX2_isSameState_1 : decode cX2_isSameState 1 = .ok (.istore_n 3, 1) := by decide +kernel
theorem dX2_isSameState_2 : decode cX2_isSameState 2 = .ok (.iload_n 3, 1) := by decide +kernel
theorem dX2_isSameState_3 : decode cX2_isSameState 3 = .ok (.iconst 4, 1) := by decide +kernel
theorem dX2_isSameState_4 : decode cX2_isSameState 4 = .ok (.if_icmp .gt 31, 3) := by decide +kernel
theorem dX2_isSameState_7 : decode cX2_isSameState 7 = .ok (.aload_n 0, 1) := by decide +kernel
theorem dX2_isSameState_8 : decode cX2_isSameState 8 = .ok (.getfield 41, 3) := by decide +kernel
theorem dX2_isSameState_11 : decode cX2_isSameState 11 = .ok (.iload_n 1, 1) := by decide +kernel
theorem dX2_isSameState_12 : decode cX2_isSameState 12 = .ok (.iload_n 3, 1) := by decide +kernel
theorem dX2_isSameState_13 : decode cX2_isSameState 13 = .ok (.iadd, 1) := by decide +kernel
theorem dX2_isSameState_14 : decode cX2_isSameState 14 = .ok (.laload, 1) := by decide +kernel
theorem dX2_isSameState_15 : decode cX2_isSameState 15 = .ok (.aload_n 0, 1) := by decide +kernel
theorem dX2_isSameState_16 : decode cX2_isSameState 16 = .ok (.getfield 41, 3) := by decide +kernel
theorem dX2_isSameState_19 : decode cX2_isSameState 19 = .ok (.iload_n 2, 1) := by decide +kernel
theorem dX2_isSameState_20 : decode cX2_isSameState 20 = .ok (.iload_n 3, 1) := by decide +kernel
theorem dX2_isSameState_21 : decode cX2_isSameState 21 = .ok (.iadd, 1) := by decide +kernel
theorem dX2_isSameState_22 : decode cX2_isSameState 22 = .ok (.laload, 1) := by decide +kernel
theorem dX2_isSameState_23 : decode cX2_isSameState 23 = .ok (.lcmp, 1) := by decide +kernel
theorem dX2_isSameState_24 : decode cX2_isSameState 24 = .ok (.ifCond .eq 5, 3) := by decide +kernel
theorem dX2_isSameState_27 : decode cX2_isSameState 27 = .ok (.iconst 0, 1) := by decide +kernel
theorem dX2_isSameState_28 : decode cX2_isSameState 28 = .ok (.ireturn, 1) := by decide +kernel
theorem dX2_isSameState_29 : decode cX2_isSameState 29 = .ok (.iinc 3 1, 3) := by decide +kernel
theorem dX2_isSameState_32 : decode cX2_isSameState 32 = .ok (.goto (-30), 3) := by decide +kernel
theorem dX2_isSameState_35 : decode cX2_isSameState 35 = .ok (.iconst 1, 1) := by decide +kernel
theorem dX2_isSameState_36 : decode cX2_isSameState 36 = .ok (.ireturn, 1) := by decide +kernel
set_option maxRecDepth 20000 in
theorem ggX2_keepRing_X2_eventInRow : GoodIn wsX2_keepRing wsX2_eventInRow := goodIn_r _ [7, 8, 31, 32, 33, 34, 35, 36, 37, 38, 39, 40, 41, 42, 43, 44, 45, 46, 47] (by decide +kernel) (by decide +kernel)
set_option maxRecDepth 20000 in
theorem gX2_keepRing_X2_eventInRow : GoodIn wsX2_keepRing (wsV RX2 247 RX2 yX2_eventInRow wsX2_eventInRow) := goodIn_app (goodIn_of _ (by decide +kernel)) ggX2_keepRing_X2_eventInRow
set_option maxRecDepth 20000 in
theorem ggX2_keepRing_X2_betweenNum : GoodIn wsX2_keepRing wsX2_betweenNum := goodIn_r _ [11, 12, 13, 6, 14, 15, 16, 17, 18] (by decide +kernel) (by decide +kernel)
set_option maxRecDepth 20000 in
theorem gX2_keepRing_X2_betweenNum : GoodIn wsX2_keepRing (va_wsS RX2 251 yX2_betweenNum wsX2_betweenNum) := goodIn_app (goodIn_of _ (by decide +kernel)) ggX2_keepRing_X2_betweenNum
set_option maxRecDepth 20000 in
theorem ggX2_keepRing_X2_betweenDen : GoodIn wsX2_keepRing wsX2_betweenDen := goodIn_r _ [21, 15, 16, 6, 17, 18] (by decide +kernel) (by decide +kernel)
set_option maxRecDepth 20000 in
theorem gX2_keepRing_X2_betweenDen : GoodIn wsX2_keepRing (va_wsS RX2 254 yX2_betweenDen wsX2_betweenDen) := goodIn_app (goodIn_of _ (by decide +kernel)) ggX2_keepRing_X2_betweenDen
set_option maxRecDepth 20000 in
theorem ggX2_keepRing_X2_commonOf : GoodIn wsX2_keepRing wsX2_commonOf := goodIn_r _ [24] (by decide +kernel) (by decide +kernel)
set_option maxRecDepth 20000 in
theorem gX2_keepRing_X2_commonOf : GoodIn wsX2_keepRing (va_wsS RX2 257 yX2_commonOf wsX2_commonOf) := goodIn_app (goodIn_of _ (by decide +kernel)) ggX2_keepRing_X2_commonOf
set_option maxRecDepth 20000 in
theorem ggX2_keepRing_X2_sideIn : GoodIn wsX2_keepRing wsX2_sideIn := goodIn_r _ [27] (by decide +kernel) (by decide +kernel)
set_option maxRecDepth 20000 in
theorem gX2_keepRing_X2_sideIn : GoodIn wsX2_keepRing (va_wsS RX2 178 yX2_sideIn wsX2_sideIn) := goodIn_app (goodIn_of _ (by decide +kernel)) ggX2_keepRing_X2_sideIn
set_option maxRecDepth 20000 in
theorem ggX2_keepRing_X2_turnedIn : GoodIn wsX2_keepRing wsX2_turnedIn := goodIn_r _ [30] (by decide +kernel) (by decide +kernel)
set_option maxRecDepth 20000 in
theorem gX2_keepRing_X2_turnedIn : GoodIn wsX2_keepRing (va_wsS RX2 174 yX2_turnedIn wsX2_turnedIn) := goodIn_app (goodIn_of _ (by decide +kernel)) ggX2_keepRing_X2_turnedIn
theorem dX2_keepRing_0 : decode cX2_keepRing 0 = .ok (.aload_n 0, 1) := by decide +kernel
theorem dX2_keepRing_1 : decode cX2_keepRing 1 = .ok (.iload_n 1, 1) := by decide +kernel
theorem dX2_keepRing_2 : decode cX2_keepRing 2 = .ok (.invokevirtual 247, 3) := by decide +kernel
theorem dX2_keepRing_5 : decode cX2_keepRing 5 = .ok (.aload_n 0, 1) := by decide +kernel
theorem dX2_keepRing_6 : decode cX2_keepRing 6 = .ok (.iload_n 2, 1) := by decide +kernel
theorem dX2_keepRing_7 : decode cX2_keepRing 7 = .ok (.invokevirtual 247, 3) := by decide +kernel
theorem dX2_keepRing_10 : decode cX2_keepRing 10 = .ok (.invokestatic 251, 3) := by decide +kernel
theorem dX2_keepRing_13 : decode cX2_keepRing 13 = .ok (.lstore_n 3, 1) := by decide +kernel
theorem dX2_keepRing_14 : decode cX2_keepRing 14 = .ok (.aload_n 0, 1) := by decide +kernel
theorem dX2_keepRing_15 : decode cX2_keepRing 15 = .ok (.iload_n 1, 1) := by decide +kernel
theorem dX2_keepRing_16 : decode cX2_keepRing 16 = .ok (.invokevirtual 247, 3) := by decide +kernel
theorem dX2_keepRing_19 : decode cX2_keepRing 19 = .ok (.aload_n 0, 1) := by decide +kernel
theorem dX2_keepRing_20 : decode cX2_keepRing 20 = .ok (.iload_n 2, 1) := by decide +kernel
theorem dX2_keepRing_21 : decode cX2_keepRing 21 = .ok (.invokevirtual 247, 3) := by decide +kernel
theorem dX2_keepRing_24 : decode cX2_keepRing 24 = .ok (.invokestatic 254, 3) := by decide +kernel
theorem dX2_keepRing_27 : decode cX2_keepRing 27 = .ok (.lstore 5, 2) := by decide +kernel
theorem dX2_keepRing_29 : decode cX2_keepRing 29 = .ok (.lload_n 3, 1) := by decide +kernel
theorem dX2_keepRing_30 : decode cX2_keepRing 30 = .ok (.lload 5, 2) := by decide +kernel
theorem dX2_keepRing_32 : decode cX2_keepRing 32 = .ok (.invokestatic 257, 3) := by decide +kernel
theorem dX2_keepRing_35 : decode cX2_keepRing 35 = .ok (.lstore 7, 2) := by decide +kernel
theorem dX2_keepRing_37 : decode cX2_keepRing 37 = .ok (.aload_n 0, 1) := by decide +kernel
theorem dX2_keepRing_38 : decode cX2_keepRing 38 = .ok (.getfield 44, 3) := by decide +kernel
theorem dX2_keepRing_41 : decode cX2_keepRing 41 = .ok (.iconst 0, 1) := by decide +kernel
theorem dX2_keepRing_42 : decode cX2_keepRing 42 = .ok (.iload_n 1, 1) := by decide +kernel
theorem dX2_keepRing_43 : decode cX2_keepRing 43 = .ok (.i2l, 1) := by decide +kernel
theorem dX2_keepRing_44 : decode cX2_keepRing 44 = .ok (.lastore, 1) := by decide +kernel
theorem dX2_keepRing_45 : decode cX2_keepRing 45 = .ok (.aload_n 0, 1) := by decide +kernel
theorem dX2_keepRing_46 : decode cX2_keepRing 46 = .ok (.getfield 44, 3) := by decide +kernel
theorem dX2_keepRing_49 : decode cX2_keepRing 49 = .ok (.iconst 1, 1) := by decide +kernel
theorem dX2_keepRing_50 : decode cX2_keepRing 50 = .ok (.iload_n 2, 1) := by decide +kernel
theorem dX2_keepRing_51 : decode cX2_keepRing 51 = .ok (.iload_n 1, 1) := by decide +kernel
theorem dX2_keepRing_52 : decode cX2_keepRing 52 = .ok (.isub, 1) := by decide +kernel
theorem dX2_keepRing_53 : decode cX2_keepRing 53 = .ok (.i2l, 1) := by decide +kernel
theorem dX2_keepRing_54 : decode cX2_keepRing 54 = .ok (.lastore, 1) := by decide +kernel
theorem dX2_keepRing_55 : decode cX2_keepRing 55 = .ok (.aload_n 0, 1) := by decide +kernel
theorem dX2_keepRing_56 : decode cX2_keepRing 56 = .ok (.getfield 44, 3) := by decide +kernel
theorem dX2_keepRing_59 : decode cX2_keepRing 59 = .ok (.iconst 2, 1) := by decide +kernel
theorem dX2_keepRing_60 : decode cX2_keepRing 60 = .ok (.lload_n 3, 1) := by decide +kernel
theorem dX2_keepRing_61 : decode cX2_keepRing 61 = .ok (.lload 7, 2) := by decide +kernel
theorem dX2_keepRing_63 : decode cX2_keepRing 63 = .ok (.ldiv, 1) := by decide +kernel
theorem dX2_keepRing_64 : decode cX2_keepRing 64 = .ok (.lastore, 1) := by decide +kernel
theorem dX2_keepRing_65 : decode cX2_keepRing 65 = .ok (.aload_n 0, 1) := by decide +kernel
theorem dX2_keepRing_66 : decode cX2_keepRing 66 = .ok (.getfield 44, 3) := by decide +kernel
theorem dX2_keepRing_69 : decode cX2_keepRing 69 = .ok (.iconst 3, 1) := by decide +kernel
theorem dX2_keepRing_70 : decode cX2_keepRing 70 = .ok (.lload 5, 2) := by decide +kernel
theorem dX2_keepRing_72 : decode cX2_keepRing 72 = .ok (.lload 7, 2) := by decide +kernel
theorem dX2_keepRing_74 : decode cX2_keepRing 74 = .ok (.ldiv, 1) := by decide +kernel
theorem dX2_keepRing_75 : decode cX2_keepRing 75 = .ok (.lastore, 1) := by decide +kernel
theorem dX2_keepRing_76 : decode cX2_keepRing 76 = .ok (.iconst 0, 1) := by decide +kernel
theorem dX2_keepRing_77 : decode cX2_keepRing 77 = .ok (.istore 9, 2) := by decide +kernel
theorem dX2_keepRing_79 : decode cX2_keepRing 79 = .ok (.iload 9, 2) := by decide +kernel
theorem dX2_keepRing_81 : decode cX2_keepRing 81 = .ok (.iconst 4, 1) := by decide +kernel
theorem dX2_keepRing_82 : decode cX2_keepRing 82 = .ok (.if_icmp .ge 19, 3) := by decide +kernel
theorem dX2_keepRing_85 : decode cX2_keepRing 85 = .ok (.aload_n 0, 1) := by decide +kernel
theorem dX2_keepRing_86 : decode cX2_keepRing 86 = .ok (.getfield 44, 3) := by decide +kernel
theorem dX2_keepRing_89 : decode cX2_keepRing 89 = .ok (.iconst 4, 1) := by decide +kernel
theorem dX2_keepRing_90 : decode cX2_keepRing 90 = .ok (.iload 9, 2) := by decide +kernel
theorem dX2_keepRing_92 : decode cX2_keepRing 92 = .ok (.iadd, 1) := by decide +kernel
theorem dX2_keepRing_93 : decode cX2_keepRing 93 = .ok (.lconst 0, 1) := by decide +kernel
theorem dX2_keepRing_94 : decode cX2_keepRing 94 = .ok (.lastore, 1) := by decide +kernel
theorem dX2_keepRing_95 : decode cX2_keepRing 95 = .ok (.iinc 9 1, 3) := by decide +kernel
theorem dX2_keepRing_98 : decode cX2_keepRing 98 = .ok (.goto (-19), 3) := by decide +kernel
theorem dX2_keepRing_101 : decode cX2_keepRing 101 = .ok (.iload_n 1, 1) := by decide +kernel
theorem dX2_keepRing_102 : decode cX2_keepRing 102 = .ok (.iconst 1, 1) := by decide +kernel
theorem dX2_keepRing_103 : decode cX2_keepRing 103 = .ok (.iadd, 1) := by decide +kernel
theorem dX2_keepRing_104 : decode cX2_keepRing 104 = .ok (.istore 9, 2) := by decide +kernel
theorem dX2_keepRing_106 : decode cX2_keepRing 106 = .ok (.iload 9, 2) := by decide +kernel
theorem dX2_keepRing_108 : decode cX2_keepRing 108 = .ok (.iload_n 2, 1) := by decide +kernel
theorem dX2_keepRing_109 : decode cX2_keepRing 109 = .ok (.if_icmp .gt 41, 3) := by decide +kernel
theorem dX2_keepRing_112 : decode cX2_keepRing 112 = .ok (.aload_n 0, 1) := by decide +kernel
theorem dX2_keepRing_113 : decode cX2_keepRing 113 = .ok (.iload 9, 2) := by decide +kernel
theorem dX2_keepRing_115 : decode cX2_keepRing 115 = .ok (.invokevirtual 247, 3) := by decide +kernel
theorem dX2_keepRing_118 : decode cX2_keepRing 118 = .ok (.invokestatic 178, 3) := by decide +kernel
theorem dX2_keepRing_121 : decode cX2_keepRing 121 = .ok (.ifCond .ne 23, 3) := by decide +kernel
theorem dX2_keepRing_124 : decode cX2_keepRing 124 = .ok (.aload_n 0, 1) := by decide +kernel
theorem dX2_keepRing_125 : decode cX2_keepRing 125 = .ok (.getfield 44, 3) := by decide +kernel
theorem dX2_keepRing_128 : decode cX2_keepRing 128 = .ok (.iconst 4, 1) := by decide +kernel
theorem dX2_keepRing_129 : decode cX2_keepRing 129 = .ok (.aload_n 0, 1) := by decide +kernel
theorem dX2_keepRing_130 : decode cX2_keepRing 130 = .ok (.iload 9, 2) := by decide +kernel
theorem dX2_keepRing_132 : decode cX2_keepRing 132 = .ok (.invokevirtual 247, 3) := by decide +kernel
theorem dX2_keepRing_135 : decode cX2_keepRing 135 = .ok (.invokestatic 174, 3) := by decide +kernel
theorem dX2_keepRing_138 : decode cX2_keepRing 138 = .ok (.iadd, 1) := by decide +kernel
theorem dX2_keepRing_139 : decode cX2_keepRing 139 = .ok (.dup2, 1) := by decide +kernel
theorem dX2_keepRing_140 : decode cX2_keepRing 140 = .ok (.laload, 1) := by decide +kernel
theorem dX2_keepRing_141 : decode cX2_keepRing 141 = .ok (.lconst 1, 1) := by decide +kernel
theorem dX2_keepRing_142 : decode cX2_keepRing 142 = .ok (.ladd, 1) := by decide +kernel
theorem dX2_keepRing_143 : decode cX2_keepRing 143 = .ok (.lastore, 1) := by decide +kernel
theorem dX2_keepRing_144 : decode cX2_keepRing 144 = .ok (.iinc 9 1, 3) := by decide +kernel
theorem dX2_keepRing_147 : decode cX2_keepRing 147 = .ok (.goto (-41), 3) := by decide +kernel
theorem dX2_keepRing_150 : decode cX2_keepRing 150 = .ok (.aload_n 0, 1) := by decide +kernel
theorem dX2_keepRing_151 : decode cX2_keepRing 151 = .ok (.iconst 1, 1) := by decide +kernel
theorem dX2_keepRing_152 : decode cX2_keepRing 152 = .ok (.putfield 47, 3) := by decide +kernel
theorem dX2_keepRing_155 : decode cX2_keepRing 155 = .ok (.return_, 1) := by decide +kernel
theorem dX2_eventInRow_0 : decode cX2_eventInRow 0 = .ok (.aload_n 0, 1) := by decide +kernel
theorem dX2_eventInRow_1 : decode cX2_eventInRow 1 = .ok (.getfield 41, 3) := by decide +kernel
theorem dX2_eventInRow_4 : decode cX2_eventInRow 4 = .ok (.iload_n 1, 1) := by decide +kernel
theorem dX2_eventInRow_5 : decode cX2_eventInRow 5 = .ok (.bipush 6, 2) := by decide +kernel
theorem dX2_eventInRow_7 : decode cX2_eventInRow 7 = .ok (.imul, 1) := by decide +kernel
theorem dX2_eventInRow_8 : decode cX2_eventInRow 8 = .ok (.iconst 5, 1) := by decide +kernel
theorem dX2_eventInRow_9 : decode cX2_eventInRow 9 = .ok (.iadd, 1) := by decide +kernel
theorem dX2_eventInRow_10 : decode cX2_eventInRow 10 = .ok (.laload, 1) := by decide +kernel
theorem dX2_eventInRow_11 : decode cX2_eventInRow 11 = .ok (.lreturn, 1) := by decide +kernel
set_option maxRecDepth 20000 in
theorem ggX2_beatTerm_X0_span : GoodIn wsX2_beatTerm wsX0_span := goodIn_r _ [8, 9, 10, 32, 33, 34, 35, 36, 37, 38, 39, 40, 41, 42, 43] (by decide +kernel) (by decide +kernel)
set_option maxRecDepth 20000 in
theorem gX2_beatTerm_X0_span : GoodIn wsX2_beatTerm (wsV RX2 260 RX0 yX0_span wsX0_span) := goodIn_app (goodIn_of _ (by decide +kernel)) ggX2_beatTerm_X0_span
set_option maxRecDepth 20000 in
theorem ggX2_beatTerm_X2_commonOf : GoodIn wsX2_beatTerm wsX2_commonOf := goodIn_r _ [14] (by decide +kernel) (by decide +kernel)
set_option maxRecDepth 20000 in
theorem gX2_beatTerm_X2_commonOf : GoodIn wsX2_beatTerm (va_wsS RX2 257 yX2_commonOf wsX2_commonOf) := goodIn_app (goodIn_of _ (by decide +kernel)) ggX2_beatTerm_X2_commonOf
theorem dX2_beatTerm_0 : decode cX2_beatTerm 0 = .ok (.aload_n 0, 1) := by decide +kernel
theorem dX2_beatTerm_1 : decode cX2_beatTerm 1 = .ok (.getfield 12, 3) := by decide +kernel
theorem dX2_beatTerm_4 : decode cX2_beatTerm 4 = .ok (.getfield 85, 3) := by decide +kernel
theorem dX2_beatTerm_7 : decode cX2_beatTerm 7 = .ok (.iload_n 1, 1) := by decide +kernel
theorem dX2_beatTerm_8 : decode cX2_beatTerm 8 = .ok (.iaload, 1) := by decide +kernel
theorem dX2_beatTerm_9 : decode cX2_beatTerm 9 = .ok (.istore_n 3, 1) := by decide +kernel
theorem dX2_beatTerm_10 : decode cX2_beatTerm 10 = .ok (.aload_n 0, 1) := by decide +kernel
theorem dX2_beatTerm_11 : decode cX2_beatTerm 11 = .ok (.getfield 12, 3) := by decide +kernel
theorem dX2_beatTerm_14 : decode cX2_beatTerm 14 = .ok (.getfield 88, 3) := by decide +kernel
theorem dX2_beatTerm_17 : decode cX2_beatTerm 17 = .ok (.iload_n 1, 1) := by decide +kernel
theorem dX2_beatTerm_18 : decode cX2_beatTerm 18 = .ok (.iaload, 1) := by decide +kernel
theorem dX2_beatTerm_19 : decode cX2_beatTerm 19 = .ok (.istore 4, 2) := by decide +kernel
theorem dX2_beatTerm_21 : decode cX2_beatTerm 21 = .ok (.aload_n 0, 1) := by decide +kernel
theorem dX2_beatTerm_22 : decode cX2_beatTerm 22 = .ok (.getfield 12, 3) := by decide +kernel
theorem dX2_beatTerm_25 : decode cX2_beatTerm 25 = .ok (.iload_n 1, 1) := by decide +kernel
theorem dX2_beatTerm_26 : decode cX2_beatTerm 26 = .ok (.invokevirtual 260, 3) := by decide +kernel
theorem dX2_beatTerm_29 : decode cX2_beatTerm 29 = .ok (.iload_n 3, 1) := by decide +kernel
theorem dX2_beatTerm_30 : decode cX2_beatTerm 30 = .ok (.iload 4, 2) := by decide +kernel
theorem dX2_beatTerm_32 : decode cX2_beatTerm 32 = .ok (.iadd, 1) := by decide +kernel
theorem dX2_beatTerm_33 : decode cX2_beatTerm 33 = .ok (.imul, 1) := by decide +kernel
theorem dX2_beatTerm_34 : decode cX2_beatTerm 34 = .ok (.istore 5, 2) := by decide +kernel
theorem dX2_beatTerm_36 : decode cX2_beatTerm 36 = .ok (.iload_n 3, 1) := by decide +kernel
theorem dX2_beatTerm_37 : decode cX2_beatTerm 37 = .ok (.iload 4, 2) := by decide +kernel
theorem dX2_beatTerm_39 : decode cX2_beatTerm 39 = .ok (.imul, 1) := by decide +kernel
theorem dX2_beatTerm_40 : decode cX2_beatTerm 40 = .ok (.istore 6, 2) := by decide +kernel
theorem dX2_beatTerm_42 : decode cX2_beatTerm 42 = .ok (.iload_n 2, 1) := by decide +kernel
theorem dX2_beatTerm_43 : decode cX2_beatTerm 43 = .ok (.ifCond .eq 8, 3) := by decide +kernel
theorem dX2_beatTerm_46 : decode cX2_beatTerm 46 = .ok (.iload 5, 2) := by decide +kernel
theorem dX2_beatTerm_48 : decode cX2_beatTerm 48 = .ok (.goto 5, 3) := by decide +kernel
theorem dX2_beatTerm_51 : decode cX2_beatTerm 51 = .ok (.iload 6, 2) := by decide +kernel
theorem dX2_beatTerm_53 : decode cX2_beatTerm 53 = .ok (.iload 5, 2) := by decide +kernel
theorem dX2_beatTerm_55 : decode cX2_beatTerm 55 = .ok (.i2l, 1) := by decide +kernel
theorem dX2_beatTerm_56 : decode cX2_beatTerm 56 = .ok (.iload 6, 2) := by decide +kernel
theorem dX2_beatTerm_58 : decode cX2_beatTerm 58 = .ok (.i2l, 1) := by decide +kernel
theorem dX2_beatTerm_59 : decode cX2_beatTerm 59 = .ok (.invokestatic 257, 3) := by decide +kernel
theorem dX2_beatTerm_62 : decode cX2_beatTerm 62 = .ok (.l2i, 1) := by decide +kernel
theorem dX2_beatTerm_63 : decode cX2_beatTerm 63 = .ok (.idiv, 1) := by decide +kernel
theorem dX2_beatTerm_64 : decode cX2_beatTerm 64 = .ok (.ireturn, 1) := by decide +kernel
set_option maxRecDepth 20000 in
theorem ggX2_findWays_X0_span : GoodIn wsX2_findWays wsX0_span := goodIn_r _ [9, 10, 11, 29, 30, 31, 32, 33, 34, 35, 36, 37, 38, 39, 40] (by decide +kernel) (by decide +kernel)
set_option maxRecDepth 20000 in
theorem gX2_findWays_X0_span : GoodIn wsX2_findWays (wsV RX2 260 RX0 yX0_span wsX0_span) := goodIn_app (goodIn_of _ (by decide +kernel)) ggX2_findWays_X0_span
theorem dX2_findWays_0 : decode cX2_findWays 0 = .ok (.iconst 0, 1) := by decide +kernel
theorem dX2_findWays_1 : decode cX2_findWays 1 = .ok (.istore 6, 2) := by decide +kernel
theorem dX2_findWays_3 : decode cX2_findWays 3 = .ok (.iconst 0, 1) := by decide +kernel
theorem dX2_findWays_4 : decode cX2_findWays 4 = .ok (.istore 7, 2) := by decide +kernel
theorem dX2_findWays_6 : decode cX2_findWays 6 = .ok (.iload 7, 2) := by decide +kernel
theorem dX2_findWays_8 : decode cX2_findWays 8 = .ok (.aload_n 0, 1) := by decide +kernel
theorem dX2_findWays_9 : decode cX2_findWays 9 = .ok (.getfield 54, 3) := by decide +kernel
theorem dX2_findWays_12 : decode cX2_findWays 12 = .ok (.if_icmp .ge 113, 3) := by decide +kernel
theorem dX2_findWays_15 : decode cX2_findWays 15 = .ok (.iconst 0, 1) := by decide +kernel
theorem dX2_findWays_16 : decode cX2_findWays 16 = .ok (.istore 8, 2) := by decide +kernel
theorem dX2_findWays_18 : decode cX2_findWays 18 = .ok (.iload 8, 2) := by decide +kernel
theorem dX2_findWays_20 : decode cX2_findWays 20 = .ok (.aload_n 0, 1) := by decide +kernel
theorem dX2_findWays_21 : decode cX2_findWays 21 = .ok (.getfield 54, 3) := by decide +kernel
theorem dX2_findWays_24 : decode cX2_findWays 24 = .ok (.if_icmp .ge 95, 3) := by decide +kernel
theorem dX2_findWays_27 : decode cX2_findWays 27 = .ok (.aload_n 0, 1) := by decide +kernel
theorem dX2_findWays_28 : decode cX2_findWays 28 = .ok (.getfield 12, 3) := by decide +kernel
theorem dX2_findWays_31 : decode cX2_findWays 31 = .ok (.iload_n 1, 1) := by decide +kernel
theorem dX2_findWays_32 : decode cX2_findWays 32 = .ok (.invokevirtual 260, 3) := by decide +kernel
theorem dX2_findWays_35 : decode cX2_findWays 35 = .ok (.aload_n 0, 1) := by decide +kernel
theorem dX2_findWays_36 : decode cX2_findWays 36 = .ok (.getfield 51, 3) := by decide +kernel
theorem dX2_findWays_39 : decode cX2_findWays 39 = .ok (.iload 7, 2) := by decide +kernel
theorem dX2_findWays_41 : decode cX2_findWays 41 = .ok (.iaload, 1) := by decide +kernel
theorem dX2_findWays_42 : decode cX2_findWays 42 = .ok (.aload_n 0, 1) := by decide +kernel
theorem dX2_findWays_43 : decode cX2_findWays 43 = .ok (.getfield 51, 3) := by decide +kernel
theorem dX2_findWays_46 : decode cX2_findWays 46 = .ok (.iload 8, 2) := by decide +kernel
theorem dX2_findWays_48 : decode cX2_findWays 48 = .ok (.iaload, 1) := by decide +kernel
theorem dX2_findWays_49 : decode cX2_findWays 49 = .ok (.iadd, 1) := by decide +kernel
theorem dX2_findWays_50 : decode cX2_findWays 50 = .ok (.imul, 1) := by decide +kernel
theorem dX2_findWays_51 : decode cX2_findWays 51 = .ok (.istore 9, 2) := by decide +kernel
theorem dX2_findWays_53 : decode cX2_findWays 53 = .ok (.aload_n 0, 1) := by decide +kernel
theorem dX2_findWays_54 : decode cX2_findWays 54 = .ok (.getfield 51, 3) := by decide +kernel
theorem dX2_findWays_57 : decode cX2_findWays 57 = .ok (.iload 7, 2) := by decide +kernel
theorem dX2_findWays_59 : decode cX2_findWays 59 = .ok (.iaload, 1) := by decide +kernel
theorem dX2_findWays_60 : decode cX2_findWays 60 = .ok (.aload_n 0, 1) := by decide +kernel
theorem dX2_findWays_61 : decode cX2_findWays 61 = .ok (.getfield 51, 3) := by decide +kernel
theorem dX2_findWays_64 : decode cX2_findWays 64 = .ok (.iload 8, 2) := by decide +kernel
theorem dX2_findWays_66 : decode cX2_findWays 66 = .ok (.iaload, 1) := by decide +kernel
theorem dX2_findWays_67 : decode cX2_findWays 67 = .ok (.imul, 1) := by decide +kernel
theorem dX2_findWays_68 : decode cX2_findWays 68 = .ok (.istore 10, 2) := by decide +kernel
theorem dX2_findWays_70 : decode cX2_findWays 70 = .ok (.iload 9, 2) := by decide +kernel
theorem dX2_findWays_72 : decode cX2_findWays 72 = .ok (.i2l, 1) := by decide +kernel
theorem dX2_findWays_73 : decode cX2_findWays 73 = .ok (.lload 4, 2) := by decide +kernel
theorem dX2_findWays_75 : decode cX2_findWays 75 = .ok (.lmul, 1) := by decide +kernel
theorem dX2_findWays_76 : decode cX2_findWays 76 = .ok (.lload_n 2, 1) := by decide +kernel
theorem dX2_findWays_77 : decode cX2_findWays 77 = .ok (.iload 10, 2) := by decide +kernel
theorem dX2_findWays_79 : decode cX2_findWays 79 = .ok (.i2l, 1) := by decide +kernel
theorem dX2_findWays_80 : decode cX2_findWays 80 = .ok (.lmul, 1) := by decide +kernel
theorem dX2_findWays_81 : decode cX2_findWays 81 = .ok (.lcmp, 1) := by decide +kernel
theorem dX2_findWays_82 : decode cX2_findWays 82 = .ok (.ifCond .ne 31, 3) := by decide +kernel
theorem dX2_findWays_85 : decode cX2_findWays 85 = .ok (.aload_n 0, 1) := by decide +kernel
theorem dX2_findWays_86 : decode cX2_findWays 86 = .ok (.getfield 66, 3) := by decide +kernel
theorem dX2_findWays_89 : decode cX2_findWays 89 = .ok (.iload 6, 2) := by decide +kernel
theorem dX2_findWays_91 : decode cX2_findWays 91 = .ok (.aload_n 0, 1) := by decide +kernel
theorem dX2_findWays_92 : decode cX2_findWays 92 = .ok (.getfield 51, 3) := by decide +kernel
theorem dX2_findWays_95 : decode cX2_findWays 95 = .ok (.iload 7, 2) := by decide +kernel
theorem dX2_findWays_97 : decode cX2_findWays 97 = .ok (.iaload, 1) := by decide +kernel
theorem dX2_findWays_98 : decode cX2_findWays 98 = .ok (.bipush 100, 2) := by decide +kernel
theorem dX2_findWays_100 : decode cX2_findWays 100 = .ok (.imul, 1) := by decide +kernel
theorem dX2_findWays_101 : decode cX2_findWays 101 = .ok (.aload_n 0, 1) := by decide +kernel
theorem dX2_findWays_102 : decode cX2_findWays 102 = .ok (.getfield 51, 3) := by decide +kernel
theorem dX2_findWays_105 : decode cX2_findWays 105 = .ok (.iload 8, 2) := by decide +kernel
theorem dX2_findWays_107 : decode cX2_findWays 107 = .ok (.iaload, 1) := by decide +kernel
theorem dX2_findWays_108 : decode cX2_findWays 108 = .ok (.iadd, 1) := by decide +kernel
theorem dX2_findWays_109 : decode cX2_findWays 109 = .ok (.iastore, 1) := by decide +kernel
theorem dX2_findWays_110 : decode cX2_findWays 110 = .ok (.iinc 6 1, 3) := by decide +kernel
theorem dX2_findWays_113 : decode cX2_findWays 113 = .ok (.iinc 8 1, 3) := by decide +kernel
theorem dX2_findWays_116 : decode cX2_findWays 116 = .ok (.goto (-98), 3) := by decide +kernel
theorem dX2_findWays_119 : decode cX2_findWays 119 = .ok (.iinc 7 1, 3) := by decide +kernel
theorem dX2_findWays_122 : decode cX2_findWays 122 = .ok (.goto (-116), 3) := by decide +kernel
theorem dX2_findWays_125 : decode cX2_findWays 125 = .ok (.iload 6, 2) := by decide +kernel
theorem dX2_findWays_127 : decode cX2_findWays 127 = .ok (.ireturn, 1) := by decide +kernel
set_option maxRecDepth 20000 in
theorem ggX2_findFaults_X0_ratesOf : GoodIn wsX2_findFaults wsX0_ratesOf := goodIn_r _ [10, 11, 12, 126, 127, 128, 129, 130, 131, 132, 133, 134, 135, 136, 137] (by decide +kernel) (by decide +kernel)
set_option maxRecDepth 20000 in
theorem gX2_findFaults_X0_ratesOf : GoodIn wsX2_findFaults (wsV RX2 122 RX0 yX0_ratesOf wsX0_ratesOf) := goodIn_app (goodIn_of _ (by decide +kernel)) ggX2_findFaults_X0_ratesOf
set_option maxRecDepth 20000 in
theorem ggX2_findFaults_X2_isMeasuredSo : GoodIn wsX2_findFaults wsX2_isMeasuredSo := goodIn_r _ [17, 18, 19, 1, 20, 21, 22, 23, 24, 25, 26, 27, 28, 29, 30, 31, 32, 33, 34, 35, 36, 37, 38, 39, 40, 41, 42, 43, 44, 45, 46, 47, 48, 49, 50, 51, 52, 53, 54, 16, 55, 56, 57, 58, 59, 60, 61, 62, 63, 64, 65, 66, 67, 68, 69, 70, 71, 72, 73, 74, 75, 76, 77, 78, 79, 80, 81, 82, 83, 84, 85, 86, 87, 88, 89, 90, 91, 92, 93, 94, 95, 96, 97, 98, 99, 100, 101, 102, 103, 104, 105, 106, 107, 108, 109, 110, 111, 112, 113, 114, 115, 116, 117, 118, 119, 120, 121, 122, 123, 124, 125, 138, 139, 140, 141, 142, 143, 144, 145, 146, 147, 126, 127, 128, 129, 130, 131, 132, 133, 134, 135, 136, 137] (by decide +kernel) (by decide +kernel)
set_option maxRecDepth 20000 in
theorem gX2_findFaults_X2_isMeasuredSo : GoodIn wsX2_findFaults (wsV RX2 219 RX2 yX2_isMeasuredSo wsX2_isMeasuredSo) := goodIn_app (goodIn_of _ (by decide +kernel)) ggX2_findFaults_X2_isMeasuredSo
theorem dX2_findFaults_0 : decode cX2_findFaults 0 = .ok (.iconst 0, 1) := by decide +kernel
theorem dX2_findFaults_1 : decode cX2_findFaults 1 = .ok (.istore_n 2, 1) := by decide +kernel
theorem dX2_findFaults_2 : decode cX2_findFaults 2 = .ok (.iconst 0, 1) := by decide +kernel
theorem dX2_findFaults_3 : decode cX2_findFaults 3 = .ok (.istore_n 3, 1) := by decide +kernel
theorem dX2_findFaults_4 : decode cX2_findFaults 4 = .ok (.iload_n 3, 1) := by decide +kernel
theorem dX2_findFaults_5 : decode cX2_findFaults 5 = .ok (.aload_n 0, 1) := by decide +kernel
theorem dX2_findFaults_6 : decode cX2_findFaults 6 = .ok (.getfield 12, 3) := by decide +kernel
theorem dX2_findFaults_9 : decode cX2_findFaults 9 = .ok (.getfield 76, 3) := by decide +kernel
theorem dX2_findFaults_12 : decode cX2_findFaults 12 = .ok (.if_icmp .ge 124, 3) := by decide +kernel
theorem dX2_findFaults_15 : decode cX2_findFaults 15 = .ok (.iconst 0, 1) := by decide +kernel
theorem dX2_findFaults_16 : decode cX2_findFaults 16 = .ok (.istore 4, 2) := by decide +kernel
theorem dX2_findFaults_18 : decode cX2_findFaults 18 = .ok (.iload 4, 2) := by decide +kernel
theorem dX2_findFaults_20 : decode cX2_findFaults 20 = .ok (.iconst 1, 1) := by decide +kernel
theorem dX2_findFaults_21 : decode cX2_findFaults 21 = .ok (.if_icmp .gt 109, 3) := by decide +kernel
theorem dX2_findFaults_24 : decode cX2_findFaults 24 = .ok (.aload_n 0, 1) := by decide +kernel
theorem dX2_findFaults_25 : decode cX2_findFaults 25 = .ok (.getfield 12, 3) := by decide +kernel
theorem dX2_findFaults_28 : decode cX2_findFaults 28 = .ok (.iload 4, 2) := by decide +kernel
theorem dX2_findFaults_30 : decode cX2_findFaults 30 = .ok (.invokevirtual 122, 3) := by decide +kernel
theorem dX2_findFaults_33 : decode cX2_findFaults 33 = .ok (.astore 5, 2) := by decide +kernel
theorem dX2_findFaults_35 : decode cX2_findFaults 35 = .ok (.aload 5, 2) := by decide +kernel
theorem dX2_findFaults_37 : decode cX2_findFaults 37 = .ok (.iload_n 3, 1) := by decide +kernel
theorem dX2_findFaults_38 : decode cX2_findFaults 38 = .ok (.iaload, 1) := by decide +kernel
theorem dX2_findFaults_39 : decode cX2_findFaults 39 = .ok (.istore 6, 2) := by decide +kernel
theorem dX2_findFaults_41 : decode cX2_findFaults 41 = .ok (.iconst 0, 1) := by decide +kernel
theorem dX2_findFaults_42 : decode cX2_findFaults 42 = .ok (.istore 7, 2) := by decide +kernel
theorem dX2_findFaults_44 : decode cX2_findFaults 44 = .ok (.iload 7, 2) := by decide +kernel
theorem dX2_findFaults_46 : decode cX2_findFaults 46 = .ok (.aload_n 0, 1) := by decide +kernel
theorem dX2_findFaults_47 : decode cX2_findFaults 47 = .ok (.getfield 54, 3) := by decide +kernel
theorem dX2_findFaults_50 : decode cX2_findFaults 50 = .ok (.if_icmp .ge 68, 3) := by decide +kernel
theorem dX2_findFaults_53 : decode cX2_findFaults 53 = .ok (.aload 5, 2) := by decide +kernel
theorem dX2_findFaults_55 : decode cX2_findFaults 55 = .ok (.iload_n 3, 1) := by decide +kernel
theorem dX2_findFaults_56 : decode cX2_findFaults 56 = .ok (.aload_n 0, 1) := by decide +kernel
theorem dX2_findFaults_57 : decode cX2_findFaults 57 = .ok (.getfield 51, 3) := by decide +kernel
theorem dX2_findFaults_60 : decode cX2_findFaults 60 = .ok (.iload 7, 2) := by decide +kernel
theorem dX2_findFaults_62 : decode cX2_findFaults 62 = .ok (.iaload, 1) := by decide +kernel
theorem dX2_findFaults_63 : decode cX2_findFaults 63 = .ok (.iastore, 1) := by decide +kernel
theorem dX2_findFaults_64 : decode cX2_findFaults 64 = .ok (.aload_n 0, 1) := by decide +kernel
theorem dX2_findFaults_65 : decode cX2_findFaults 65 = .ok (.getfield 51, 3) := by decide +kernel
theorem dX2_findFaults_68 : decode cX2_findFaults 68 = .ok (.iload 7, 2) := by decide +kernel
theorem dX2_findFaults_70 : decode cX2_findFaults 70 = .ok (.iaload, 1) := by decide +kernel
theorem dX2_findFaults_71 : decode cX2_findFaults 71 = .ok (.iload 6, 2) := by decide +kernel
theorem dX2_findFaults_73 : decode cX2_findFaults 73 = .ok (.if_icmp .eq 39, 3) := by decide +kernel
theorem dX2_findFaults_76 : decode cX2_findFaults 76 = .ok (.aload_n 0, 1) := by decide +kernel
theorem dX2_findFaults_77 : decode cX2_findFaults 77 = .ok (.iload_n 1, 1) := by decide +kernel
theorem dX2_findFaults_78 : decode cX2_findFaults 78 = .ok (.invokevirtual 219, 3) := by decide +kernel
theorem dX2_findFaults_81 : decode cX2_findFaults 81 = .ok (.ifCond .eq 31, 3) := by decide +kernel
theorem dX2_findFaults_84 : decode cX2_findFaults 84 = .ok (.aload_n 0, 1) := by decide +kernel
theorem dX2_findFaults_85 : decode cX2_findFaults 85 = .ok (.getfield 69, 3) := by decide +kernel
theorem dX2_findFaults_88 : decode cX2_findFaults 88 = .ok (.iload_n 2, 1) := by decide +kernel
theorem dX2_findFaults_89 : decode cX2_findFaults 89 = .ok (.iload_n 3, 1) := by decide +kernel
theorem dX2_findFaults_90 : decode cX2_findFaults 90 = .ok (.sipush 1000, 3) := by decide +kernel
theorem dX2_findFaults_93 : decode cX2_findFaults 93 = .ok (.imul, 1) := by decide +kernel
theorem dX2_findFaults_94 : decode cX2_findFaults 94 = .ok (.iload 4, 2) := by decide +kernel
theorem dX2_findFaults_96 : decode cX2_findFaults 96 = .ok (.bipush 100, 2) := by decide +kernel
theorem dX2_findFaults_98 : decode cX2_findFaults 98 = .ok (.imul, 1) := by decide +kernel
theorem dX2_findFaults_99 : decode cX2_findFaults 99 = .ok (.iadd, 1) := by decide +kernel
theorem dX2_findFaults_100 : decode cX2_findFaults 100 = .ok (.aload_n 0, 1) := by decide +kernel
theorem dX2_findFaults_101 : decode cX2_findFaults 101 = .ok (.getfield 51, 3) := by decide +kernel
theorem dX2_findFaults_104 : decode cX2_findFaults 104 = .ok (.iload 7, 2) := by decide +kernel
theorem dX2_findFaults_106 : decode cX2_findFaults 106 = .ok (.iaload, 1) := by decide +kernel
theorem dX2_findFaults_107 : decode cX2_findFaults 107 = .ok (.iadd, 1) := by decide +kernel
theorem dX2_findFaults_108 : decode cX2_findFaults 108 = .ok (.iastore, 1) := by decide +kernel
theorem dX2_findFaults_109 : decode cX2_findFaults 109 = .ok (.iinc 2 1, 3) := by decide +kernel
theorem dX2_findFaults_112 : decode cX2_findFaults 112 = .ok (.iinc 7 1, 3) := by decide +kernel
theorem dX2_findFaults_115 : decode cX2_findFaults 115 = .ok (.goto (-71), 3) := by decide +kernel
theorem dX2_findFaults_118 : decode cX2_findFaults 118 = .ok (.aload 5, 2) := by decide +kernel
theorem dX2_findFaults_120 : decode cX2_findFaults 120 = .ok (.iload_n 3, 1) := by decide +kernel
theorem dX2_findFaults_121 : decode cX2_findFaults 121 = .ok (.iload 6, 2) := by decide +kernel
theorem dX2_findFaults_123 : decode cX2_findFaults 123 = .ok (.iastore, 1) := by decide +kernel
theorem dX2_findFaults_124 : decode cX2_findFaults 124 = .ok (.iinc 4 1, 3) := by decide +kernel
theorem dX2_findFaults_127 : decode cX2_findFaults 127 = .ok (.goto (-109), 3) := by decide +kernel
theorem dX2_findFaults_130 : decode cX2_findFaults 130 = .ok (.iinc 3 1, 3) := by decide +kernel
theorem dX2_findFaults_133 : decode cX2_findFaults 133 = .ok (.goto (-129), 3) := by decide +kernel
theorem dX2_findFaults_136 : decode cX2_findFaults 136 = .ok (.iload_n 2, 1) := by decide +kernel
theorem dX2_findFaults_137 : decode cX2_findFaults 137 = .ok (.ireturn, 1) := by decide +kernel
set_option maxRecDepth 20000 in
theorem ggX2_isMeasuredSo_X1_restart : GoodIn wsX2_isMeasuredSo wsX1_restart := goodIn_r _ [10, 11, 12, 13, 14, 15, 16, 17, 111, 112, 113, 114, 115, 116, 117, 118, 119, 120, 121, 122, 123, 124, 125, 126, 127, 128, 129, 130, 131, 132] (by decide +kernel) (by decide +kernel)
set_option maxRecDepth 20000 in
theorem gX2_isMeasuredSo_X1_restart : GoodIn wsX2_isMeasuredSo (wsV RX2 223 RX1 yX1_restart wsX1_restart) := goodIn_app (goodIn_of _ (by decide +kernel)) ggX2_isMeasuredSo_X1_restart
set_option maxRecDepth 20000 in
theorem ggX2_isMeasuredSo_X1_advance : GoodIn wsX2_isMeasuredSo wsX1_advance := goodIn_r _ [21, 22, 16, 23, 24, 25, 26, 27, 9, 28, 29, 15, 13, 14, 30, 31, 32, 33, 34, 35, 36, 37, 11, 12, 38, 39, 40, 41, 42, 43, 44, 45, 46, 47, 17, 48, 49, 50, 51, 52, 53, 54, 55, 56, 57, 58, 59, 60, 61, 62, 63, 64, 65, 66, 67, 68, 121, 122, 123, 124, 125, 126, 127, 128, 129, 130, 131, 132, 111, 112, 113, 114, 115, 116, 117, 118, 119, 120] (by decide +kernel) (by decide +kernel)
set_option maxRecDepth 20000 in
theorem gX2_isMeasuredSo_X1_advance : GoodIn wsX2_isMeasuredSo (wsV RX2 130 RX1 yX1_advance wsX1_advance) := goodIn_app (goodIn_of _ (by decide +kernel)) ggX2_isMeasuredSo_X1_advance
set_option maxRecDepth 20000 in
theorem ggX2_isMeasuredSo_X1_packedEvent : GoodIn wsX2_isMeasuredSo wsX1_packedEvent := goodIn_r _ [72, 11, 12, 23, 24, 73, 39, 74, 111, 112, 113, 114, 115, 116, 117, 118, 119, 120] (by decide +kernel) (by decide +kernel)
set_option maxRecDepth 20000 in
theorem gX2_isMeasuredSo_X1_packedEvent : GoodIn wsX2_isMeasuredSo (wsV RX2 227 RX1 yX1_packedEvent wsX1_packedEvent) := goodIn_app (goodIn_of _ (by decide +kernel)) ggX2_isMeasuredSo_X1_packedEvent
set_option maxRecDepth 20000 in
theorem ggX2_isMeasuredSo_X2_isMeasure : GoodIn wsX2_isMeasuredSo wsX2_isMeasure := goodIn_r _ [78, 79, 80, 81, 82, 39, 83, 84, 85, 86, 87, 88, 89, 90, 91, 92, 93, 94, 95, 96, 97, 98, 99, 100, 101, 102, 103, 104, 105, 106, 107, 108, 109, 110] (by decide +kernel) (by decide +kernel)
set_option maxRecDepth 20000 in
theorem gX2_isMeasuredSo_X2_isMeasure : GoodIn wsX2_isMeasuredSo (wsV RX2 263 RX2 yX2_isMeasure wsX2_isMeasure) := goodIn_app (goodIn_of _ (by decide +kernel)) ggX2_isMeasuredSo_X2_isMeasure
theorem dX2_isMeasuredSo_0 : decode cX2_isMeasuredSo 0 = .ok (.aload_n 0, 1) := by decide +kernel
theorem dX2_isMeasuredSo_1 : decode cX2_isMeasuredSo 1 = .ok (.getfield 63, 3) := by decide +kernel
theorem dX2_isMeasuredSo_4 : decode cX2_isMeasuredSo 4 = .ok (.ifCond .ne 5, 3) := by decide +kernel
theorem dX2_isMeasuredSo_7 : decode cX2_isMeasuredSo 7 = .ok (.iconst 1, 1) := by decide +kernel
theorem dX2_isMeasuredSo_8 : decode cX2_isMeasuredSo 8 = .ok (.ireturn, 1) := by decide +kernel
theorem dX2_isMeasuredSo_9 : decode cX2_isMeasuredSo 9 = .ok (.aload_n 0, 1) := by decide +kernel
theorem dX2_isMeasuredSo_10 : decode cX2_isMeasuredSo 10 = .ok (.getfield 23, 3) := by decide +kernel
theorem dX2_isMeasuredSo_13 : decode cX2_isMeasuredSo 13 = .ok (.aload_n 0, 1) := by decide +kernel
theorem dX2_isMeasuredSo_14 : decode cX2_isMeasuredSo 14 = .ok (.getfield 12, 3) := by decide +kernel
theorem dX2_isMeasuredSo_17 : decode cX2_isMeasuredSo 17 = .ok (.invokevirtual 223, 3) := by decide +kernel
theorem dX2_isMeasuredSo_20 : decode cX2_isMeasuredSo 20 = .ok (.iconst 0, 1) := by decide +kernel
theorem dX2_isMeasuredSo_21 : decode cX2_isMeasuredSo 21 = .ok (.istore_n 2, 1) := by decide +kernel
theorem dX2_isMeasuredSo_22 : decode cX2_isMeasuredSo 22 = .ok (.lconst 0, 1) := by decide +kernel
theorem dX2_isMeasuredSo_23 : decode cX2_isMeasuredSo 23 = .ok (.lstore_n 3, 1) := by decide +kernel
theorem dX2_isMeasuredSo_24 : decode cX2_isMeasuredSo 24 = .ok (.iconst 0, 1) := by decide +kernel
theorem dX2_isMeasuredSo_25 : decode cX2_isMeasuredSo 25 = .ok (.istore 5, 2) := by decide +kernel
theorem dX2_isMeasuredSo_27 : decode cX2_isMeasuredSo 27 = .ok (.iload 5, 2) := by decide +kernel
theorem dX2_isMeasuredSo_29 : decode cX2_isMeasuredSo 29 = .ok (.sipush 400, 3) := by decide +kernel
theorem dX2_isMeasuredSo_32 : decode cX2_isMeasuredSo 32 = .ok (.if_icmp .ge 90, 3) := by decide +kernel
theorem dX2_isMeasuredSo_35 : decode cX2_isMeasuredSo 35 = .ok (.aload_n 0, 1) := by decide +kernel
theorem dX2_isMeasuredSo_36 : decode cX2_isMeasuredSo 36 = .ok (.getfield 23, 3) := by decide +kernel
theorem dX2_isMeasuredSo_39 : decode cX2_isMeasuredSo 39 = .ok (.aload_n 0, 1) := by decide +kernel
theorem dX2_isMeasuredSo_40 : decode cX2_isMeasuredSo 40 = .ok (.getfield 12, 3) := by decide +kernel
theorem dX2_isMeasuredSo_43 : decode cX2_isMeasuredSo 43 = .ok (.invokevirtual 130, 3) := by decide +kernel
theorem dX2_isMeasuredSo_46 : decode cX2_isMeasuredSo 46 = .ok (.ifCond .ne 5, 3) := by decide +kernel
theorem dX2_isMeasuredSo_49 : decode cX2_isMeasuredSo 49 = .ok (.iconst 0, 1) := by decide +kernel
theorem dX2_isMeasuredSo_50 : decode cX2_isMeasuredSo 50 = .ok (.ireturn, 1) := by decide +kernel
theorem dX2_isMeasuredSo_51 : decode cX2_isMeasuredSo 51 = .ok (.aload_n 0, 1) := by decide +kernel
theorem dX2_isMeasuredSo_52 : decode cX2_isMeasuredSo 52 = .ok (.getfield 23, 3) := by decide +kernel
theorem dX2_isMeasuredSo_55 : decode cX2_isMeasuredSo 55 = .ok (.getfield 234, 3) := by decide +kernel
theorem dX2_isMeasuredSo_58 : decode cX2_isMeasuredSo 58 = .ok (.iload_n 1, 1) := by decide +kernel
theorem dX2_isMeasuredSo_59 : decode cX2_isMeasuredSo 59 = .ok (.if_icmp .ne 57, 3) := by decide +kernel
theorem dX2_isMeasuredSo_62 : decode cX2_isMeasuredSo 62 = .ok (.aload_n 0, 1) := by decide +kernel
theorem dX2_isMeasuredSo_63 : decode cX2_isMeasuredSo 63 = .ok (.getfield 23, 3) := by decide +kernel
theorem dX2_isMeasuredSo_66 : decode cX2_isMeasuredSo 66 = .ok (.getfield 231, 3) := by decide +kernel
theorem dX2_isMeasuredSo_69 : decode cX2_isMeasuredSo 69 = .ok (.ifCond .ne 47, 3) := by decide +kernel
theorem dX2_isMeasuredSo_72 : decode cX2_isMeasuredSo 72 = .ok (.aload_n 0, 1) := by decide +kernel
theorem dX2_isMeasuredSo_73 : decode cX2_isMeasuredSo 73 = .ok (.getfield 23, 3) := by decide +kernel
theorem dX2_isMeasuredSo_76 : decode cX2_isMeasuredSo 76 = .ok (.invokevirtual 227, 3) := by decide +kernel
theorem dX2_isMeasuredSo_79 : decode cX2_isMeasuredSo 79 = .ok (.lstore 6, 2) := by decide +kernel
theorem dX2_isMeasuredSo_81 : decode cX2_isMeasuredSo 81 = .ok (.iload_n 2, 1) := by decide +kernel
theorem dX2_isMeasuredSo_82 : decode cX2_isMeasuredSo 82 = .ok (.ifCond .le 18, 3) := by decide +kernel
theorem dX2_isMeasuredSo_85 : decode cX2_isMeasuredSo 85 = .ok (.aload_n 0, 1) := by decide +kernel
theorem dX2_isMeasuredSo_86 : decode cX2_isMeasuredSo 86 = .ok (.iload_n 2, 1) := by decide +kernel
theorem dX2_isMeasuredSo_87 : decode cX2_isMeasuredSo 87 = .ok (.iconst 1, 1) := by decide +kernel
theorem dX2_isMeasuredSo_88 : decode cX2_isMeasuredSo 88 = .ok (.isub, 1) := by decide +kernel
theorem dX2_isMeasuredSo_89 : decode cX2_isMeasuredSo 89 = .ok (.lload_n 3, 1) := by decide +kernel
theorem dX2_isMeasuredSo_90 : decode cX2_isMeasuredSo 90 = .ok (.lload 6, 2) := by decide +kernel
theorem dX2_isMeasuredSo_92 : decode cX2_isMeasuredSo 92 = .ok (.invokevirtual 263, 3) := by decide +kernel
theorem dX2_isMeasuredSo_95 : decode cX2_isMeasuredSo 95 = .ok (.ifCond .ne 5, 3) := by decide +kernel
theorem dX2_isMeasuredSo_98 : decode cX2_isMeasuredSo 98 = .ok (.iconst 0, 1) := by decide +kernel
theorem dX2_isMeasuredSo_99 : decode cX2_isMeasuredSo 99 = .ok (.ireturn, 1) := by decide +kernel
theorem dX2_isMeasuredSo_100 : decode cX2_isMeasuredSo 100 = .ok (.iload_n 2, 1) := by decide +kernel
theorem dX2_isMeasuredSo_101 : decode cX2_isMeasuredSo 101 = .ok (.aload_n 0, 1) := by decide +kernel
theorem dX2_isMeasuredSo_102 : decode cX2_isMeasuredSo 102 = .ok (.getfield 63, 3) := by decide +kernel
theorem dX2_isMeasuredSo_105 : decode cX2_isMeasuredSo 105 = .ok (.if_icmp .ne 5, 3) := by decide +kernel
theorem dX2_isMeasuredSo_108 : decode cX2_isMeasuredSo 108 = .ok (.iconst 1, 1) := by decide +kernel
theorem dX2_isMeasuredSo_109 : decode cX2_isMeasuredSo 109 = .ok (.ireturn, 1) := by decide +kernel
theorem dX2_isMeasuredSo_110 : decode cX2_isMeasuredSo 110 = .ok (.iinc 2 1, 3) := by decide +kernel
theorem dX2_isMeasuredSo_113 : decode cX2_isMeasuredSo 113 = .ok (.lload 6, 2) := by decide +kernel
theorem dX2_isMeasuredSo_115 : decode cX2_isMeasuredSo 115 = .ok (.lstore_n 3, 1) := by decide +kernel
theorem dX2_isMeasuredSo_116 : decode cX2_isMeasuredSo 116 = .ok (.iinc 5 1, 3) := by decide +kernel
theorem dX2_isMeasuredSo_119 : decode cX2_isMeasuredSo 119 = .ok (.goto (-92), 3) := by decide +kernel
theorem dX2_isMeasuredSo_122 : decode cX2_isMeasuredSo 122 = .ok (.iconst 0, 1) := by decide +kernel
theorem dX2_isMeasuredSo_123 : decode cX2_isMeasuredSo 123 = .ok (.ireturn, 1) := by decide +kernel
set_option maxRecDepth 20000 in
theorem ggX2_isMeasure_X2_betweenNum : GoodIn wsX2_isMeasure wsX2_betweenNum := goodIn_r _ [6, 7, 8, 5, 9, 10, 11, 12, 13] (by decide +kernel) (by decide +kernel)
set_option maxRecDepth 20000 in
theorem gX2_isMeasure_X2_betweenNum : GoodIn wsX2_isMeasure (va_wsS RX2 251 yX2_betweenNum wsX2_betweenNum) := goodIn_app (goodIn_of _ (by decide +kernel)) ggX2_isMeasure_X2_betweenNum
set_option maxRecDepth 20000 in
theorem ggX2_isMeasure_X2_betweenDen : GoodIn wsX2_isMeasure wsX2_betweenDen := goodIn_r _ [16, 10, 11, 5, 12, 13] (by decide +kernel) (by decide +kernel)
set_option maxRecDepth 20000 in
theorem gX2_isMeasure_X2_betweenDen : GoodIn wsX2_isMeasure (va_wsS RX2 254 yX2_betweenDen wsX2_betweenDen) := goodIn_app (goodIn_of _ (by decide +kernel)) ggX2_isMeasure_X2_betweenDen
theorem dX2_isMeasure_0 : decode cX2_isMeasure 0 = .ok (.lload_n 2, 1) := by decide +kernel
theorem dX2_isMeasure_1 : decode cX2_isMeasure 1 = .ok (.lload 4, 2) := by decide +kernel
theorem dX2_isMeasure_3 : decode cX2_isMeasure 3 = .ok (.invokestatic 251, 3) := by decide +kernel
theorem dX2_isMeasure_6 : decode cX2_isMeasure 6 = .ok (.aload_n 0, 1) := by decide +kernel
theorem dX2_isMeasure_7 : decode cX2_isMeasure 7 = .ok (.getfield 60, 3) := by decide +kernel
theorem dX2_isMeasure_10 : decode cX2_isMeasure 10 = .ok (.iload_n 1, 1) := by decide +kernel
theorem dX2_isMeasure_11 : decode cX2_isMeasure 11 = .ok (.iaload, 1) := by decide +kernel
theorem dX2_isMeasure_12 : decode cX2_isMeasure 12 = .ok (.i2l, 1) := by decide +kernel
theorem dX2_isMeasure_13 : decode cX2_isMeasure 13 = .ok (.lmul, 1) := by decide +kernel
theorem dX2_isMeasure_14 : decode cX2_isMeasure 14 = .ok (.aload_n 0, 1) := by decide +kernel
theorem dX2_isMeasure_15 : decode cX2_isMeasure 15 = .ok (.getfield 57, 3) := by decide +kernel
theorem dX2_isMeasure_18 : decode cX2_isMeasure 18 = .ok (.iload_n 1, 1) := by decide +kernel
theorem dX2_isMeasure_19 : decode cX2_isMeasure 19 = .ok (.iaload, 1) := by decide +kernel
theorem dX2_isMeasure_20 : decode cX2_isMeasure 20 = .ok (.i2l, 1) := by decide +kernel
theorem dX2_isMeasure_21 : decode cX2_isMeasure 21 = .ok (.lload_n 2, 1) := by decide +kernel
theorem dX2_isMeasure_22 : decode cX2_isMeasure 22 = .ok (.lload 4, 2) := by decide +kernel
theorem dX2_isMeasure_24 : decode cX2_isMeasure 24 = .ok (.invokestatic 254, 3) := by decide +kernel
theorem dX2_isMeasure_27 : decode cX2_isMeasure 27 = .ok (.lmul, 1) := by decide +kernel
theorem dX2_isMeasure_28 : decode cX2_isMeasure 28 = .ok (.lcmp, 1) := by decide +kernel
theorem dX2_isMeasure_29 : decode cX2_isMeasure 29 = .ok (.ifCond .ne 7, 3) := by decide +kernel
theorem dX2_isMeasure_32 : decode cX2_isMeasure 32 = .ok (.iconst 1, 1) := by decide +kernel
theorem dX2_isMeasure_33 : decode cX2_isMeasure 33 = .ok (.goto 4, 3) := by decide +kernel
theorem dX2_isMeasure_36 : decode cX2_isMeasure 36 = .ok (.iconst 0, 1) := by decide +kernel
theorem dX2_isMeasure_37 : decode cX2_isMeasure 37 = .ok (.ireturn, 1) := by decide +kernel
theorem dX2_commonOf_0 : decode cX2_commonOf 0 = .ok (.lload_n 0, 1) := by decide +kernel
theorem dX2_commonOf_1 : decode cX2_commonOf 1 = .ok (.lconst 0, 1) := by decide +kernel
theorem dX2_commonOf_2 : decode cX2_commonOf 2 = .ok (.lcmp, 1) := by decide +kernel
theorem dX2_commonOf_3 : decode cX2_commonOf 3 = .ok (.ifCond .ge 8, 3) := by decide +kernel
theorem dX2_commonOf_6 : decode cX2_commonOf 6 = .ok (.lload_n 0, 1) := by decide +kernel
theorem dX2_commonOf_7 : decode cX2_commonOf 7 = .ok (.lneg, 1) := by decide +kernel
theorem dX2_commonOf_8 : decode cX2_commonOf 8 = .ok (.goto 4, 3) := by decide +kernel
theorem dX2_commonOf_11 : decode cX2_commonOf 11 = .ok (.lload_n 0, 1) := by decide +kernel
theorem dX2_commonOf_12 : decode cX2_commonOf 12 = .ok (.lstore 4, 2) := by decide +kernel
theorem dX2_commonOf_14 : decode cX2_commonOf 14 = .ok (.lload_n 2, 1) := by decide +kernel
theorem dX2_commonOf_15 : decode cX2_commonOf 15 = .ok (.lconst 0, 1) := by decide +kernel
theorem dX2_commonOf_16 : decode cX2_commonOf 16 = .ok (.lcmp, 1) := by decide +kernel
theorem dX2_commonOf_17 : decode cX2_commonOf 17 = .ok (.ifCond .ge 8, 3) := by decide +kernel
theorem dX2_commonOf_20 : decode cX2_commonOf 20 = .ok (.lload_n 2, 1) := by decide +kernel
theorem dX2_commonOf_21 : decode cX2_commonOf 21 = .ok (.lneg, 1) := by decide +kernel
theorem dX2_commonOf_22 : decode cX2_commonOf 22 = .ok (.goto 4, 3) := by decide +kernel
theorem dX2_commonOf_25 : decode cX2_commonOf 25 = .ok (.lload_n 2, 1) := by decide +kernel
theorem dX2_commonOf_26 : decode cX2_commonOf 26 = .ok (.lstore 6, 2) := by decide +kernel
theorem dX2_commonOf_28 : decode cX2_commonOf 28 = .ok (.iconst 0, 1) := by decide +kernel
theorem dX2_commonOf_29 : decode cX2_commonOf 29 = .ok (.istore 8, 2) := by decide +kernel
theorem dX2_commonOf_31 : decode cX2_commonOf 31 = .ok (.iload 8, 2) := by decide +kernel
theorem dX2_commonOf_33 : decode cX2_commonOf 33 = .ok (.sipush 200, 3) := by decide +kernel
theorem dX2_commonOf_36 : decode cX2_commonOf 36 = .ok (.if_icmp .ge 31, 3) := by decide +kernel
theorem dX2_commonOf_39 : decode cX2_commonOf 39 = .ok (.lload 6, 2) := by decide +kernel
theorem dX2_commonOf_41 : decode cX2_commonOf 41 = .ok (.lconst 0, 1) := by decide +kernel
theorem dX2_commonOf_42 : decode cX2_commonOf 42 = .ok (.lcmp, 1) := by decide +kernel
theorem dX2_commonOf_43 : decode cX2_commonOf 43 = .ok (.ifCond .eq 24, 3) := by decide +kernel
theorem dX2_commonOf_46 : decode cX2_commonOf 46 = .ok (.lload 4, 2) := by decide +kernel
theorem dX2_commonOf_48 : decode cX2_commonOf 48 = .ok (.lload 6, 2) := by decide +kernel
theorem dX2_commonOf_50 : decode cX2_commonOf 50 = .ok (.lrem, 1) := by decide +kernel
theorem dX2_commonOf_51 : decode cX2_commonOf 51 = .ok (.lstore 9, 2) := by decide +kernel
theorem dX2_commonOf_53 : decode cX2_commonOf 53 = .ok (.lload 6, 2) := by decide +kernel
theorem dX2_commonOf_55 : decode cX2_commonOf 55 = .ok (.lstore 4, 2) := by decide +kernel
theorem dX2_commonOf_57 : decode cX2_commonOf 57 = .ok (.lload 9, 2) := by decide +kernel
theorem dX2_commonOf_59 : decode cX2_commonOf 59 = .ok (.lstore 6, 2) := by decide +kernel
theorem dX2_commonOf_61 : decode cX2_commonOf 61 = .ok (.iinc 8 1, 3) := by decide +kernel
theorem dX2_commonOf_64 : decode cX2_commonOf 64 = .ok (.goto (-33), 3) := by decide +kernel
theorem dX2_commonOf_67 : decode cX2_commonOf 67 = .ok (.lload 4, 2) := by decide +kernel
theorem dX2_commonOf_69 : decode cX2_commonOf 69 = .ok (.lconst 0, 1) := by decide +kernel
theorem dX2_commonOf_70 : decode cX2_commonOf 70 = .ok (.lcmp, 1) := by decide +kernel
theorem dX2_commonOf_71 : decode cX2_commonOf 71 = .ok (.ifCond .le 8, 3) := by decide +kernel
theorem dX2_commonOf_74 : decode cX2_commonOf 74 = .ok (.lload 4, 2) := by decide +kernel
theorem dX2_commonOf_76 : decode cX2_commonOf 76 = .ok (.goto 4, 3) := by decide +kernel
theorem dX2_commonOf_79 : decode cX2_commonOf 79 = .ok (.lconst 1, 1) := by decide +kernel
theorem dX2_commonOf_80 : decode cX2_commonOf 80 = .ok (.lreturn, 1) := by decide +kernel
theorem dX2_packed_0 : decode cX2_packed 0 = .ok (.lload_n 0, 1) := by decide +kernel
theorem dX2_packed_1 : decode cX2_packed 1 = .ok (.bipush 20, 2) := by decide +kernel
theorem dX2_packed_3 : decode cX2_packed 3 = .ok (.lshl, 1) := by decide +kernel
theorem dX2_packed_4 : decode cX2_packed 4 = .ok (.lload_n 2, 1) := by decide +kernel
theorem dX2_packed_5 : decode cX2_packed 5 = .ok (.ladd, 1) := by decide +kernel
theorem dX2_packed_6 : decode cX2_packed 6 = .ok (.lreturn, 1) := by decide +kernel
theorem dX2_turnedIn_0 : decode cX2_turnedIn 0 = .ok (.lload_n 0, 1) := by decide +kernel
theorem dX2_turnedIn_1 : decode cX2_turnedIn 1 = .ok (.iconst 1, 1) := by decide +kernel
theorem dX2_turnedIn_2 : decode cX2_turnedIn 2 = .ok (.lshr, 1) := by decide +kernel
theorem dX2_turnedIn_3 : decode cX2_turnedIn 3 = .ok (.l2i, 1) := by decide +kernel
theorem dX2_turnedIn_4 : decode cX2_turnedIn 4 = .ok (.iconst 3, 1) := by decide +kernel
theorem dX2_turnedIn_5 : decode cX2_turnedIn 5 = .ok (.iand, 1) := by decide +kernel
theorem dX2_turnedIn_6 : decode cX2_turnedIn 6 = .ok (.ireturn, 1) := by decide +kernel
theorem dX2_sideIn_0 : decode cX2_sideIn 0 = .ok (.lload_n 0, 1) := by decide +kernel
theorem dX2_sideIn_1 : decode cX2_sideIn 1 = .ok (.l2i, 1) := by decide +kernel
theorem dX2_sideIn_2 : decode cX2_sideIn 2 = .ok (.iconst 1, 1) := by decide +kernel
theorem dX2_sideIn_3 : decode cX2_sideIn 3 = .ok (.iand, 1) := by decide +kernel
theorem dX2_sideIn_4 : decode cX2_sideIn 4 = .ok (.ireturn, 1) := by decide +kernel
theorem dX2_timeNumIn_0 : decode cX2_timeNumIn 0 = .ok (.lload_n 0, 1) := by decide +kernel
theorem dX2_timeNumIn_1 : decode cX2_timeNumIn 1 = .ok (.bipush 23, 2) := by decide +kernel
theorem dX2_timeNumIn_3 : decode cX2_timeNumIn 3 = .ok (.lshr, 1) := by decide +kernel
theorem dX2_timeNumIn_4 : decode cX2_timeNumIn 4 = .ok (.lreturn, 1) := by decide +kernel
theorem dX2_timeDenIn_0 : decode cX2_timeDenIn 0 = .ok (.lload_n 0, 1) := by decide +kernel
theorem dX2_timeDenIn_1 : decode cX2_timeDenIn 1 = .ok (.iconst 3, 1) := by decide +kernel
theorem dX2_timeDenIn_2 : decode cX2_timeDenIn 2 = .ok (.lshr, 1) := by decide +kernel
theorem dX2_timeDenIn_3 : decode cX2_timeDenIn 3 = .ok (.ldc2_w 267, 3) := by decide +kernel
theorem dX2_timeDenIn_6 : decode cX2_timeDenIn 6 = .ok (.land, 1) := by decide +kernel
theorem dX2_timeDenIn_7 : decode cX2_timeDenIn 7 = .ok (.lreturn, 1) := by decide +kernel
set_option maxRecDepth 20000 in
theorem ggX2_betweenNum_X2_timeNumIn : GoodIn wsX2_betweenNum wsX2_timeNumIn := goodIn_r _ [4] (by decide +kernel) (by decide +kernel)
set_option maxRecDepth 20000 in
theorem gX2_betweenNum_X2_timeNumIn : GoodIn wsX2_betweenNum (va_wsS RX2 181 yX2_timeNumIn wsX2_timeNumIn) := goodIn_app (goodIn_of _ (by decide +kernel)) ggX2_betweenNum_X2_timeNumIn
set_option maxRecDepth 20000 in
theorem ggX2_betweenNum_X2_timeDenIn : GoodIn wsX2_betweenNum wsX2_timeDenIn := goodIn_r _ [7, 8] (by decide +kernel) (by decide +kernel)
set_option maxRecDepth 20000 in
theorem gX2_betweenNum_X2_timeDenIn : GoodIn wsX2_betweenNum (va_wsS RX2 185 yX2_timeDenIn wsX2_timeDenIn) := goodIn_app (goodIn_of _ (by decide +kernel)) ggX2_betweenNum_X2_timeDenIn
theorem dX2_betweenNum_0 : decode cX2_betweenNum 0 = .ok (.lload_n 2, 1) := by decide +kernel
theorem dX2_betweenNum_1 : decode cX2_betweenNum 1 = .ok (.invokestatic 181, 3) := by decide +kernel
theorem dX2_betweenNum_4 : decode cX2_betweenNum 4 = .ok (.lload_n 0, 1) := by decide +kernel
theorem dX2_betweenNum_5 : decode cX2_betweenNum 5 = .ok (.invokestatic 185, 3) := by decide +kernel
theorem dX2_betweenNum_8 : decode cX2_betweenNum 8 = .ok (.lmul, 1) := by decide +kernel
theorem dX2_betweenNum_9 : decode cX2_betweenNum 9 = .ok (.lload_n 0, 1) := by decide +kernel
theorem dX2_betweenNum_10 : decode cX2_betweenNum 10 = .ok (.invokestatic 181, 3) := by decide +kernel
theorem dX2_betweenNum_13 : decode cX2_betweenNum 13 = .ok (.lload_n 2, 1) := by decide +kernel
theorem dX2_betweenNum_14 : decode cX2_betweenNum 14 = .ok (.invokestatic 185, 3) := by decide +kernel
theorem dX2_betweenNum_17 : decode cX2_betweenNum 17 = .ok (.lmul, 1) := by decide +kernel
theorem dX2_betweenNum_18 : decode cX2_betweenNum 18 = .ok (.lsub, 1) := by decide +kernel
theorem dX2_betweenNum_19 : decode cX2_betweenNum 19 = .ok (.lreturn, 1) := by decide +kernel
set_option maxRecDepth 20000 in
theorem ggX2_betweenDen_X2_timeDenIn : GoodIn wsX2_betweenDen wsX2_timeDenIn := goodIn_r _ [4, 5] (by decide +kernel) (by decide +kernel)
set_option maxRecDepth 20000 in
theorem gX2_betweenDen_X2_timeDenIn : GoodIn wsX2_betweenDen (va_wsS RX2 185 yX2_timeDenIn wsX2_timeDenIn) := goodIn_app (goodIn_of _ (by decide +kernel)) ggX2_betweenDen_X2_timeDenIn
theorem dX2_betweenDen_0 : decode cX2_betweenDen 0 = .ok (.lload_n 2, 1) := by decide +kernel
theorem dX2_betweenDen_1 : decode cX2_betweenDen 1 = .ok (.invokestatic 185, 3) := by decide +kernel
theorem dX2_betweenDen_4 : decode cX2_betweenDen 4 = .ok (.lload_n 0, 1) := by decide +kernel
theorem dX2_betweenDen_5 : decode cX2_betweenDen 5 = .ok (.invokestatic 185, 3) := by decide +kernel
theorem dX2_betweenDen_8 : decode cX2_betweenDen 8 = .ok (.lmul, 1) := by decide +kernel
theorem dX2_betweenDen_9 : decode cX2_betweenDen 9 = .ok (.lreturn, 1) := by decide +kernel
set_option maxRecDepth 20000 in
theorem ggX3_init_X3_resetAll : GoodIn wsX3_init wsX3_resetAll := goodIn_r _ [28, 11, 5, 29, 30, 31, 32, 33, 34, 35, 36, 37, 38, 39, 40, 41, 42, 43, 44, 45, 46, 47, 48, 49, 50, 51, 52, 53, 54, 55, 56] (by decide +kernel) (by decide +kernel)
set_option maxRecDepth 20000 in
theorem gX3_init_X3_resetAll : GoodIn wsX3_init (wsV RX3 66 RX3 yX3_resetAll wsX3_resetAll) := goodIn_app (goodIn_of _ (by decide +kernel)) ggX3_init_X3_resetAll
theorem dX3_init_0 : decode cX3_init 0 = .ok (.aload_n 0, 1) := by decide +kernel
theorem dX3_init_1 : decode cX3_init 1 = .ok (.invokespecial 1, 3) := by decide +kernel
theorem dX3_init_4 : decode cX3_init 4 = .ok (.aload_n 0, 1) := by decide +kernel
theorem dX3_init_5 : decode cX3_init 5 = .ok (.iconst 4, 1) := by decide +kernel
theorem dX3_init_6 : decode cX3_init 6 = .ok (.newarray .int, 2) := by decide +kernel
theorem dX3_init_8 : decode cX3_init 8 = .ok (.putfield 9, 3) := by decide +kernel
theorem dX3_init_11 : decode cX3_init 11 = .ok (.aload_n 0, 1) := by decide +kernel
theorem dX3_init_12 : decode cX3_init 12 = .ok (.iconst 4, 1) := by decide +kernel
theorem dX3_init_13 : decode cX3_init 13 = .ok (.newarray .int, 2) := by decide +kernel
theorem dX3_init_15 : decode cX3_init 15 = .ok (.putfield 13, 3) := by decide +kernel
theorem dX3_init_18 : decode cX3_init 18 = .ok (.aload_n 0, 1) := by decide +kernel
theorem dX3_init_19 : decode cX3_init 19 = .ok (.iconst 4, 1) := by decide +kernel
theorem dX3_init_20 : decode cX3_init 20 = .ok (.newarray .int, 2) := by decide +kernel
theorem dX3_init_22 : decode cX3_init 22 = .ok (.putfield 16, 3) := by decide +kernel
theorem dX3_init_25 : decode cX3_init 25 = .ok (.aload_n 0, 1) := by decide +kernel
theorem dX3_init_26 : decode cX3_init 26 = .ok (.iconst 4, 1) := by decide +kernel
theorem dX3_init_27 : decode cX3_init 27 = .ok (.newarray .int, 2) := by decide +kernel
theorem dX3_init_29 : decode cX3_init 29 = .ok (.putfield 19, 3) := by decide +kernel
theorem dX3_init_32 : decode cX3_init 32 = .ok (.aload_n 0, 1) := by decide +kernel
theorem dX3_init_33 : decode cX3_init 33 = .ok (.bipush 48, 2) := by decide +kernel
theorem dX3_init_35 : decode cX3_init 35 = .ok (.newarray .int, 2) := by decide +kernel
theorem dX3_init_37 : decode cX3_init 37 = .ok (.putfield 22, 3) := by decide +kernel
theorem dX3_init_40 : decode cX3_init 40 = .ok (.aload_n 0, 1) := by decide +kernel
theorem dX3_init_41 : decode cX3_init 41 = .ok (.bipush 31, 2) := by decide +kernel
theorem dX3_init_43 : decode cX3_init 43 = .ok (.newarray .long, 2) := by decide +kernel
theorem dX3_init_45 : decode cX3_init 45 = .ok (.putfield 25, 3) := by decide +kernel
theorem dX3_init_48 : decode cX3_init 48 = .ok (.aload_n 0, 1) := by decide +kernel
theorem dX3_init_49 : decode cX3_init 49 = .ok (.bipush 31, 2) := by decide +kernel
theorem dX3_init_51 : decode cX3_init 51 = .ok (.newarray .long, 2) := by decide +kernel
theorem dX3_init_53 : decode cX3_init 53 = .ok (.putfield 29, 3) := by decide +kernel
theorem dX3_init_56 : decode cX3_init 56 = .ok (.aload_n 0, 1) := by decide +kernel
theorem dX3_init_57 : decode cX3_init 57 = .ok (.bipush 31, 2) := by decide +kernel
theorem dX3_init_59 : decode cX3_init 59 = .ok (.newarray .long, 2) := by decide +kernel
theorem dX3_init_61 : decode cX3_init 61 = .ok (.putfield 32, 3) := by decide +kernel
theorem dX3_init_64 : decode cX3_init 64 = .ok (.aload_n 0, 1) := by decide +kernel
theorem dX3_init_65 : decode cX3_init 65 = .ok (.sipush 500, 3) := by decide +kernel
theorem dX3_init_68 : decode cX3_init 68 = .ok (.newarray .int, 2) := by decide +kernel
theorem dX3_init_70 : decode cX3_init 70 = .ok (.putfield 35, 3) := by decide +kernel
theorem dX3_init_73 : decode cX3_init 73 = .ok (.aload_n 0, 1) := by decide +kernel
theorem dX3_init_74 : decode cX3_init 74 = .ok (.sipush 500, 3) := by decide +kernel
theorem dX3_init_77 : decode cX3_init 77 = .ok (.newarray .int, 2) := by decide +kernel
theorem dX3_init_79 : decode cX3_init 79 = .ok (.putfield 38, 3) := by decide +kernel
theorem dX3_init_82 : decode cX3_init 82 = .ok (.aload_n 0, 1) := by decide +kernel
theorem dX3_init_83 : decode cX3_init 83 = .ok (.sipush 500, 3) := by decide +kernel
theorem dX3_init_86 : decode cX3_init 86 = .ok (.newarray .long, 2) := by decide +kernel
theorem dX3_init_88 : decode cX3_init 88 = .ok (.putfield 41, 3) := by decide +kernel
theorem dX3_init_91 : decode cX3_init 91 = .ok (.aload_n 0, 1) := by decide +kernel
theorem dX3_init_92 : decode cX3_init 92 = .ok (.sipush 500, 3) := by decide +kernel
theorem dX3_init_95 : decode cX3_init 95 = .ok (.newarray .long, 2) := by decide +kernel
theorem dX3_init_97 : decode cX3_init 97 = .ok (.putfield 44, 3) := by decide +kernel
theorem dX3_init_100 : decode cX3_init 100 = .ok (.aload_n 0, 1) := by decide +kernel
theorem dX3_init_101 : decode cX3_init 101 = .ok (.iconst 1, 1) := by decide +kernel
theorem dX3_init_102 : decode cX3_init 102 = .ok (.putfield 47, 3) := by decide +kernel
theorem dX3_init_105 : decode cX3_init 105 = .ok (.aload_n 0, 1) := by decide +kernel
theorem dX3_init_106 : decode cX3_init 106 = .ok (.sipush 9331, 3) := by decide +kernel
theorem dX3_init_109 : decode cX3_init 109 = .ok (.newarray .long, 2) := by decide +kernel
theorem dX3_init_111 : decode cX3_init 111 = .ok (.putfield 51, 3) := by decide +kernel
theorem dX3_init_114 : decode cX3_init 114 = .ok (.aload_n 0, 1) := by decide +kernel
theorem dX3_init_115 : decode cX3_init 115 = .ok (.bipush 8, 2) := by decide +kernel
theorem dX3_init_117 : decode cX3_init 117 = .ok (.newarray .long, 2) := by decide +kernel
theorem dX3_init_119 : decode cX3_init 119 = .ok (.putfield 54, 3) := by decide +kernel
theorem dX3_init_122 : decode cX3_init 122 = .ok (.aload_n 0, 1) := by decide +kernel
theorem dX3_init_123 : decode cX3_init 123 = .ok (.bipush 10, 2) := by decide +kernel
theorem dX3_init_125 : decode cX3_init 125 = .ok (.newarray .int, 2) := by decide +kernel
theorem dX3_init_127 : decode cX3_init 127 = .ok (.putfield 57, 3) := by decide +kernel
theorem dX3_init_130 : decode cX3_init 130 = .ok (.aload_n 0, 1) := by decide +kernel
theorem dX3_init_131 : decode cX3_init 131 = .ok (.bipush 8, 2) := by decide +kernel
theorem dX3_init_133 : decode cX3_init 133 = .ok (.newarray .long, 2) := by decide +kernel
theorem dX3_init_135 : decode cX3_init 135 = .ok (.putfield 60, 3) := by decide +kernel
theorem dX3_init_138 : decode cX3_init 138 = .ok (.aload_n 0, 1) := by decide +kernel
theorem dX3_init_139 : decode cX3_init 139 = .ok (.bipush 8, 2) := by decide +kernel
theorem dX3_init_141 : decode cX3_init 141 = .ok (.newarray .long, 2) := by decide +kernel
theorem dX3_init_143 : decode cX3_init 143 = .ok (.putfield 63, 3) := by decide +kernel
theorem dX3_init_146 : decode cX3_init 146 = .ok (.aload_n 0, 1) := by decide +kernel
theorem dX3_init_147 : decode cX3_init 147 = .ok (.invokevirtual 66, 3) := by decide +kernel
theorem dX3_init_150 : decode cX3_init 150 = .ok (.return_, 1) := by decide +kernel
theorem dX3_thrown_0 : decode cX3_thrown 0 = .ok (.aload_n 0, 1) := by decide +kernel
theorem dX3_thrown_1 : decode cX3_thrown 1 = .ok (.getfield 69, 3) := by decide +kernel
theorem dX3_thrown_4 : decode cX3_thrown 4 = .ok (.ireturn, 1) := by decide +kernel
theorem dX3_in_0 : decode cX3_in 0 = .ok (.iload_n 0, 1) := by decide +kernel
theorem dX3_in_1 : decode cX3_in 1 = .ok (.iload_n 1, 1) := by decide +kernel
theorem dX3_in_2 : decode cX3_in 2 = .ok (.if_icmp .lt 12, 3) := by decide +kernel
theorem dX3_in_5 : decode cX3_in 5 = .ok (.iload_n 0, 1) := by decide +kernel
theorem dX3_in_6 : decode cX3_in 6 = .ok (.iload_n 2, 1) := by decide +kernel
theorem dX3_in_7 : decode cX3_in 7 = .ok (.if_icmp .gt 7, 3) := by decide +kernel
theorem dX3_in_10 : decode cX3_in 10 = .ok (.iconst 1, 1) := by decide +kernel
theorem dX3_in_11 : decode cX3_in 11 = .ok (.goto 4, 3) := by decide +kernel
theorem dX3_in_14 : decode cX3_in 14 = .ok (.iconst 0, 1) := by decide +kernel
theorem dX3_in_15 : decode cX3_in 15 = .ok (.ireturn, 1) := by decide +kernel
set_option maxRecDepth 20000 in
theorem ggX3_isCell_X3_in : GoodIn wsX3_isCell wsX3_in := goodIn_r _ [5] (by decide +kernel) (by decide +kernel)
set_option maxRecDepth 20000 in
theorem gX3_isCell_X3_in : GoodIn wsX3_isCell (va_wsS RX3 76 yX3_in wsX3_in) := goodIn_app (goodIn_of _ (by decide +kernel)) ggX3_isCell_X3_in
theorem dX3_isCell_0 : decode cX3_isCell 0 = .ok (.iload_n 1, 1) := by decide +kernel
theorem dX3_isCell_1 : decode cX3_isCell 1 = .ok (.iconst 0, 1) := by decide +kernel
theorem dX3_isCell_2 : decode cX3_isCell 2 = .ok (.aload_n 0, 1) := by decide +kernel
theorem dX3_isCell_3 : decode cX3_isCell 3 = .ok (.getfield 73, 3) := by decide +kernel
theorem dX3_isCell_6 : decode cX3_isCell 6 = .ok (.iconst 1, 1) := by decide +kernel
theorem dX3_isCell_7 : decode cX3_isCell 7 = .ok (.isub, 1) := by decide +kernel
theorem dX3_isCell_8 : decode cX3_isCell 8 = .ok (.invokestatic 76, 3) := by decide +kernel
theorem dX3_isCell_11 : decode cX3_isCell 11 = .ok (.ireturn, 1) := by decide +kernel
set_option maxRecDepth 20000 in
theorem ggX3_common_X3_common : GoodIn wsX3_common wsX3_common := goodIn_r _ [0, 1, 2, 3] (by decide +kernel) (by decide +kernel)
set_option maxRecDepth 20000 in
theorem gX3_common_X3_common : GoodIn wsX3_common (va_wsS RX3 80 yX3_common wsX3_common) := goodIn_app (goodIn_of _ (by decide +kernel)) ggX3_common_X3_common
theorem dX3_common_0 : decode cX3_common 0 = .ok (.lload_n 2, 1) := by decide +kernel
theorem dX3_common_1 : decode cX3_common 1 = .ok (.lconst 0, 1) := by decide +kernel
theorem dX3_common_2 : decode cX3_common 2 = .ok (.lcmp, 1) := by decide +kernel
theorem dX3_common_3 : decode cX3_common 3 = .ok (.ifCond .ne 7, 3) := by decide +kernel
theorem dX3_common_6 : decode cX3_common 6 = .ok (.lload_n 0, 1) := by decide +kernel
theorem dX3_common_7 : decode cX3_common 7 = .ok (.goto 10, 3) := by decide +kernel
theorem dX3_common_10 : decode cX3_common 10 = .ok (.lload_n 2, 1) := by decide +kernel
theorem dX3_common_11 : decode cX3_common 11 = .ok (.lload_n 0, 1) := by decide +kernel
theorem dX3_common_12 : decode cX3_common 12 = .ok (.lload_n 2, 1) := by decide +kernel
theorem dX3_common_13 : decode cX3_common 13 = .ok (.lrem, 1) := by decide +kernel
theorem dX3_common_14 : decode cX3_common 14 = .ok (.invokestatic 80, 3) := by decide +kernel
theorem dX3_common_17 : decode cX3_common 17 = .ok (.lreturn, 1) := by decide +kernel
set_option maxRecDepth 20000 in
theorem ggX3_make_X3_common : GoodIn wsX3_make wsX3_common := goodIn_r _ [10, 7, 8, 9] (by decide +kernel) (by decide +kernel)
set_option maxRecDepth 20000 in
theorem gX3_make_X3_common : GoodIn wsX3_make (va_wsS RX3 80 yX3_common wsX3_common) := goodIn_app (goodIn_of _ (by decide +kernel)) ggX3_make_X3_common
theorem dX3_make_0 : decode cX3_make 0 = .ok (.lload_n 1, 1) := by decide +kernel
theorem dX3_make_1 : decode cX3_make 1 = .ok (.invokestatic 84, 3) := by decide +kernel
theorem dX3_make_4 : decode cX3_make 4 = .ok (.lload_n 3, 1) := by decide +kernel
theorem dX3_make_5 : decode cX3_make 5 = .ok (.invokestatic 84, 3) := by decide +kernel
theorem dX3_make_8 : decode cX3_make 8 = .ok (.invokestatic 80, 3) := by decide +kernel
theorem dX3_make_11 : decode cX3_make 11 = .ok (.lstore 5, 2) := by decide +kernel
theorem dX3_make_13 : decode cX3_make 13 = .ok (.aload_n 0, 1) := by decide +kernel
theorem dX3_make_14 : decode cX3_make 14 = .ok (.lload_n 3, 1) := by decide +kernel
theorem dX3_make_15 : decode cX3_make 15 = .ok (.lconst 0, 1) := by decide +kernel
theorem dX3_make_16 : decode cX3_make 16 = .ok (.lcmp, 1) := by decide +kernel
theorem dX3_make_17 : decode cX3_make 17 = .ok (.ifCond .ge 11, 3) := by decide +kernel
theorem dX3_make_20 : decode cX3_make 20 = .ok (.lload_n 1, 1) := by decide +kernel
theorem dX3_make_21 : decode cX3_make 21 = .ok (.lneg, 1) := by decide +kernel
theorem dX3_make_22 : decode cX3_make 22 = .ok (.lload 5, 2) := by decide +kernel
theorem dX3_make_24 : decode cX3_make 24 = .ok (.ldiv, 1) := by decide +kernel
theorem dX3_make_25 : decode cX3_make 25 = .ok (.goto 7, 3) := by decide +kernel
theorem dX3_make_28 : decode cX3_make 28 = .ok (.lload_n 1, 1) := by decide +kernel
theorem dX3_make_29 : decode cX3_make 29 = .ok (.lload 5, 2) := by decide +kernel
theorem dX3_make_31 : decode cX3_make 31 = .ok (.ldiv, 1) := by decide +kernel
theorem dX3_make_32 : decode cX3_make 32 = .ok (.putfield 90, 3) := by decide +kernel
theorem dX3_make_35 : decode cX3_make 35 = .ok (.aload_n 0, 1) := by decide +kernel
theorem dX3_make_36 : decode cX3_make 36 = .ok (.lload_n 3, 1) := by decide +kernel
theorem dX3_make_37 : decode cX3_make 37 = .ok (.invokestatic 84, 3) := by decide +kernel
theorem dX3_make_40 : decode cX3_make 40 = .ok (.lload 5, 2) := by decide +kernel
theorem dX3_make_42 : decode cX3_make 42 = .ok (.ldiv, 1) := by decide +kernel
theorem dX3_make_43 : decode cX3_make 43 = .ok (.putfield 94, 3) := by decide +kernel
theorem dX3_make_46 : decode cX3_make 46 = .ok (.return_, 1) := by decide +kernel
theorem dX3_store_0 : decode cX3_store 0 = .ok (.aload_n 0, 1) := by decide +kernel
theorem dX3_store_1 : decode cX3_store 1 = .ok (.getfield 25, 3) := by decide +kernel
theorem dX3_store_4 : decode cX3_store 4 = .ok (.iload_n 1, 1) := by decide +kernel
theorem dX3_store_5 : decode cX3_store 5 = .ok (.aload_n 0, 1) := by decide +kernel
theorem dX3_store_6 : decode cX3_store 6 = .ok (.getfield 90, 3) := by decide +kernel
theorem dX3_store_9 : decode cX3_store 9 = .ok (.lastore, 1) := by decide +kernel
theorem dX3_store_10 : decode cX3_store 10 = .ok (.aload_n 0, 1) := by decide +kernel
theorem dX3_store_11 : decode cX3_store 11 = .ok (.getfield 25, 3) := by decide +kernel
theorem dX3_store_14 : decode cX3_store 14 = .ok (.iload_n 1, 1) := by decide +kernel
theorem dX3_store_15 : decode cX3_store 15 = .ok (.iconst 1, 1) := by decide +kernel
theorem dX3_store_16 : decode cX3_store 16 = .ok (.iadd, 1) := by decide +kernel
theorem dX3_store_17 : decode cX3_store 17 = .ok (.aload_n 0, 1) := by decide +kernel
theorem dX3_store_18 : decode cX3_store 18 = .ok (.getfield 94, 3) := by decide +kernel
theorem dX3_store_21 : decode cX3_store 21 = .ok (.lastore, 1) := by decide +kernel
theorem dX3_store_22 : decode cX3_store 22 = .ok (.return_, 1) := by decide +kernel
theorem dX3_resetAll_0 : decode cX3_resetAll 0 = .ok (.iconst 0, 1) := by decide +kernel
theorem dX3_resetAll_1 : decode cX3_resetAll 1 = .ok (.istore_n 1, 1) := by decide +kernel
theorem dX3_resetAll_2 : decode cX3_resetAll 2 = .ok (.iload_n 1, 1) := by decide +kernel
theorem dX3_resetAll_3 : decode cX3_resetAll 3 = .ok (.bipush 31, 2) := by decide +kernel
theorem dX3_resetAll_5 : decode cX3_resetAll 5 = .ok (.if_icmp .ge 16, 3) := by decide +kernel
theorem dX3_resetAll_8 : decode cX3_resetAll 8 = .ok (.aload_n 0, 1) := by decide +kernel
theorem dX3_resetAll_9 : decode cX3_resetAll 9 = .ok (.getfield 25, 3) := by decide +kernel
theorem dX3_resetAll_12 : decode cX3_resetAll 12 = .ok (.iload_n 1, 1) := by decide +kernel
theorem dX3_resetAll_13 : decode cX3_resetAll 13 = .ok (.lconst 0, 1) := by decide +kernel
theorem dX3_resetAll_14 : decode cX3_resetAll 14 = .ok (.lastore, 1) := by decide +kernel
theorem dX3_resetAll_15 : decode cX3_resetAll 15 = .ok (.iinc 1 1, 3) := by decide +kernel
theorem dX3_resetAll_18 : decode cX3_resetAll 18 = .ok (.goto (-16), 3) := by decide +kernel
theorem dX3_resetAll_21 : decode cX3_resetAll 21 = .ok (.aload_n 0, 1) := by decide +kernel
theorem dX3_resetAll_22 : decode cX3_resetAll 22 = .ok (.getfield 25, 3) := by decide +kernel
theorem dX3_resetAll_25 : decode cX3_resetAll 25 = .ok (.bipush 21, 2) := by decide +kernel
theorem dX3_resetAll_27 : decode cX3_resetAll 27 = .ok (.lconst 1, 1) := by decide +kernel
theorem dX3_resetAll_28 : decode cX3_resetAll 28 = .ok (.lastore, 1) := by decide +kernel
theorem dX3_resetAll_29 : decode cX3_resetAll 29 = .ok (.iconst 0, 1) := by decide +kernel
theorem dX3_resetAll_30 : decode cX3_resetAll 30 = .ok (.istore_n 1, 1) := by decide +kernel
theorem dX3_resetAll_31 : decode cX3_resetAll 31 = .ok (.iload_n 1, 1) := by decide +kernel
theorem dX3_resetAll_32 : decode cX3_resetAll 32 = .ok (.iconst 4, 1) := by decide +kernel
theorem dX3_resetAll_33 : decode cX3_resetAll 33 = .ok (.if_icmp .ge 49, 3) := by decide +kernel
theorem dX3_resetAll_36 : decode cX3_resetAll 36 = .ok (.aload_n 0, 1) := by decide +kernel
theorem dX3_resetAll_37 : decode cX3_resetAll 37 = .ok (.getfield 25, 3) := by decide +kernel
theorem dX3_resetAll_40 : decode cX3_resetAll 40 = .ok (.iconst 0, 1) := by decide +kernel
theorem dX3_resetAll_41 : decode cX3_resetAll 41 = .ok (.iconst 2, 1) := by decide +kernel
theorem dX3_resetAll_42 : decode cX3_resetAll 42 = .ok (.iload_n 1, 1) := by decide +kernel
theorem dX3_resetAll_43 : decode cX3_resetAll 43 = .ok (.imul, 1) := by decide +kernel
theorem dX3_resetAll_44 : decode cX3_resetAll 44 = .ok (.iadd, 1) := by decide +kernel
theorem dX3_resetAll_45 : decode cX3_resetAll 45 = .ok (.aload_n 0, 1) := by decide +kernel
theorem dX3_resetAll_46 : decode cX3_resetAll 46 = .ok (.getfield 9, 3) := by decide +kernel
theorem dX3_resetAll_49 : decode cX3_resetAll 49 = .ok (.iload_n 1, 1) := by decide +kernel
theorem dX3_resetAll_50 : decode cX3_resetAll 50 = .ok (.iaload, 1) := by decide +kernel
theorem dX3_resetAll_51 : decode cX3_resetAll 51 = .ok (.i2l, 1) := by decide +kernel
theorem dX3_resetAll_52 : decode cX3_resetAll 52 = .ok (.lastore, 1) := by decide +kernel
theorem dX3_resetAll_53 : decode cX3_resetAll 53 = .ok (.aload_n 0, 1) := by decide +kernel
theorem dX3_resetAll_54 : decode cX3_resetAll 54 = .ok (.getfield 25, 3) := by decide +kernel
theorem dX3_resetAll_57 : decode cX3_resetAll 57 = .ok (.iconst 0, 1) := by decide +kernel
theorem dX3_resetAll_58 : decode cX3_resetAll 58 = .ok (.iconst 2, 1) := by decide +kernel
theorem dX3_resetAll_59 : decode cX3_resetAll 59 = .ok (.iload_n 1, 1) := by decide +kernel
theorem dX3_resetAll_60 : decode cX3_resetAll 60 = .ok (.imul, 1) := by decide +kernel
theorem dX3_resetAll_61 : decode cX3_resetAll 61 = .ok (.iadd, 1) := by decide +kernel
theorem dX3_resetAll_62 : decode cX3_resetAll 62 = .ok (.iconst 1, 1) := by decide +kernel
theorem dX3_resetAll_63 : decode cX3_resetAll 63 = .ok (.iadd, 1) := by decide +kernel
theorem dX3_resetAll_64 : decode cX3_resetAll 64 = .ok (.lconst 1, 1) := by decide +kernel
theorem dX3_resetAll_65 : decode cX3_resetAll 65 = .ok (.lastore, 1) := by decide +kernel
theorem dX3_resetAll_66 : decode cX3_resetAll 66 = .ok (.aload_n 0, 1) := by decide +kernel
theorem dX3_resetAll_67 : decode cX3_resetAll 67 = .ok (.getfield 25, 3) := by decide +kernel
theorem dX3_resetAll_70 : decode cX3_resetAll 70 = .ok (.bipush 8, 2) := by decide +kernel
theorem dX3_resetAll_72 : decode cX3_resetAll 72 = .ok (.iload_n 1, 1) := by decide +kernel
theorem dX3_resetAll_73 : decode cX3_resetAll 73 = .ok (.iadd, 1) := by decide +kernel
theorem dX3_resetAll_74 : decode cX3_resetAll 74 = .ok (.lconst 1, 1) := by decide +kernel
theorem dX3_resetAll_75 : decode cX3_resetAll 75 = .ok (.lastore, 1) := by decide +kernel
theorem dX3_resetAll_76 : decode cX3_resetAll 76 = .ok (.iinc 1 1, 3) := by decide +kernel
theorem dX3_resetAll_79 : decode cX3_resetAll 79 = .ok (.goto (-48), 3) := by decide +kernel
theorem dX3_resetAll_82 : decode cX3_resetAll 82 = .ok (.return_, 1) := by decide +kernel
set_option maxRecDepth 20000 in
theorem ggX3_cell_X3_in : GoodIn wsX3_cell wsX3_in := goodIn_r _ [10] (by decide +kernel) (by decide +kernel)
set_option maxRecDepth 20000 in
theorem gX3_cell_X3_in : GoodIn wsX3_cell (va_wsS RX3 76 yX3_in wsX3_in) := goodIn_app (goodIn_of _ (by decide +kernel)) ggX3_cell_X3_in
set_option maxRecDepth 20000 in
theorem ggX3_cell_X3_resetAll : GoodIn wsX3_cell wsX3_resetAll := goodIn_r _ [14, 15, 3, 16, 17, 18, 19, 20, 21, 22, 23, 24, 25, 26, 27, 28, 29, 30, 31, 32, 33, 34, 35, 36, 37, 38, 39, 40, 41, 42, 43] (by decide +kernel) (by decide +kernel)
set_option maxRecDepth 20000 in
theorem gX3_cell_X3_resetAll : GoodIn wsX3_cell (wsV RX3 66 RX3 yX3_resetAll wsX3_resetAll) := goodIn_app (goodIn_of _ (by decide +kernel)) ggX3_cell_X3_resetAll
theorem dX3_cell_0 : decode cX3_cell 0 = .ok (.aload_n 0, 1) := by decide +kernel
theorem dX3_cell_1 : decode cX3_cell 1 = .ok (.iconst 0, 1) := by decide +kernel
theorem dX3_cell_2 : decode cX3_cell 2 = .ok (.putfield 69, 3) := by decide +kernel
theorem dX3_cell_5 : decode cX3_cell 5 = .ok (.iload_n 1, 1) := by decide +kernel
theorem dX3_cell_6 : decode cX3_cell 6 = .ok (.bipush (-50), 2) := by decide +kernel
theorem dX3_cell_8 : decode cX3_cell 8 = .ok (.bipush 50, 2) := by decide +kernel
theorem dX3_cell_10 : decode cX3_cell 10 = .ok (.invokestatic 76, 3) := by decide +kernel
theorem dX3_cell_13 : decode cX3_cell 13 = .ok (.ifCond .eq 48, 3) := by decide +kernel
theorem dX3_cell_16 : decode cX3_cell 16 = .ok (.iload_n 2, 1) := by decide +kernel
theorem dX3_cell_17 : decode cX3_cell 17 = .ok (.bipush (-50), 2) := by decide +kernel
theorem dX3_cell_19 : decode cX3_cell 19 = .ok (.bipush 50, 2) := by decide +kernel
theorem dX3_cell_21 : decode cX3_cell 21 = .ok (.invokestatic 76, 3) := by decide +kernel
theorem dX3_cell_24 : decode cX3_cell 24 = .ok (.ifCond .eq 37, 3) := by decide +kernel
theorem dX3_cell_27 : decode cX3_cell 27 = .ok (.iload_n 1, 1) := by decide +kernel
theorem dX3_cell_28 : decode cX3_cell 28 = .ok (.iload_n 2, 1) := by decide +kernel
theorem dX3_cell_29 : decode cX3_cell 29 = .ok (.if_icmp .ge 32, 3) := by decide +kernel
theorem dX3_cell_32 : decode cX3_cell 32 = .ok (.iload_n 3, 1) := by decide +kernel
theorem dX3_cell_33 : decode cX3_cell 33 = .ok (.iconst 1, 1) := by decide +kernel
theorem dX3_cell_34 : decode cX3_cell 34 = .ok (.bipush 60, 2) := by decide +kernel
theorem dX3_cell_36 : decode cX3_cell 36 = .ok (.invokestatic 76, 3) := by decide +kernel
theorem dX3_cell_39 : decode cX3_cell 39 = .ok (.ifCond .eq 22, 3) := by decide +kernel
theorem dX3_cell_42 : decode cX3_cell 42 = .ok (.iload 4, 2) := by decide +kernel
theorem dX3_cell_44 : decode cX3_cell 44 = .ok (.iconst 1, 1) := by decide +kernel
theorem dX3_cell_45 : decode cX3_cell 45 = .ok (.bipush 60, 2) := by decide +kernel
theorem dX3_cell_47 : decode cX3_cell 47 = .ok (.invokestatic 76, 3) := by decide +kernel
theorem dX3_cell_50 : decode cX3_cell 50 = .ok (.ifCond .eq 11, 3) := by decide +kernel
theorem dX3_cell_53 : decode cX3_cell 53 = .ok (.aload_n 0, 1) := by decide +kernel
theorem dX3_cell_54 : decode cX3_cell 54 = .ok (.getfield 73, 3) := by decide +kernel
theorem dX3_cell_57 : decode cX3_cell 57 = .ok (.iconst 4, 1) := by decide +kernel
theorem dX3_cell_58 : decode cX3_cell 58 = .ok (.if_icmp .ne 5, 3) := by decide +kernel
theorem dX3_cell_61 : decode cX3_cell 61 = .ok (.iconst (-1), 1) := by decide +kernel
theorem dX3_cell_62 : decode cX3_cell 62 = .ok (.ireturn, 1) := by decide +kernel
theorem dX3_cell_63 : decode cX3_cell 63 = .ok (.aload_n 0, 1) := by decide +kernel
theorem dX3_cell_64 : decode cX3_cell 64 = .ok (.getfield 9, 3) := by decide +kernel
theorem dX3_cell_67 : decode cX3_cell 67 = .ok (.aload_n 0, 1) := by decide +kernel
theorem dX3_cell_68 : decode cX3_cell 68 = .ok (.getfield 73, 3) := by decide +kernel
theorem dX3_cell_71 : decode cX3_cell 71 = .ok (.iload_n 1, 1) := by decide +kernel
theorem dX3_cell_72 : decode cX3_cell 72 = .ok (.iastore, 1) := by decide +kernel
theorem dX3_cell_73 : decode cX3_cell 73 = .ok (.aload_n 0, 1) := by decide +kernel
theorem dX3_cell_74 : decode cX3_cell 74 = .ok (.getfield 13, 3) := by decide +kernel
theorem dX3_cell_77 : decode cX3_cell 77 = .ok (.aload_n 0, 1) := by decide +kernel
theorem dX3_cell_78 : decode cX3_cell 78 = .ok (.getfield 73, 3) := by decide +kernel
theorem dX3_cell_81 : decode cX3_cell 81 = .ok (.iload_n 2, 1) := by decide +kernel
theorem dX3_cell_82 : decode cX3_cell 82 = .ok (.iastore, 1) := by decide +kernel
theorem dX3_cell_83 : decode cX3_cell 83 = .ok (.aload_n 0, 1) := by decide +kernel
theorem dX3_cell_84 : decode cX3_cell 84 = .ok (.getfield 16, 3) := by decide +kernel
theorem dX3_cell_87 : decode cX3_cell 87 = .ok (.aload_n 0, 1) := by decide +kernel
theorem dX3_cell_88 : decode cX3_cell 88 = .ok (.getfield 73, 3) := by decide +kernel
theorem dX3_cell_91 : decode cX3_cell 91 = .ok (.iload_n 3, 1) := by decide +kernel
theorem dX3_cell_92 : decode cX3_cell 92 = .ok (.iastore, 1) := by decide +kernel
theorem dX3_cell_93 : decode cX3_cell 93 = .ok (.aload_n 0, 1) := by decide +kernel
theorem dX3_cell_94 : decode cX3_cell 94 = .ok (.getfield 19, 3) := by decide +kernel
theorem dX3_cell_97 : decode cX3_cell 97 = .ok (.aload_n 0, 1) := by decide +kernel
theorem dX3_cell_98 : decode cX3_cell 98 = .ok (.getfield 73, 3) := by decide +kernel
theorem dX3_cell_101 : decode cX3_cell 101 = .ok (.iload 4, 2) := by decide +kernel
theorem dX3_cell_103 : decode cX3_cell 103 = .ok (.iastore, 1) := by decide +kernel
theorem dX3_cell_104 : decode cX3_cell 104 = .ok (.aload_n 0, 1) := by decide +kernel
theorem dX3_cell_105 : decode cX3_cell 105 = .ok (.dup, 1) := by decide +kernel
theorem dX3_cell_106 : decode cX3_cell 106 = .ok (.getfield 73, 3) := by decide +kernel
theorem dX3_cell_109 : decode cX3_cell 109 = .ok (.iconst 1, 1) := by decide +kernel
theorem dX3_cell_110 : decode cX3_cell 110 = .ok (.iadd, 1) := by decide +kernel
theorem dX3_cell_111 : decode cX3_cell 111 = .ok (.putfield 73, 3) := by decide +kernel
theorem dX3_cell_114 : decode cX3_cell 114 = .ok (.aload_n 0, 1) := by decide +kernel
theorem dX3_cell_115 : decode cX3_cell 115 = .ok (.invokevirtual 66, 3) := by decide +kernel
theorem dX3_cell_118 : decode cX3_cell 118 = .ok (.aload_n 0, 1) := by decide +kernel
theorem dX3_cell_119 : decode cX3_cell 119 = .ok (.getfield 73, 3) := by decide +kernel
theorem dX3_cell_122 : decode cX3_cell 122 = .ok (.iconst 1, 1) := by decide +kernel
theorem dX3_cell_123 : decode cX3_cell 123 = .ok (.isub, 1) := by decide +kernel
theorem dX3_cell_124 : decode cX3_cell 124 = .ok (.ireturn, 1) := by decide +kernel
set_option maxRecDepth 20000 in
theorem ggX3_link_X3_isCell : GoodIn wsX3_link wsX3_isCell := goodIn_r _ [9, 10, 11, 12, 8, 13, 20, 21, 22, 23, 24, 25, 26, 27, 28, 29, 30, 31, 32, 33, 34, 35, 36, 37, 38, 39, 40, 41, 42, 43, 44, 45, 46, 47] (by decide +kernel) (by decide +kernel)
set_option maxRecDepth 20000 in
theorem gX3_link_X3_isCell : GoodIn wsX3_link (wsV RX3 97 RX3 yX3_isCell wsX3_isCell) := goodIn_app (goodIn_of _ (by decide +kernel)) ggX3_link_X3_isCell
set_option maxRecDepth 20000 in
theorem ggX3_link_X3_in : GoodIn wsX3_link wsX3_in := goodIn_r _ [13] (by decide +kernel) (by decide +kernel)
set_option maxRecDepth 20000 in
theorem gX3_link_X3_in : GoodIn wsX3_link (va_wsS RX3 76 yX3_in wsX3_in) := goodIn_app (goodIn_of _ (by decide +kernel)) ggX3_link_X3_in
end
section
set_option maxRecDepth 20000 in
theorem ggX3_link_X3_resetAll : GoodIn wsX3_link wsX3_resetAll := goodIn_r _ [17, 18, 19, 20, 21, 22, 23, 24, 25, 26, 27, 28, 29, 30, 31, 32, 33, 34, 35, 36, 37, 38, 39, 40, 41, 42, 43, 44, 45, 46, 47] (by decide +kernel) (by decide +kernel)
set_option maxRecDepth 20000 in
theorem gX3_link_X3_resetAll : GoodIn wsX3_link (wsV RX3 66 RX3 yX3_resetAll wsX3_resetAll) := goodIn_app (goodIn_of _ (by decide +kernel)) ggX3_link_X3_resetAll
theorem dX3_link_0 : decode cX3_link 0 = .ok (.aload_n 0, 1) := by decide +kernel
theorem dX3_link_1 : decode cX3_link 1 = .ok (.iconst 0, 1) := by decide +kernel
theorem dX3_link_2 : decode cX3_link 2 = .ok (.putfield 69, 3) := by decide +kernel
theorem dX3_link_5 : decode cX3_link 5 = .ok (.aload_n 0, 1) := by decide +kernel
theorem dX3_link_6 : decode cX3_link 6 = .ok (.iload_n 1, 1) := by decide +kernel
theorem dX3_link_7 : decode cX3_link 7 = .ok (.invokevirtual 97, 3) := by decide +kernel
theorem dX3_link_10 : decode cX3_link 10 = .ok (.ifCond .eq 50, 3) := by decide +kernel
theorem dX3_link_13 : decode cX3_link 13 = .ok (.iload_n 2, 1) := by decide +kernel
theorem dX3_link_14 : decode cX3_link 14 = .ok (.iconst 0, 1) := by decide +kernel
theorem dX3_link_15 : decode cX3_link 15 = .ok (.iconst 1, 1) := by decide +kernel
theorem dX3_link_16 : decode cX3_link 16 = .ok (.invokestatic 76, 3) := by decide +kernel
theorem dX3_link_19 : decode cX3_link 19 = .ok (.ifCond .eq 41, 3) := by decide +kernel
theorem dX3_link_22 : decode cX3_link 22 = .ok (.iload_n 3, 1) := by decide +kernel
theorem dX3_link_23 : decode cX3_link 23 = .ok (.iconst 1, 1) := by decide +kernel
theorem dX3_link_24 : decode cX3_link 24 = .ok (.bipush 9, 2) := by decide +kernel
theorem dX3_link_26 : decode cX3_link 26 = .ok (.invokestatic 76, 3) := by decide +kernel
theorem dX3_link_29 : decode cX3_link 29 = .ok (.ifCond .eq 31, 3) := by decide +kernel
theorem dX3_link_32 : decode cX3_link 32 = .ok (.aload_n 0, 1) := by decide +kernel
theorem dX3_link_33 : decode cX3_link 33 = .ok (.iload 4, 2) := by decide +kernel
theorem dX3_link_35 : decode cX3_link 35 = .ok (.invokevirtual 97, 3) := by decide +kernel
theorem dX3_link_38 : decode cX3_link 38 = .ok (.ifCond .eq 22, 3) := by decide +kernel
theorem dX3_link_41 : decode cX3_link 41 = .ok (.iload 5, 2) := by decide +kernel
theorem dX3_link_43 : decode cX3_link 43 = .ok (.iconst 0, 1) := by decide +kernel
theorem dX3_link_44 : decode cX3_link 44 = .ok (.iconst 2, 1) := by decide +kernel
theorem dX3_link_45 : decode cX3_link 45 = .ok (.invokestatic 76, 3) := by decide +kernel
theorem dX3_link_48 : decode cX3_link 48 = .ok (.ifCond .eq 12, 3) := by decide +kernel
theorem dX3_link_51 : decode cX3_link 51 = .ok (.aload_n 0, 1) := by decide +kernel
theorem dX3_link_52 : decode cX3_link 52 = .ok (.getfield 101, 3) := by decide +kernel
theorem dX3_link_55 : decode cX3_link 55 = .ok (.bipush 8, 2) := by decide +kernel
theorem dX3_link_57 : decode cX3_link 57 = .ok (.if_icmp .ne 5, 3) := by decide +kernel
theorem dX3_link_60 : decode cX3_link 60 = .ok (.iconst (-1), 1) := by decide +kernel
theorem dX3_link_61 : decode cX3_link 61 = .ok (.ireturn, 1) := by decide +kernel
theorem dX3_link_62 : decode cX3_link 62 = .ok (.iload 5, 2) := by decide +kernel
theorem dX3_link_64 : decode cX3_link 64 = .ok (.ifCond .ne 15, 3) := by decide +kernel
theorem dX3_link_67 : decode cX3_link 67 = .ok (.iload 6, 2) := by decide +kernel
theorem dX3_link_69 : decode cX3_link 69 = .ok (.bipush (-20), 2) := by decide +kernel
theorem dX3_link_71 : decode cX3_link 71 = .ok (.bipush 20, 2) := by decide +kernel
theorem dX3_link_73 : decode cX3_link 73 = .ok (.invokestatic 76, 3) := by decide +kernel
theorem dX3_link_76 : decode cX3_link 76 = .ok (.ifCond .eq 19, 3) := by decide +kernel
theorem dX3_link_79 : decode cX3_link 79 = .ok (.iload 5, 2) := by decide +kernel
theorem dX3_link_81 : decode cX3_link 81 = .ok (.iconst 2, 1) := by decide +kernel
theorem dX3_link_82 : decode cX3_link 82 = .ok (.if_icmp .ne 15, 3) := by decide +kernel
theorem dX3_link_85 : decode cX3_link 85 = .ok (.iload 6, 2) := by decide +kernel
theorem dX3_link_87 : decode cX3_link 87 = .ok (.iconst 0, 1) := by decide +kernel
theorem dX3_link_88 : decode cX3_link 88 = .ok (.iconst 1, 1) := by decide +kernel
theorem dX3_link_89 : decode cX3_link 89 = .ok (.invokestatic 76, 3) := by decide +kernel
theorem dX3_link_92 : decode cX3_link 92 = .ok (.ifCond .ne 5, 3) := by decide +kernel
theorem dX3_link_95 : decode cX3_link 95 = .ok (.iconst (-1), 1) := by decide +kernel
theorem dX3_link_96 : decode cX3_link 96 = .ok (.ireturn, 1) := by decide +kernel
theorem dX3_link_97 : decode cX3_link 97 = .ok (.bipush 6, 2) := by decide +kernel
theorem dX3_link_99 : decode cX3_link 99 = .ok (.newarray .int, 2) := by decide +kernel
theorem dX3_link_101 : decode cX3_link 101 = .ok (.dup, 1) := by decide +kernel
theorem dX3_link_102 : decode cX3_link 102 = .ok (.iconst 0, 1) := by decide +kernel
theorem dX3_link_103 : decode cX3_link 103 = .ok (.iload_n 1, 1) := by decide +kernel
theorem dX3_link_104 : decode cX3_link 104 = .ok (.iastore, 1) := by decide +kernel
theorem dX3_link_105 : decode cX3_link 105 = .ok (.dup, 1) := by decide +kernel
theorem dX3_link_106 : decode cX3_link 106 = .ok (.iconst 1, 1) := by decide +kernel
theorem dX3_link_107 : decode cX3_link 107 = .ok (.iload_n 2, 1) := by decide +kernel
theorem dX3_link_108 : decode cX3_link 108 = .ok (.iastore, 1) := by decide +kernel
theorem dX3_link_109 : decode cX3_link 109 = .ok (.dup, 1) := by decide +kernel
theorem dX3_link_110 : decode cX3_link 110 = .ok (.iconst 2, 1) := by decide +kernel
theorem dX3_link_111 : decode cX3_link 111 = .ok (.iload_n 3, 1) := by decide +kernel
theorem dX3_link_112 : decode cX3_link 112 = .ok (.iastore, 1) := by decide +kernel
theorem dX3_link_113 : decode cX3_link 113 = .ok (.dup, 1) := by decide +kernel
theorem dX3_link_114 : decode cX3_link 114 = .ok (.iconst 3, 1) := by decide +kernel
theorem dX3_link_115 : decode cX3_link 115 = .ok (.iload 4, 2) := by decide +kernel
theorem dX3_link_117 : decode cX3_link 117 = .ok (.iastore, 1) := by decide +kernel
theorem dX3_link_118 : decode cX3_link 118 = .ok (.dup, 1) := by decide +kernel
theorem dX3_link_119 : decode cX3_link 119 = .ok (.iconst 4, 1) := by decide +kernel
theorem dX3_link_120 : decode cX3_link 120 = .ok (.iload 5, 2) := by decide +kernel
theorem dX3_link_122 : decode cX3_link 122 = .ok (.iastore, 1) := by decide +kernel
theorem dX3_link_123 : decode cX3_link 123 = .ok (.dup, 1) := by decide +kernel
theorem dX3_link_124 : decode cX3_link 124 = .ok (.iconst 5, 1) := by decide +kernel
theorem dX3_link_125 : decode cX3_link 125 = .ok (.iload 6, 2) := by decide +kernel
theorem dX3_link_127 : decode cX3_link 127 = .ok (.iastore, 1) := by decide +kernel
theorem dX3_link_128 : decode cX3_link 128 = .ok (.astore 7, 2) := by decide +kernel
theorem dX3_link_130 : decode cX3_link 130 = .ok (.iconst 0, 1) := by decide +kernel
theorem dX3_link_131 : decode cX3_link 131 = .ok (.istore 8, 2) := by decide +kernel
theorem dX3_link_133 : decode cX3_link 133 = .ok (.iload 8, 2) := by decide +kernel
theorem dX3_link_135 : decode cX3_link 135 = .ok (.bipush 6, 2) := by decide +kernel
theorem dX3_link_137 : decode cX3_link 137 = .ok (.if_icmp .ge 29, 3) := by decide +kernel
theorem dX3_link_140 : decode cX3_link 140 = .ok (.aload_n 0, 1) := by decide +kernel
theorem dX3_link_141 : decode cX3_link 141 = .ok (.getfield 22, 3) := by decide +kernel
theorem dX3_link_144 : decode cX3_link 144 = .ok (.bipush 6, 2) := by decide +kernel
theorem dX3_link_146 : decode cX3_link 146 = .ok (.aload_n 0, 1) := by decide +kernel
theorem dX3_link_147 : decode cX3_link 147 = .ok (.getfield 101, 3) := by decide +kernel
theorem dX3_link_150 : decode cX3_link 150 = .ok (.imul, 1) := by decide +kernel
theorem dX3_link_151 : decode cX3_link 151 = .ok (.iload 8, 2) := by decide +kernel
theorem dX3_link_153 : decode cX3_link 153 = .ok (.iadd, 1) := by decide +kernel
theorem dX3_link_154 : decode cX3_link 154 = .ok (.aload 7, 2) := by decide +kernel
theorem dX3_link_156 : decode cX3_link 156 = .ok (.iload 8, 2) := by decide +kernel
theorem dX3_link_158 : decode cX3_link 158 = .ok (.iaload, 1) := by decide +kernel
theorem dX3_link_159 : decode cX3_link 159 = .ok (.iastore, 1) := by decide +kernel
theorem dX3_link_160 : decode cX3_link 160 = .ok (.iinc 8 1, 3) := by decide +kernel
theorem dX3_link_163 : decode cX3_link 163 = .ok (.goto (-30), 3) := by decide +kernel
theorem dX3_link_166 : decode cX3_link 166 = .ok (.aload_n 0, 1) := by decide +kernel
theorem dX3_link_167 : decode cX3_link 167 = .ok (.dup, 1) := by decide +kernel
theorem dX3_link_168 : decode cX3_link 168 = .ok (.getfield 101, 3) := by decide +kernel
theorem dX3_link_171 : decode cX3_link 171 = .ok (.iconst 1, 1) := by decide +kernel
theorem dX3_link_172 : decode cX3_link 172 = .ok (.iadd, 1) := by decide +kernel
theorem dX3_link_173 : decode cX3_link 173 = .ok (.putfield 101, 3) := by decide +kernel
theorem dX3_link_176 : decode cX3_link 176 = .ok (.aload_n 0, 1) := by decide +kernel
theorem dX3_link_177 : decode cX3_link 177 = .ok (.invokevirtual 66, 3) := by decide +kernel
theorem dX3_link_180 : decode cX3_link 180 = .ok (.aload_n 0, 1) := by decide +kernel
theorem dX3_link_181 : decode cX3_link 181 = .ok (.getfield 101, 3) := by decide +kernel
theorem dX3_link_184 : decode cX3_link 184 = .ok (.iconst 1, 1) := by decide +kernel
theorem dX3_link_185 : decode cX3_link 185 = .ok (.isub, 1) := by decide +kernel
theorem dX3_link_186 : decode cX3_link 186 = .ok (.ireturn, 1) := by decide +kernel
set_option maxRecDepth 20000 in
theorem ggX3_clear_X3_resetAll : GoodIn wsX3_clear wsX3_resetAll := goodIn_r _ [8, 9, 10, 11, 12, 13, 14, 15, 16, 17, 18, 19, 20, 21, 22, 23, 24, 25, 26, 27, 28, 29, 30, 31, 32, 33, 34, 35, 36, 37, 38] (by decide +kernel) (by decide +kernel)
set_option maxRecDepth 20000 in
theorem gX3_clear_X3_resetAll : GoodIn wsX3_clear (wsV RX3 66 RX3 yX3_resetAll wsX3_resetAll) := goodIn_app (goodIn_of _ (by decide +kernel)) ggX3_clear_X3_resetAll
theorem dX3_clear_0 : decode cX3_clear 0 = .ok (.aload_n 0, 1) := by decide +kernel
theorem dX3_clear_1 : decode cX3_clear 1 = .ok (.iconst 0, 1) := by decide +kernel
theorem dX3_clear_2 : decode cX3_clear 2 = .ok (.putfield 69, 3) := by decide +kernel
theorem dX3_clear_5 : decode cX3_clear 5 = .ok (.aload_n 0, 1) := by decide +kernel
theorem dX3_clear_6 : decode cX3_clear 6 = .ok (.getfield 73, 3) := by decide +kernel
theorem dX3_clear_9 : decode cX3_clear 9 = .ok (.istore_n 1, 1) := by decide +kernel
theorem dX3_clear_10 : decode cX3_clear 10 = .ok (.aload_n 0, 1) := by decide +kernel
theorem dX3_clear_11 : decode cX3_clear 11 = .ok (.iconst 0, 1) := by decide +kernel
theorem dX3_clear_12 : decode cX3_clear 12 = .ok (.putfield 73, 3) := by decide +kernel
theorem dX3_clear_15 : decode cX3_clear 15 = .ok (.aload_n 0, 1) := by decide +kernel
theorem dX3_clear_16 : decode cX3_clear 16 = .ok (.iconst 0, 1) := by decide +kernel
theorem dX3_clear_17 : decode cX3_clear 17 = .ok (.putfield 101, 3) := by decide +kernel
theorem dX3_clear_20 : decode cX3_clear 20 = .ok (.aload_n 0, 1) := by decide +kernel
theorem dX3_clear_21 : decode cX3_clear 21 = .ok (.invokevirtual 66, 3) := by decide +kernel
theorem dX3_clear_24 : decode cX3_clear 24 = .ok (.iload_n 1, 1) := by decide +kernel
theorem dX3_clear_25 : decode cX3_clear 25 = .ok (.ireturn, 1) := by decide +kernel
set_option maxRecDepth 20000 in
theorem ggX3_reset_X3_resetAll : GoodIn wsX3_reset wsX3_resetAll := goodIn_r _ [7, 2, 8, 9, 10, 11, 12, 13, 14, 15, 16, 17, 18, 19, 20, 21, 22, 23, 24, 25, 26, 27, 28, 29, 30, 31, 32, 33, 34, 35, 36] (by decide +kernel) (by decide +kernel)
set_option maxRecDepth 20000 in
theorem gX3_reset_X3_resetAll : GoodIn wsX3_reset (wsV RX3 66 RX3 yX3_resetAll wsX3_resetAll) := goodIn_app (goodIn_of _ (by decide +kernel)) ggX3_reset_X3_resetAll
theorem dX3_reset_0 : decode cX3_reset 0 = .ok (.aload_n 0, 1) := by decide +kernel
theorem dX3_reset_1 : decode cX3_reset 1 = .ok (.iconst 0, 1) := by decide +kernel
theorem dX3_reset_2 : decode cX3_reset 2 = .ok (.putfield 69, 3) := by decide +kernel
theorem dX3_reset_5 : decode cX3_reset 5 = .ok (.aload_n 0, 1) := by decide +kernel
theorem dX3_reset_6 : decode cX3_reset 6 = .ok (.getfield 25, 3) := by decide +kernel
theorem dX3_reset_9 : decode cX3_reset 9 = .ok (.bipush 30, 2) := by decide +kernel
theorem dX3_reset_11 : decode cX3_reset 11 = .ok (.laload, 1) := by decide +kernel
theorem dX3_reset_12 : decode cX3_reset 12 = .ok (.l2i, 1) := by decide +kernel
theorem dX3_reset_13 : decode cX3_reset 13 = .ok (.istore_n 1, 1) := by decide +kernel
theorem dX3_reset_14 : decode cX3_reset 14 = .ok (.aload_n 0, 1) := by decide +kernel
theorem dX3_reset_15 : decode cX3_reset 15 = .ok (.invokevirtual 66, 3) := by decide +kernel
theorem dX3_reset_18 : decode cX3_reset 18 = .ok (.iload_n 1, 1) := by decide +kernel
theorem dX3_reset_19 : decode cX3_reset 19 = .ok (.ireturn, 1) := by decide +kernel
set_option maxRecDepth 20000 in
theorem ggX3_set_X3_isCell : GoodIn wsX3_set wsX3_isCell := goodIn_r _ [8, 9, 10, 11, 7, 12, 19, 20, 21, 22, 23, 24, 25, 26, 27, 28, 29, 30, 31, 32, 33, 34, 35, 36, 37, 38, 39, 40, 41, 42, 43, 44, 45, 46] (by decide +kernel) (by decide +kernel)
set_option maxRecDepth 20000 in
theorem gX3_set_X3_isCell : GoodIn wsX3_set (wsV RX3 97 RX3 yX3_isCell wsX3_isCell) := goodIn_app (goodIn_of _ (by decide +kernel)) ggX3_set_X3_isCell
set_option maxRecDepth 20000 in
theorem ggX3_set_X3_in : GoodIn wsX3_set wsX3_in := goodIn_r _ [12] (by decide +kernel) (by decide +kernel)
set_option maxRecDepth 20000 in
theorem gX3_set_X3_in : GoodIn wsX3_set (va_wsS RX3 76 yX3_in wsX3_in) := goodIn_app (goodIn_of _ (by decide +kernel)) ggX3_set_X3_in
set_option maxRecDepth 20000 in
theorem ggX3_set_X3_resetAll : GoodIn wsX3_set wsX3_resetAll := goodIn_r _ [16, 17, 18, 19, 20, 21, 22, 23, 24, 25, 26, 27, 28, 29, 30, 31, 32, 33, 34, 35, 36, 37, 38, 39, 40, 41, 42, 43, 44, 45, 46] (by decide +kernel) (by decide +kernel)
set_option maxRecDepth 20000 in
theorem gX3_set_X3_resetAll : GoodIn wsX3_set (wsV RX3 66 RX3 yX3_resetAll wsX3_resetAll) := goodIn_app (goodIn_of _ (by decide +kernel)) ggX3_set_X3_resetAll
theorem dX3_set_0 : decode cX3_set 0 = .ok (.aload_n 0, 1) := by decide +kernel
theorem dX3_set_1 : decode cX3_set 1 = .ok (.iconst 0, 1) := by decide +kernel
theorem dX3_set_2 : decode cX3_set 2 = .ok (.putfield 69, 3) := by decide +kernel
theorem dX3_set_5 : decode cX3_set 5 = .ok (.aload_n 0, 1) := by decide +kernel
theorem dX3_set_6 : decode cX3_set 6 = .ok (.iload_n 1, 1) := by decide +kernel
theorem dX3_set_7 : decode cX3_set 7 = .ok (.invokevirtual 97, 3) := by decide +kernel
theorem dX3_set_10 : decode cX3_set 10 = .ok (.ifCond .eq 22, 3) := by decide +kernel
theorem dX3_set_13 : decode cX3_set 13 = .ok (.iload_n 2, 1) := by decide +kernel
theorem dX3_set_14 : decode cX3_set 14 = .ok (.iconst 0, 1) := by decide +kernel
theorem dX3_set_15 : decode cX3_set 15 = .ok (.iconst 1, 1) := by decide +kernel
theorem dX3_set_16 : decode cX3_set 16 = .ok (.invokestatic 76, 3) := by decide +kernel
theorem dX3_set_19 : decode cX3_set 19 = .ok (.ifCond .eq 13, 3) := by decide +kernel
theorem dX3_set_22 : decode cX3_set 22 = .ok (.iload_n 3, 1) := by decide +kernel
theorem dX3_set_23 : decode cX3_set 23 = .ok (.iconst 1, 1) := by decide +kernel
theorem dX3_set_24 : decode cX3_set 24 = .ok (.bipush 60, 2) := by decide +kernel
theorem dX3_set_26 : decode cX3_set 26 = .ok (.invokestatic 76, 3) := by decide +kernel
theorem dX3_set_29 : decode cX3_set 29 = .ok (.ifCond .ne 5, 3) := by decide +kernel
theorem dX3_set_32 : decode cX3_set 32 = .ok (.iconst (-1), 1) := by decide +kernel
theorem dX3_set_33 : decode cX3_set 33 = .ok (.ireturn, 1) := by decide +kernel
theorem dX3_set_34 : decode cX3_set 34 = .ok (.iload_n 2, 1) := by decide +kernel
theorem dX3_set_35 : decode cX3_set 35 = .ok (.ifCond .ne 12, 3) := by decide +kernel
theorem dX3_set_38 : decode cX3_set 38 = .ok (.aload_n 0, 1) := by decide +kernel
theorem dX3_set_39 : decode cX3_set 39 = .ok (.getfield 16, 3) := by decide +kernel
theorem dX3_set_42 : decode cX3_set 42 = .ok (.iload_n 1, 1) := by decide +kernel
theorem dX3_set_43 : decode cX3_set 43 = .ok (.iaload, 1) := by decide +kernel
theorem dX3_set_44 : decode cX3_set 44 = .ok (.goto 9, 3) := by decide +kernel
theorem dX3_set_47 : decode cX3_set 47 = .ok (.aload_n 0, 1) := by decide +kernel
theorem dX3_set_48 : decode cX3_set 48 = .ok (.getfield 19, 3) := by decide +kernel
theorem dX3_set_51 : decode cX3_set 51 = .ok (.iload_n 1, 1) := by decide +kernel
theorem dX3_set_52 : decode cX3_set 52 = .ok (.iaload, 1) := by decide +kernel
theorem dX3_set_53 : decode cX3_set 53 = .ok (.istore 4, 2) := by decide +kernel
theorem dX3_set_55 : decode cX3_set 55 = .ok (.iload_n 2, 1) := by decide +kernel
theorem dX3_set_56 : decode cX3_set 56 = .ok (.ifCond .ne 13, 3) := by decide +kernel
theorem dX3_set_59 : decode cX3_set 59 = .ok (.aload_n 0, 1) := by decide +kernel
theorem dX3_set_60 : decode cX3_set 60 = .ok (.getfield 16, 3) := by decide +kernel
theorem dX3_set_63 : decode cX3_set 63 = .ok (.iload_n 1, 1) := by decide +kernel
theorem dX3_set_64 : decode cX3_set 64 = .ok (.iload_n 3, 1) := by decide +kernel
theorem dX3_set_65 : decode cX3_set 65 = .ok (.iastore, 1) := by decide +kernel
theorem dX3_set_66 : decode cX3_set 66 = .ok (.goto 10, 3) := by decide +kernel
theorem dX3_set_69 : decode cX3_set 69 = .ok (.aload_n 0, 1) := by decide +kernel
theorem dX3_set_70 : decode cX3_set 70 = .ok (.getfield 19, 3) := by decide +kernel
theorem dX3_set_73 : decode cX3_set 73 = .ok (.iload_n 1, 1) := by decide +kernel
theorem dX3_set_74 : decode cX3_set 74 = .ok (.iload_n 3, 1) := by decide +kernel
theorem dX3_set_75 : decode cX3_set 75 = .ok (.iastore, 1) := by decide +kernel
theorem dX3_set_76 : decode cX3_set 76 = .ok (.aload_n 0, 1) := by decide +kernel
theorem dX3_set_77 : decode cX3_set 77 = .ok (.invokevirtual 66, 3) := by decide +kernel
theorem dX3_set_80 : decode cX3_set 80 = .ok (.iload 4, 2) := by decide +kernel
theorem dX3_set_82 : decode cX3_set 82 = .ok (.ireturn, 1) := by decide +kernel
theorem dX3_copy_0 : decode cX3_copy 0 = .ok (.iconst 0, 1) := by decide +kernel
theorem dX3_copy_1 : decode cX3_copy 1 = .ok (.istore_n 2, 1) := by decide +kernel
theorem dX3_copy_2 : decode cX3_copy 2 = .ok (.iload_n 2, 1) := by decide +kernel
theorem dX3_copy_3 : decode cX3_copy 3 = .ok (.bipush 31, 2) := by decide +kernel
theorem dX3_copy_5 : decode cX3_copy 5 = .ok (.if_icmp .ge 15, 3) := by decide +kernel
theorem dX3_copy_8 : decode cX3_copy 8 = .ok (.aload_n 1, 1) := by decide +kernel
theorem dX3_copy_9 : decode cX3_copy 9 = .ok (.iload_n 2, 1) := by decide +kernel
theorem dX3_copy_10 : decode cX3_copy 10 = .ok (.aload_n 0, 1) := by decide +kernel
theorem dX3_copy_11 : decode cX3_copy 11 = .ok (.iload_n 2, 1) := by decide +kernel
theorem dX3_copy_12 : decode cX3_copy 12 = .ok (.laload, 1) := by decide +kernel
theorem dX3_copy_13 : decode cX3_copy 13 = .ok (.lastore, 1) := by decide +kernel
theorem dX3_copy_14 : decode cX3_copy 14 = .ok (.iinc 2 1, 3) := by decide +kernel
theorem dX3_copy_17 : decode cX3_copy 17 = .ok (.goto (-15), 3) := by decide +kernel
theorem dX3_copy_20 : decode cX3_copy 20 = .ok (.return_, 1) := by decide +kernel
theorem dX3_isFilling_0 : decode cX3_isFilling 0 = .ok (.aload_n 0, 1) := by decide +kernel
theorem dX3_isFilling_1 : decode cX3_isFilling 1 = .ok (.getfield 25, 3) := by decide +kernel
theorem dX3_isFilling_4 : decode cX3_isFilling 4 = .ok (.bipush 8, 2) := by decide +kernel
theorem dX3_isFilling_6 : decode cX3_isFilling 6 = .ok (.iload_n 1, 1) := by decide +kernel
theorem dX3_isFilling_7 : decode cX3_isFilling 7 = .ok (.iadd, 1) := by decide +kernel
theorem dX3_isFilling_8 : decode cX3_isFilling 8 = .ok (.laload, 1) := by decide +kernel
theorem dX3_isFilling_9 : decode cX3_isFilling 9 = .ok (.lconst 1, 1) := by decide +kernel
theorem dX3_isFilling_10 : decode cX3_isFilling 10 = .ok (.lcmp, 1) := by decide +kernel
theorem dX3_isFilling_11 : decode cX3_isFilling 11 = .ok (.ifCond .ne 7, 3) := by decide +kernel
theorem dX3_isFilling_14 : decode cX3_isFilling 14 = .ok (.iconst 1, 1) := by decide +kernel
theorem dX3_isFilling_15 : decode cX3_isFilling 15 = .ok (.goto 4, 3) := by decide +kernel
theorem dX3_isFilling_18 : decode cX3_isFilling 18 = .ok (.iconst 0, 1) := by decide +kernel
theorem dX3_isFilling_19 : decode cX3_isFilling 19 = .ok (.ireturn, 1) := by decide +kernel
set_option maxRecDepth 20000 in
theorem ggX3_waitOf_X3_isFilling : GoodIn wsX3_waitOf wsX3_isFilling := goodIn_r _ [10, 1, 24, 25, 26, 27, 28, 29, 30, 31, 32, 33, 34, 35, 36, 37, 38, 39, 40, 41, 42, 43, 44, 45, 46, 47, 48, 49, 50, 51] (by decide +kernel) (by decide +kernel)
set_option maxRecDepth 20000 in
theorem gX3_waitOf_X3_isFilling : GoodIn wsX3_waitOf (wsV RX3 104 RX3 yX3_isFilling wsX3_isFilling) := goodIn_app (goodIn_of _ (by decide +kernel)) ggX3_waitOf_X3_isFilling
set_option maxRecDepth 20000 in
theorem ggX3_waitOf_X3_make : GoodIn wsX3_waitOf wsX3_make := goodIn_r _ [14, 15, 16, 17, 18, 19, 20, 21, 22, 9, 23, 24, 25, 26, 27, 28, 29, 30, 31, 32, 33, 34, 35, 36, 37, 38, 39, 40, 41, 42, 43, 44, 45, 46, 47, 48, 49, 50, 51] (by decide +kernel) (by decide +kernel)
set_option maxRecDepth 20000 in
theorem gX3_waitOf_X3_make : GoodIn wsX3_waitOf (wsV RX3 107 RX3 yX3_make wsX3_make) := goodIn_app (goodIn_of _ (by decide +kernel)) ggX3_waitOf_X3_make
theorem dX3_waitOf_0 : decode cX3_waitOf 0 = .ok (.aload_n 0, 1) := by decide +kernel
theorem dX3_waitOf_1 : decode cX3_waitOf 1 = .ok (.getfield 25, 3) := by decide +kernel
theorem dX3_waitOf_4 : decode cX3_waitOf 4 = .ok (.iconst 0, 1) := by decide +kernel
theorem dX3_waitOf_5 : decode cX3_waitOf 5 = .ok (.iconst 2, 1) := by decide +kernel
theorem dX3_waitOf_6 : decode cX3_waitOf 6 = .ok (.iload_n 1, 1) := by decide +kernel
theorem dX3_waitOf_7 : decode cX3_waitOf 7 = .ok (.imul, 1) := by decide +kernel
theorem dX3_waitOf_8 : decode cX3_waitOf 8 = .ok (.iadd, 1) := by decide +kernel
theorem dX3_waitOf_9 : decode cX3_waitOf 9 = .ok (.laload, 1) := by decide +kernel
theorem dX3_waitOf_10 : decode cX3_waitOf 10 = .ok (.lstore_n 2, 1) := by decide +kernel
theorem dX3_waitOf_11 : decode cX3_waitOf 11 = .ok (.aload_n 0, 1) := by decide +kernel
theorem dX3_waitOf_12 : decode cX3_waitOf 12 = .ok (.getfield 25, 3) := by decide +kernel
theorem dX3_waitOf_15 : decode cX3_waitOf 15 = .ok (.iconst 0, 1) := by decide +kernel
theorem dX3_waitOf_16 : decode cX3_waitOf 16 = .ok (.iconst 2, 1) := by decide +kernel
theorem dX3_waitOf_17 : decode cX3_waitOf 17 = .ok (.iload_n 1, 1) := by decide +kernel
theorem dX3_waitOf_18 : decode cX3_waitOf 18 = .ok (.imul, 1) := by decide +kernel
theorem dX3_waitOf_19 : decode cX3_waitOf 19 = .ok (.iadd, 1) := by decide +kernel
theorem dX3_waitOf_20 : decode cX3_waitOf 20 = .ok (.iconst 1, 1) := by decide +kernel
theorem dX3_waitOf_21 : decode cX3_waitOf 21 = .ok (.iadd, 1) := by decide +kernel
theorem dX3_waitOf_22 : decode cX3_waitOf 22 = .ok (.laload, 1) := by decide +kernel
theorem dX3_waitOf_23 : decode cX3_waitOf 23 = .ok (.lstore 4, 2) := by decide +kernel
theorem dX3_waitOf_25 : decode cX3_waitOf 25 = .ok (.aload_n 0, 1) := by decide +kernel
theorem dX3_waitOf_26 : decode cX3_waitOf 26 = .ok (.iload_n 1, 1) := by decide +kernel
theorem dX3_waitOf_27 : decode cX3_waitOf 27 = .ok (.invokevirtual 104, 3) := by decide +kernel
theorem dX3_waitOf_30 : decode cX3_waitOf 30 = .ok (.ifCond .eq 32, 3) := by decide +kernel
theorem dX3_waitOf_33 : decode cX3_waitOf 33 = .ok (.aload_n 0, 1) := by decide +kernel
theorem dX3_waitOf_34 : decode cX3_waitOf 34 = .ok (.aload_n 0, 1) := by decide +kernel
theorem dX3_waitOf_35 : decode cX3_waitOf 35 = .ok (.getfield 13, 3) := by decide +kernel
theorem dX3_waitOf_38 : decode cX3_waitOf 38 = .ok (.iload_n 1, 1) := by decide +kernel
theorem dX3_waitOf_39 : decode cX3_waitOf 39 = .ok (.iaload, 1) := by decide +kernel
theorem dX3_waitOf_40 : decode cX3_waitOf 40 = .ok (.i2l, 1) := by decide +kernel
theorem dX3_waitOf_41 : decode cX3_waitOf 41 = .ok (.lload 4, 2) := by decide +kernel
theorem dX3_waitOf_43 : decode cX3_waitOf 43 = .ok (.lmul, 1) := by decide +kernel
theorem dX3_waitOf_44 : decode cX3_waitOf 44 = .ok (.lload_n 2, 1) := by decide +kernel
theorem dX3_waitOf_45 : decode cX3_waitOf 45 = .ok (.lsub, 1) := by decide +kernel
theorem dX3_waitOf_46 : decode cX3_waitOf 46 = .ok (.lload 4, 2) := by decide +kernel
theorem dX3_waitOf_48 : decode cX3_waitOf 48 = .ok (.aload_n 0, 1) := by decide +kernel
theorem dX3_waitOf_49 : decode cX3_waitOf 49 = .ok (.getfield 16, 3) := by decide +kernel
theorem dX3_waitOf_52 : decode cX3_waitOf 52 = .ok (.iload_n 1, 1) := by decide +kernel
theorem dX3_waitOf_53 : decode cX3_waitOf 53 = .ok (.iaload, 1) := by decide +kernel
theorem dX3_waitOf_54 : decode cX3_waitOf 54 = .ok (.i2l, 1) := by decide +kernel
theorem dX3_waitOf_55 : decode cX3_waitOf 55 = .ok (.lmul, 1) := by decide +kernel
theorem dX3_waitOf_56 : decode cX3_waitOf 56 = .ok (.invokevirtual 107, 3) := by decide +kernel
theorem dX3_waitOf_59 : decode cX3_waitOf 59 = .ok (.goto 29, 3) := by decide +kernel
theorem dX3_waitOf_62 : decode cX3_waitOf 62 = .ok (.aload_n 0, 1) := by decide +kernel
theorem dX3_waitOf_63 : decode cX3_waitOf 63 = .ok (.lload_n 2, 1) := by decide +kernel
theorem dX3_waitOf_64 : decode cX3_waitOf 64 = .ok (.aload_n 0, 1) := by decide +kernel
theorem dX3_waitOf_65 : decode cX3_waitOf 65 = .ok (.getfield 9, 3) := by decide +kernel
theorem dX3_waitOf_68 : decode cX3_waitOf 68 = .ok (.iload_n 1, 1) := by decide +kernel
theorem dX3_waitOf_69 : decode cX3_waitOf 69 = .ok (.iaload, 1) := by decide +kernel
theorem dX3_waitOf_70 : decode cX3_waitOf 70 = .ok (.i2l, 1) := by decide +kernel
theorem dX3_waitOf_71 : decode cX3_waitOf 71 = .ok (.lload 4, 2) := by decide +kernel
theorem dX3_waitOf_73 : decode cX3_waitOf 73 = .ok (.lmul, 1) := by decide +kernel
theorem dX3_waitOf_74 : decode cX3_waitOf 74 = .ok (.lsub, 1) := by decide +kernel
theorem dX3_waitOf_75 : decode cX3_waitOf 75 = .ok (.lload 4, 2) := by decide +kernel
theorem dX3_waitOf_77 : decode cX3_waitOf 77 = .ok (.aload_n 0, 1) := by decide +kernel
theorem dX3_waitOf_78 : decode cX3_waitOf 78 = .ok (.getfield 19, 3) := by decide +kernel
theorem dX3_waitOf_81 : decode cX3_waitOf 81 = .ok (.iload_n 1, 1) := by decide +kernel
theorem dX3_waitOf_82 : decode cX3_waitOf 82 = .ok (.iaload, 1) := by decide +kernel
theorem dX3_waitOf_83 : decode cX3_waitOf 83 = .ok (.i2l, 1) := by decide +kernel
theorem dX3_waitOf_84 : decode cX3_waitOf 84 = .ok (.lmul, 1) := by decide +kernel
theorem dX3_waitOf_85 : decode cX3_waitOf 85 = .ok (.invokevirtual 107, 3) := by decide +kernel
theorem dX3_waitOf_88 : decode cX3_waitOf 88 = .ok (.return_, 1) := by decide +kernel
theorem dX3_isOver_0 : decode cX3_isOver 0 = .ok (.lload_n 0, 1) := by decide +kernel
theorem dX3_isOver_1 : decode cX3_isOver 1 = .ok (.invokestatic 84, 3) := by decide +kernel
theorem dX3_isOver_4 : decode cX3_isOver 4 = .ok (.ldc2_w 111, 3) := by decide +kernel
theorem dX3_isOver_7 : decode cX3_isOver 7 = .ok (.lcmp, 1) := by decide +kernel
theorem dX3_isOver_8 : decode cX3_isOver 8 = .ok (.ifCond .gt 11, 3) := by decide +kernel
theorem dX3_isOver_11 : decode cX3_isOver 11 = .ok (.lload_n 2, 1) := by decide +kernel
theorem dX3_isOver_12 : decode cX3_isOver 12 = .ok (.ldc2_w 111, 3) := by decide +kernel
theorem dX3_isOver_15 : decode cX3_isOver 15 = .ok (.lcmp, 1) := by decide +kernel
theorem dX3_isOver_16 : decode cX3_isOver 16 = .ok (.ifCond .le 7, 3) := by decide +kernel
theorem dX3_isOver_19 : decode cX3_isOver 19 = .ok (.iconst 1, 1) := by decide +kernel
theorem dX3_isOver_20 : decode cX3_isOver 20 = .ok (.goto 4, 3) := by decide +kernel
theorem dX3_isOver_23 : decode cX3_isOver 23 = .ok (.iconst 0, 1) := by decide +kernel
theorem dX3_isOver_24 : decode cX3_isOver 24 = .ok (.ireturn, 1) := by decide +kernel
set_option maxRecDepth 20000 in
theorem ggX3_isSpent_X3_isOver : GoodIn wsX3_isSpent wsX3_isOver := goodIn_r _ [6, 7, 8, 9, 10, 11] (by decide +kernel) (by decide +kernel)
set_option maxRecDepth 20000 in
theorem gX3_isSpent_X3_isOver : GoodIn wsX3_isSpent (va_wsS RX3 113 yX3_isOver wsX3_isOver) := goodIn_app (goodIn_of _ (by decide +kernel)) ggX3_isSpent_X3_isOver
theorem dX3_isSpent_0 : decode cX3_isSpent 0 = .ok (.aload_n 0, 1) := by decide +kernel
theorem dX3_isSpent_1 : decode cX3_isSpent 1 = .ok (.getfield 25, 3) := by decide +kernel
theorem dX3_isSpent_4 : decode cX3_isSpent 4 = .ok (.bipush 20, 2) := by decide +kernel
theorem dX3_isSpent_6 : decode cX3_isSpent 6 = .ok (.laload, 1) := by decide +kernel
theorem dX3_isSpent_7 : decode cX3_isSpent 7 = .ok (.aload_n 0, 1) := by decide +kernel
theorem dX3_isSpent_8 : decode cX3_isSpent 8 = .ok (.getfield 25, 3) := by decide +kernel
theorem dX3_isSpent_11 : decode cX3_isSpent 11 = .ok (.bipush 21, 2) := by decide +kernel
theorem dX3_isSpent_13 : decode cX3_isSpent 13 = .ok (.laload, 1) := by decide +kernel
theorem dX3_isSpent_14 : decode cX3_isSpent 14 = .ok (.invokestatic 113, 3) := by decide +kernel
theorem dX3_isSpent_17 : decode cX3_isSpent 17 = .ok (.ifCond .eq 5, 3) := by decide +kernel
theorem dX3_isSpent_20 : decode cX3_isSpent 20 = .ok (.iconst 1, 1) := by decide +kernel
theorem dX3_isSpent_21 : decode cX3_isSpent 21 = .ok (.ireturn, 1) := by decide +kernel
theorem dX3_isSpent_22 : decode cX3_isSpent 22 = .ok (.iconst 0, 1) := by decide +kernel
theorem dX3_isSpent_23 : decode cX3_isSpent 23 = .ok (.istore_n 1, 1) := by decide +kernel
theorem dX3_isSpent_24 : decode cX3_isSpent 24 = .ok (.iload_n 1, 1) := by decide +kernel
theorem dX3_isSpent_25 : decode cX3_isSpent 25 = .ok (.aload_n 0, 1) := by decide +kernel
theorem dX3_isSpent_26 : decode cX3_isSpent 26 = .ok (.getfield 73, 3) := by decide +kernel
theorem dX3_isSpent_29 : decode cX3_isSpent 29 = .ok (.if_icmp .ge 39, 3) := by decide +kernel
theorem dX3_isSpent_32 : decode cX3_isSpent 32 = .ok (.aload_n 0, 1) := by decide +kernel
theorem dX3_isSpent_33 : decode cX3_isSpent 33 = .ok (.getfield 25, 3) := by decide +kernel
theorem dX3_isSpent_36 : decode cX3_isSpent 36 = .ok (.iconst 0, 1) := by decide +kernel
theorem dX3_isSpent_37 : decode cX3_isSpent 37 = .ok (.iconst 2, 1) := by decide +kernel
theorem dX3_isSpent_38 : decode cX3_isSpent 38 = .ok (.iload_n 1, 1) := by decide +kernel
theorem dX3_isSpent_39 : decode cX3_isSpent 39 = .ok (.imul, 1) := by decide +kernel
theorem dX3_isSpent_40 : decode cX3_isSpent 40 = .ok (.iadd, 1) := by decide +kernel
theorem dX3_isSpent_41 : decode cX3_isSpent 41 = .ok (.laload, 1) := by decide +kernel
theorem dX3_isSpent_42 : decode cX3_isSpent 42 = .ok (.aload_n 0, 1) := by decide +kernel
theorem dX3_isSpent_43 : decode cX3_isSpent 43 = .ok (.getfield 25, 3) := by decide +kernel
theorem dX3_isSpent_46 : decode cX3_isSpent 46 = .ok (.iconst 0, 1) := by decide +kernel
theorem dX3_isSpent_47 : decode cX3_isSpent 47 = .ok (.iconst 2, 1) := by decide +kernel
theorem dX3_isSpent_48 : decode cX3_isSpent 48 = .ok (.iload_n 1, 1) := by decide +kernel
theorem dX3_isSpent_49 : decode cX3_isSpent 49 = .ok (.imul, 1) := by decide +kernel
theorem dX3_isSpent_50 : decode cX3_isSpent 50 = .ok (.iadd, 1) := by decide +kernel
theorem dX3_isSpent_51 : decode cX3_isSpent 51 = .ok (.iconst 1, 1) := by decide +kernel
theorem dX3_isSpent_52 : decode cX3_isSpent 52 = .ok (.iadd, 1) := by decide +kernel
theorem dX3_isSpent_53 : decode cX3_isSpent 53 = .ok (.laload, 1) := by decide +kernel
theorem dX3_isSpent_54 : decode cX3_isSpent 54 = .ok (.invokestatic 113, 3) := by decide +kernel
theorem dX3_isSpent_57 : decode cX3_isSpent 57 = .ok (.ifCond .eq 5, 3) := by decide +kernel
theorem dX3_isSpent_60 : decode cX3_isSpent 60 = .ok (.iconst 1, 1) := by decide +kernel
theorem dX3_isSpent_61 : decode cX3_isSpent 61 = .ok (.ireturn, 1) := by decide +kernel
theorem dX3_isSpent_62 : decode cX3_isSpent 62 = .ok (.iinc 1 1, 3) := by decide +kernel
theorem dX3_isSpent_65 : decode cX3_isSpent 65 = .ok (.goto (-41), 3) := by decide +kernel
theorem dX3_isSpent_68 : decode cX3_isSpent 68 = .ok (.iconst 0, 1) := by decide +kernel
theorem dX3_isSpent_69 : decode cX3_isSpent 69 = .ok (.ireturn, 1) := by decide +kernel
set_option maxRecDepth 20000 in
theorem ggX3_step_X3_copy : GoodIn wsX3_step wsX3_copy := goodIn_r _ [20] (by decide +kernel) (by decide +kernel)
set_option maxRecDepth 20000 in
theorem gX3_step_X3_copy : GoodIn wsX3_step (va_wsS RX3 117 yX3_copy wsX3_copy) := goodIn_app (goodIn_of _ (by decide +kernel)) ggX3_step_X3_copy
set_option maxRecDepth 20000 in
theorem ggX3_step_X3_waitOf : GoodIn wsX3_step wsX3_waitOf := goodIn_r _ [24, 2, 25, 8, 26, 9, 27, 28, 29, 19, 30, 31, 32, 33, 34, 35, 36, 37, 38, 4, 5, 39, 40, 41, 59, 60, 61, 62, 63, 64, 65, 66, 67, 68, 69, 70, 71, 72, 73, 74, 75, 76, 77, 78, 79, 80, 81, 82, 83, 84, 85, 86] (by decide +kernel) (by decide +kernel)
set_option maxRecDepth 20000 in
theorem gX3_step_X3_waitOf : GoodIn wsX3_step (wsV RX3 121 RX3 yX3_waitOf wsX3_waitOf) := goodIn_app (goodIn_of _ (by decide +kernel)) ggX3_step_X3_waitOf
set_option maxRecDepth 20000 in
theorem ggX3_step_X3_isFilling : GoodIn wsX3_step wsX3_isFilling := goodIn_r _ [30, 2, 59, 60, 61, 62, 63, 64, 65, 66, 67, 68, 69, 70, 71, 72, 73, 74, 75, 76, 77, 78, 79, 80, 81, 82, 83, 84, 85, 86] (by decide +kernel) (by decide +kernel)
set_option maxRecDepth 20000 in
theorem gX3_step_X3_isFilling : GoodIn wsX3_step (wsV RX3 104 RX3 yX3_isFilling wsX3_isFilling) := goodIn_app (goodIn_of _ (by decide +kernel)) ggX3_step_X3_isFilling
set_option maxRecDepth 20000 in
theorem ggX3_step_X3_make : GoodIn wsX3_step wsX3_make := goodIn_r _ [34, 35, 36, 37, 38, 4, 5, 39, 40, 19, 41, 59, 60, 61, 62, 63, 64, 65, 66, 67, 68, 69, 70, 71, 72, 73, 74, 75, 76, 77, 78, 79, 80, 81, 82, 83, 84, 85, 86] (by decide +kernel) (by decide +kernel)
set_option maxRecDepth 20000 in
theorem gX3_step_X3_make : GoodIn wsX3_step (wsV RX3 107 RX3 yX3_make wsX3_make) := goodIn_app (goodIn_of _ (by decide +kernel)) ggX3_step_X3_make
set_option maxRecDepth 20000 in
theorem ggX3_step_X3_store : GoodIn wsX3_step wsX3_store := goodIn_r _ [45, 2, 4, 5, 59, 60, 61, 62, 63, 64, 65, 66, 67, 68, 69, 70, 71, 72, 73, 74, 75, 76, 77, 78, 79, 80, 81, 82, 83, 84, 85, 86] (by decide +kernel) (by decide +kernel)
set_option maxRecDepth 20000 in
theorem gX3_step_X3_store : GoodIn wsX3_step (wsV RX3 131 RX3 yX3_store wsX3_store) := goodIn_app (goodIn_of _ (by decide +kernel)) ggX3_step_X3_store
set_option maxRecDepth 20000 in
theorem ggX3_step_X3_act : GoodIn wsX3_step wsX3_act := goodIn_r _ [49, 50, 6, 7, 2, 25, 26, 31, 32, 33, 19, 34, 35, 36, 37, 38, 4, 5, 39, 40, 41, 42, 43, 44, 45, 59, 60, 61, 62, 63, 64, 65, 66, 67, 68, 69, 70, 71, 72, 73, 74, 75, 76, 77, 78, 79, 80, 81, 82, 83, 84, 85, 86] (by decide +kernel) (by decide +kernel)
set_option maxRecDepth 20000 in
theorem gX3_step_X3_act : GoodIn wsX3_step (wsV RX3 134 RX3 yX3_act wsX3_act) := goodIn_app (goodIn_of _ (by decide +kernel)) ggX3_step_X3_act
set_option maxRecDepth 20000 in
theorem ggX3_step_X3_isSpent : GoodIn wsX3_step wsX3_isSpent := goodIn_r _ [54, 2, 1, 55, 56, 19, 57, 35, 36, 37, 38, 58, 59, 60, 61, 62, 63, 64, 65, 66, 67, 68, 69, 70, 71, 72, 73, 74, 75, 76, 77, 78, 79, 80, 81, 82, 83, 84, 85, 86] (by decide +kernel) (by decide +kernel)
set_option maxRecDepth 20000 in
theorem gX3_step_X3_isSpent : GoodIn wsX3_step (wsV RX3 137 RX3 yX3_isSpent wsX3_isSpent) := goodIn_app (goodIn_of _ (by decide +kernel)) ggX3_step_X3_isSpent
theorem dX3_step_0 : decode cX3_step 0 = .ok (.aload_n 0, 1) := by decide +kernel
theorem dX3_step_1 : decode cX3_step 1 = .ok (.getfield 73, 3) := by decide +kernel
theorem dX3_step_4 : decode cX3_step 4 = .ok (.ifCond .ne 5, 3) := by decide +kernel
theorem dX3_step_7 : decode cX3_step 7 = .ok (.iconst 0, 1) := by decide +kernel
theorem dX3_step_8 : decode cX3_step 8 = .ok (.ireturn, 1) := by decide +kernel
theorem dX3_step_9 : decode cX3_step 9 = .ok (.aload_n 0, 1) := by decide +kernel
theorem dX3_step_10 : decode cX3_step 10 = .ok (.getfield 25, 3) := by decide +kernel
theorem dX3_step_13 : decode cX3_step 13 = .ok (.aload_n 0, 1) := by decide +kernel
theorem dX3_step_14 : decode cX3_step 14 = .ok (.getfield 29, 3) := by decide +kernel
theorem dX3_step_17 : decode cX3_step 17 = .ok (.invokestatic 117, 3) := by decide +kernel
theorem dX3_step_20 : decode cX3_step 20 = .ok (.aload_n 0, 1) := by decide +kernel
theorem dX3_step_21 : decode cX3_step 21 = .ok (.iconst 0, 1) := by decide +kernel
theorem dX3_step_22 : decode cX3_step 22 = .ok (.invokevirtual 121, 3) := by decide +kernel
theorem dX3_step_25 : decode cX3_step 25 = .ok (.aload_n 0, 1) := by decide +kernel
theorem dX3_step_26 : decode cX3_step 26 = .ok (.getfield 90, 3) := by decide +kernel
theorem dX3_step_29 : decode cX3_step 29 = .ok (.lstore_n 1, 1) := by decide +kernel
theorem dX3_step_30 : decode cX3_step 30 = .ok (.aload_n 0, 1) := by decide +kernel
theorem dX3_step_31 : decode cX3_step 31 = .ok (.getfield 94, 3) := by decide +kernel
theorem dX3_step_34 : decode cX3_step 34 = .ok (.lstore_n 3, 1) := by decide +kernel
theorem dX3_step_35 : decode cX3_step 35 = .ok (.aload_n 0, 1) := by decide +kernel
theorem dX3_step_36 : decode cX3_step 36 = .ok (.iconst 0, 1) := by decide +kernel
theorem dX3_step_37 : decode cX3_step 37 = .ok (.putfield 125, 3) := by decide +kernel
theorem dX3_step_40 : decode cX3_step 40 = .ok (.iconst 1, 1) := by decide +kernel
theorem dX3_step_41 : decode cX3_step 41 = .ok (.istore 5, 2) := by decide +kernel
theorem dX3_step_43 : decode cX3_step 43 = .ok (.iload 5, 2) := by decide +kernel
theorem dX3_step_45 : decode cX3_step 45 = .ok (.aload_n 0, 1) := by decide +kernel
theorem dX3_step_46 : decode cX3_step 46 = .ok (.getfield 73, 3) := by decide +kernel
theorem dX3_step_49 : decode cX3_step 49 = .ok (.if_icmp .ge 50, 3) := by decide +kernel
theorem dX3_step_52 : decode cX3_step 52 = .ok (.aload_n 0, 1) := by decide +kernel
theorem dX3_step_53 : decode cX3_step 53 = .ok (.iload 5, 2) := by decide +kernel
theorem dX3_step_55 : decode cX3_step 55 = .ok (.invokevirtual 121, 3) := by decide +kernel
theorem dX3_step_58 : decode cX3_step 58 = .ok (.aload_n 0, 1) := by decide +kernel
theorem dX3_step_59 : decode cX3_step 59 = .ok (.getfield 90, 3) := by decide +kernel
theorem dX3_step_62 : decode cX3_step 62 = .ok (.lload_n 3, 1) := by decide +kernel
theorem dX3_step_63 : decode cX3_step 63 = .ok (.lmul, 1) := by decide +kernel
theorem dX3_step_64 : decode cX3_step 64 = .ok (.lload_n 1, 1) := by decide +kernel
theorem dX3_step_65 : decode cX3_step 65 = .ok (.aload_n 0, 1) := by decide +kernel
theorem dX3_step_66 : decode cX3_step 66 = .ok (.getfield 94, 3) := by decide +kernel
theorem dX3_step_69 : decode cX3_step 69 = .ok (.lmul, 1) := by decide +kernel
theorem dX3_step_70 : decode cX3_step 70 = .ok (.lcmp, 1) := by decide +kernel
theorem dX3_step_71 : decode cX3_step 71 = .ok (.ifCond .lt 6, 3) := by decide +kernel
theorem dX3_step_74 : decode cX3_step 74 = .ok (.goto 19, 3) := by decide +kernel
theorem dX3_step_77 : decode cX3_step 77 = .ok (.aload_n 0, 1) := by decide +kernel
theorem dX3_step_78 : decode cX3_step 78 = .ok (.getfield 90, 3) := by decide +kernel
theorem dX3_step_81 : decode cX3_step 81 = .ok (.lstore_n 1, 1) := by decide +kernel
theorem dX3_step_82 : decode cX3_step 82 = .ok (.aload_n 0, 1) := by decide +kernel
theorem dX3_step_83 : decode cX3_step 83 = .ok (.getfield 94, 3) := by decide +kernel
theorem dX3_step_86 : decode cX3_step 86 = .ok (.lstore_n 3, 1) := by decide +kernel
theorem dX3_step_87 : decode cX3_step 87 = .ok (.aload_n 0, 1) := by decide +kernel
theorem dX3_step_88 : decode cX3_step 88 = .ok (.iload 5, 2) := by decide +kernel
theorem dX3_step_90 : decode cX3_step 90 = .ok (.putfield 125, 3) := by decide +kernel
theorem dX3_step_93 : decode cX3_step 93 = .ok (.iinc 5 1, 3) := by decide +kernel
theorem dX3_step_96 : decode cX3_step 96 = .ok (.goto (-53), 3) := by decide +kernel
theorem dX3_step_99 : decode cX3_step 99 = .ok (.aload_n 0, 1) := by decide +kernel
theorem dX3_step_100 : decode cX3_step 100 = .ok (.aload_n 0, 1) := by decide +kernel
theorem dX3_step_101 : decode cX3_step 101 = .ok (.aload_n 0, 1) := by decide +kernel
theorem dX3_step_102 : decode cX3_step 102 = .ok (.getfield 125, 3) := by decide +kernel
theorem dX3_step_105 : decode cX3_step 105 = .ok (.invokevirtual 104, 3) := by decide +kernel
theorem dX3_step_108 : decode cX3_step 108 = .ok (.ifCond .eq 7, 3) := by decide +kernel
theorem dX3_step_111 : decode cX3_step 111 = .ok (.iconst 0, 1) := by decide +kernel
theorem dX3_step_112 : decode cX3_step 112 = .ok (.goto 4, 3) := by decide +kernel
theorem dX3_step_115 : decode cX3_step 115 = .ok (.iconst 1, 1) := by decide +kernel
theorem dX3_step_116 : decode cX3_step 116 = .ok (.putfield 128, 3) := by decide +kernel
theorem dX3_step_119 : decode cX3_step 119 = .ok (.iconst 0, 1) := by decide +kernel
theorem dX3_step_120 : decode cX3_step 120 = .ok (.istore 5, 2) := by decide +kernel
theorem dX3_step_122 : decode cX3_step 122 = .ok (.iload 5, 2) := by decide +kernel
theorem dX3_step_124 : decode cX3_step 124 = .ok (.aload_n 0, 1) := by decide +kernel
theorem dX3_step_125 : decode cX3_step 125 = .ok (.getfield 73, 3) := by decide +kernel
theorem dX3_step_128 : decode cX3_step 128 = .ok (.if_icmp .ge 98, 3) := by decide +kernel
theorem dX3_step_131 : decode cX3_step 131 = .ok (.aload_n 0, 1) := by decide +kernel
theorem dX3_step_132 : decode cX3_step 132 = .ok (.getfield 25, 3) := by decide +kernel
theorem dX3_step_135 : decode cX3_step 135 = .ok (.iconst 0, 1) := by decide +kernel
theorem dX3_step_136 : decode cX3_step 136 = .ok (.iconst 2, 1) := by decide +kernel
theorem dX3_step_137 : decode cX3_step 137 = .ok (.iload 5, 2) := by decide +kernel
theorem dX3_step_139 : decode cX3_step 139 = .ok (.imul, 1) := by decide +kernel
theorem dX3_step_140 : decode cX3_step 140 = .ok (.iadd, 1) := by decide +kernel
theorem dX3_step_141 : decode cX3_step 141 = .ok (.laload, 1) := by decide +kernel
theorem dX3_step_142 : decode cX3_step 142 = .ok (.lstore 6, 2) := by decide +kernel
theorem dX3_step_144 : decode cX3_step 144 = .ok (.aload_n 0, 1) := by decide +kernel
theorem dX3_step_145 : decode cX3_step 145 = .ok (.getfield 25, 3) := by decide +kernel
theorem dX3_step_148 : decode cX3_step 148 = .ok (.iconst 0, 1) := by decide +kernel
theorem dX3_step_149 : decode cX3_step 149 = .ok (.iconst 2, 1) := by decide +kernel
theorem dX3_step_150 : decode cX3_step 150 = .ok (.iload 5, 2) := by decide +kernel
theorem dX3_step_152 : decode cX3_step 152 = .ok (.imul, 1) := by decide +kernel
theorem dX3_step_153 : decode cX3_step 153 = .ok (.iadd, 1) := by decide +kernel
theorem dX3_step_154 : decode cX3_step 154 = .ok (.iconst 1, 1) := by decide +kernel
theorem dX3_step_155 : decode cX3_step 155 = .ok (.iadd, 1) := by decide +kernel
theorem dX3_step_156 : decode cX3_step 156 = .ok (.laload, 1) := by decide +kernel
theorem dX3_step_157 : decode cX3_step 157 = .ok (.lstore 8, 2) := by decide +kernel
theorem dX3_step_159 : decode cX3_step 159 = .ok (.aload_n 0, 1) := by decide +kernel
theorem dX3_step_160 : decode cX3_step 160 = .ok (.iload 5, 2) := by decide +kernel
theorem dX3_step_162 : decode cX3_step 162 = .ok (.invokevirtual 104, 3) := by decide +kernel
theorem dX3_step_165 : decode cX3_step 165 = .ok (.ifCond .eq 14, 3) := by decide +kernel
theorem dX3_step_168 : decode cX3_step 168 = .ok (.aload_n 0, 1) := by decide +kernel
theorem dX3_step_169 : decode cX3_step 169 = .ok (.getfield 16, 3) := by decide +kernel
theorem dX3_step_172 : decode cX3_step 172 = .ok (.iload 5, 2) := by decide +kernel
theorem dX3_step_174 : decode cX3_step 174 = .ok (.iaload, 1) := by decide +kernel
theorem dX3_step_175 : decode cX3_step 175 = .ok (.i2l, 1) := by decide +kernel
theorem dX3_step_176 : decode cX3_step 176 = .ok (.goto 12, 3) := by decide +kernel
theorem dX3_step_179 : decode cX3_step 179 = .ok (.aload_n 0, 1) := by decide +kernel
theorem dX3_step_180 : decode cX3_step 180 = .ok (.getfield 19, 3) := by decide +kernel
theorem dX3_step_183 : decode cX3_step 183 = .ok (.iload 5, 2) := by decide +kernel
theorem dX3_step_185 : decode cX3_step 185 = .ok (.iaload, 1) := by decide +kernel
theorem dX3_step_186 : decode cX3_step 186 = .ok (.ineg, 1) := by decide +kernel
theorem dX3_step_187 : decode cX3_step 187 = .ok (.i2l, 1) := by decide +kernel
theorem dX3_step_188 : decode cX3_step 188 = .ok (.lstore 10, 2) := by decide +kernel
theorem dX3_step_190 : decode cX3_step 190 = .ok (.aload_n 0, 1) := by decide +kernel
theorem dX3_step_191 : decode cX3_step 191 = .ok (.lload 6, 2) := by decide +kernel
theorem dX3_step_193 : decode cX3_step 193 = .ok (.lload_n 3, 1) := by decide +kernel
theorem dX3_step_194 : decode cX3_step 194 = .ok (.lmul, 1) := by decide +kernel
theorem dX3_step_195 : decode cX3_step 195 = .ok (.lload 10, 2) := by decide +kernel
theorem dX3_step_197 : decode cX3_step 197 = .ok (.lload_n 1, 1) := by decide +kernel
theorem dX3_step_198 : decode cX3_step 198 = .ok (.lmul, 1) := by decide +kernel
theorem dX3_step_199 : decode cX3_step 199 = .ok (.lload 8, 2) := by decide +kernel
theorem dX3_step_201 : decode cX3_step 201 = .ok (.lmul, 1) := by decide +kernel
theorem dX3_step_202 : decode cX3_step 202 = .ok (.ladd, 1) := by decide +kernel
theorem dX3_step_203 : decode cX3_step 203 = .ok (.lload 8, 2) := by decide +kernel
theorem dX3_step_205 : decode cX3_step 205 = .ok (.lload_n 3, 1) := by decide +kernel
theorem dX3_step_206 : decode cX3_step 206 = .ok (.lmul, 1) := by decide +kernel
theorem dX3_step_207 : decode cX3_step 207 = .ok (.invokevirtual 107, 3) := by decide +kernel
theorem dX3_step_210 : decode cX3_step 210 = .ok (.aload_n 0, 1) := by decide +kernel
theorem dX3_step_211 : decode cX3_step 211 = .ok (.iconst 0, 1) := by decide +kernel
theorem dX3_step_212 : decode cX3_step 212 = .ok (.iconst 2, 1) := by decide +kernel
theorem dX3_step_213 : decode cX3_step 213 = .ok (.iload 5, 2) := by decide +kernel
theorem dX3_step_215 : decode cX3_step 215 = .ok (.imul, 1) := by decide +kernel
theorem dX3_step_216 : decode cX3_step 216 = .ok (.iadd, 1) := by decide +kernel
theorem dX3_step_217 : decode cX3_step 217 = .ok (.invokevirtual 131, 3) := by decide +kernel
theorem dX3_step_220 : decode cX3_step 220 = .ok (.iinc 5 1, 3) := by decide +kernel
theorem dX3_step_223 : decode cX3_step 223 = .ok (.goto (-101), 3) := by decide +kernel
theorem dX3_step_226 : decode cX3_step 226 = .ok (.aload_n 0, 1) := by decide +kernel
theorem dX3_step_227 : decode cX3_step 227 = .ok (.aload_n 0, 1) := by decide +kernel
theorem dX3_step_228 : decode cX3_step 228 = .ok (.getfield 25, 3) := by decide +kernel
theorem dX3_step_231 : decode cX3_step 231 = .ok (.bipush 20, 2) := by decide +kernel
theorem dX3_step_233 : decode cX3_step 233 = .ok (.laload, 1) := by decide +kernel
theorem dX3_step_234 : decode cX3_step 234 = .ok (.lload_n 3, 1) := by decide +kernel
theorem dX3_step_235 : decode cX3_step 235 = .ok (.lmul, 1) := by decide +kernel
theorem dX3_step_236 : decode cX3_step 236 = .ok (.lload_n 1, 1) := by decide +kernel
theorem dX3_step_237 : decode cX3_step 237 = .ok (.aload_n 0, 1) := by decide +kernel
theorem dX3_step_238 : decode cX3_step 238 = .ok (.getfield 25, 3) := by decide +kernel
theorem dX3_step_241 : decode cX3_step 241 = .ok (.bipush 21, 2) := by decide +kernel
theorem dX3_step_243 : decode cX3_step 243 = .ok (.laload, 1) := by decide +kernel
theorem dX3_step_244 : decode cX3_step 244 = .ok (.lmul, 1) := by decide +kernel
theorem dX3_step_245 : decode cX3_step 245 = .ok (.ladd, 1) := by decide +kernel
theorem dX3_step_246 : decode cX3_step 246 = .ok (.aload_n 0, 1) := by decide +kernel
theorem dX3_step_247 : decode cX3_step 247 = .ok (.getfield 25, 3) := by decide +kernel
theorem dX3_step_250 : decode cX3_step 250 = .ok (.bipush 21, 2) := by decide +kernel
theorem dX3_step_252 : decode cX3_step 252 = .ok (.laload, 1) := by decide +kernel
theorem dX3_step_253 : decode cX3_step 253 = .ok (.lload_n 3, 1) := by decide +kernel
theorem dX3_step_254 : decode cX3_step 254 = .ok (.lmul, 1) := by decide +kernel
theorem dX3_step_255 : decode cX3_step 255 = .ok (.invokevirtual 107, 3) := by decide +kernel
theorem dX3_step_258 : decode cX3_step 258 = .ok (.aload_n 0, 1) := by decide +kernel
theorem dX3_step_259 : decode cX3_step 259 = .ok (.bipush 20, 2) := by decide +kernel
theorem dX3_step_261 : decode cX3_step 261 = .ok (.invokevirtual 131, 3) := by decide +kernel
theorem dX3_step_264 : decode cX3_step 264 = .ok (.aload_n 0, 1) := by decide +kernel
theorem dX3_step_265 : decode cX3_step 265 = .ok (.getfield 25, 3) := by decide +kernel
theorem dX3_step_268 : decode cX3_step 268 = .ok (.bipush 8, 2) := by decide +kernel
theorem dX3_step_270 : decode cX3_step 270 = .ok (.aload_n 0, 1) := by decide +kernel
theorem dX3_step_271 : decode cX3_step 271 = .ok (.getfield 125, 3) := by decide +kernel
theorem dX3_step_274 : decode cX3_step 274 = .ok (.iadd, 1) := by decide +kernel
theorem dX3_step_275 : decode cX3_step 275 = .ok (.aload_n 0, 1) := by decide +kernel
theorem dX3_step_276 : decode cX3_step 276 = .ok (.getfield 128, 3) := by decide +kernel
theorem dX3_step_279 : decode cX3_step 279 = .ok (.i2l, 1) := by decide +kernel
theorem dX3_step_280 : decode cX3_step 280 = .ok (.lastore, 1) := by decide +kernel
theorem dX3_step_281 : decode cX3_step 281 = .ok (.aload_n 0, 1) := by decide +kernel
theorem dX3_step_282 : decode cX3_step 282 = .ok (.getfield 25, 3) := by decide +kernel
theorem dX3_step_285 : decode cX3_step 285 = .ok (.aload_n 0, 1) := by decide +kernel
theorem dX3_step_286 : decode cX3_step 286 = .ok (.getfield 128, 3) := by decide +kernel
theorem dX3_step_289 : decode cX3_step 289 = .ok (.ifCond .ne 8, 3) := by decide +kernel
theorem dX3_step_292 : decode cX3_step 292 = .ok (.bipush 22, 2) := by decide +kernel
theorem dX3_step_294 : decode cX3_step 294 = .ok (.goto 5, 3) := by decide +kernel
theorem dX3_step_297 : decode cX3_step 297 = .ok (.bipush 26, 2) := by decide +kernel
theorem dX3_step_299 : decode cX3_step 299 = .ok (.aload_n 0, 1) := by decide +kernel
theorem dX3_step_300 : decode cX3_step 300 = .ok (.getfield 125, 3) := by decide +kernel
theorem dX3_step_303 : decode cX3_step 303 = .ok (.iadd, 1) := by decide +kernel
theorem dX3_step_304 : decode cX3_step 304 = .ok (.dup2, 1) := by decide +kernel
theorem dX3_step_305 : decode cX3_step 305 = .ok (.laload, 1) := by decide +kernel
theorem dX3_step_306 : decode cX3_step 306 = .ok (.lconst 1, 1) := by decide +kernel
theorem dX3_step_307 : decode cX3_step 307 = .ok (.ladd, 1) := by decide +kernel
theorem dX3_step_308 : decode cX3_step 308 = .ok (.lastore, 1) := by decide +kernel
theorem dX3_step_309 : decode cX3_step 309 = .ok (.aload_n 0, 1) := by decide +kernel
theorem dX3_step_310 : decode cX3_step 310 = .ok (.getfield 25, 3) := by decide +kernel
theorem dX3_step_313 : decode cX3_step 313 = .ok (.bipush 30, 2) := by decide +kernel
theorem dX3_step_315 : decode cX3_step 315 = .ok (.dup2, 1) := by decide +kernel
theorem dX3_step_316 : decode cX3_step 316 = .ok (.laload, 1) := by decide +kernel
theorem dX3_step_317 : decode cX3_step 317 = .ok (.lconst 1, 1) := by decide +kernel
theorem dX3_step_318 : decode cX3_step 318 = .ok (.ladd, 1) := by decide +kernel
theorem dX3_step_319 : decode cX3_step 319 = .ok (.lastore, 1) := by decide +kernel
theorem dX3_step_320 : decode cX3_step 320 = .ok (.iconst 0, 1) := by decide +kernel
theorem dX3_step_321 : decode cX3_step 321 = .ok (.istore 5, 2) := by decide +kernel
theorem dX3_step_323 : decode cX3_step 323 = .ok (.iload 5, 2) := by decide +kernel
theorem dX3_step_325 : decode cX3_step 325 = .ok (.aload_n 0, 1) := by decide +kernel
theorem dX3_step_326 : decode cX3_step 326 = .ok (.getfield 101, 3) := by decide +kernel
theorem dX3_step_329 : decode cX3_step 329 = .ok (.if_icmp .ge 15, 3) := by decide +kernel
theorem dX3_step_332 : decode cX3_step 332 = .ok (.aload_n 0, 1) := by decide +kernel
theorem dX3_step_333 : decode cX3_step 333 = .ok (.iload 5, 2) := by decide +kernel
theorem dX3_step_335 : decode cX3_step 335 = .ok (.invokevirtual 134, 3) := by decide +kernel
theorem dX3_step_338 : decode cX3_step 338 = .ok (.iinc 5 1, 3) := by decide +kernel
theorem dX3_step_341 : decode cX3_step 341 = .ok (.goto (-18), 3) := by decide +kernel
theorem dX3_step_344 : decode cX3_step 344 = .ok (.aload_n 0, 1) := by decide +kernel
theorem dX3_step_345 : decode cX3_step 345 = .ok (.invokevirtual 137, 3) := by decide +kernel
theorem dX3_step_348 : decode cX3_step 348 = .ok (.ifCond .eq 16, 3) := by decide +kernel
theorem dX3_step_351 : decode cX3_step 351 = .ok (.aload_n 0, 1) := by decide +kernel
theorem dX3_step_352 : decode cX3_step 352 = .ok (.getfield 29, 3) := by decide +kernel
theorem dX3_step_355 : decode cX3_step 355 = .ok (.aload_n 0, 1) := by decide +kernel
theorem dX3_step_356 : decode cX3_step 356 = .ok (.getfield 25, 3) := by decide +kernel
theorem dX3_step_359 : decode cX3_step 359 = .ok (.invokestatic 117, 3) := by decide +kernel
theorem dX3_step_362 : decode cX3_step 362 = .ok (.iconst 0, 1) := by decide +kernel
theorem dX3_step_363 : decode cX3_step 363 = .ok (.ireturn, 1) := by decide +kernel
theorem dX3_step_364 : decode cX3_step 364 = .ok (.aload_n 0, 1) := by decide +kernel
theorem dX3_step_365 : decode cX3_step 365 = .ok (.getfield 47, 3) := by decide +kernel
theorem dX3_step_368 : decode cX3_step 368 = .ok (.ifCond .eq 79, 3) := by decide +kernel
theorem dX3_step_371 : decode cX3_step 371 = .ok (.aload_n 0, 1) := by decide +kernel
theorem dX3_step_372 : decode cX3_step 372 = .ok (.getfield 25, 3) := by decide +kernel
theorem dX3_step_375 : decode cX3_step 375 = .ok (.bipush 30, 2) := by decide +kernel
theorem dX3_step_377 : decode cX3_step 377 = .ok (.laload, 1) := by decide +kernel
theorem dX3_step_378 : decode cX3_step 378 = .ok (.ldc2_w 141, 3) := by decide +kernel
theorem dX3_step_381 : decode cX3_step 381 = .ok (.lcmp, 1) := by decide +kernel
theorem dX3_step_382 : decode cX3_step 382 = .ok (.ifCond .gt 65, 3) := by decide +kernel
theorem dX3_step_385 : decode cX3_step 385 = .ok (.aload_n 0, 1) := by decide +kernel
theorem dX3_step_386 : decode cX3_step 386 = .ok (.getfield 25, 3) := by decide +kernel
theorem dX3_step_389 : decode cX3_step 389 = .ok (.bipush 30, 2) := by decide +kernel
theorem dX3_step_391 : decode cX3_step 391 = .ok (.laload, 1) := by decide +kernel
theorem dX3_step_392 : decode cX3_step 392 = .ok (.l2i, 1) := by decide +kernel
theorem dX3_step_393 : decode cX3_step 393 = .ok (.iconst 1, 1) := by decide +kernel
theorem dX3_step_394 : decode cX3_step 394 = .ok (.isub, 1) := by decide +kernel
theorem dX3_step_395 : decode cX3_step 395 = .ok (.istore 5, 2) := by decide +kernel
theorem dX3_step_397 : decode cX3_step 397 = .ok (.aload_n 0, 1) := by decide +kernel
theorem dX3_step_398 : decode cX3_step 398 = .ok (.getfield 35, 3) := by decide +kernel
theorem dX3_step_401 : decode cX3_step 401 = .ok (.iload 5, 2) := by decide +kernel
theorem dX3_step_403 : decode cX3_step 403 = .ok (.aload_n 0, 1) := by decide +kernel
theorem dX3_step_404 : decode cX3_step 404 = .ok (.getfield 125, 3) := by decide +kernel
theorem dX3_step_407 : decode cX3_step 407 = .ok (.iastore, 1) := by decide +kernel
theorem dX3_step_408 : decode cX3_step 408 = .ok (.aload_n 0, 1) := by decide +kernel
theorem dX3_step_409 : decode cX3_step 409 = .ok (.getfield 38, 3) := by decide +kernel
theorem dX3_step_412 : decode cX3_step 412 = .ok (.iload 5, 2) := by decide +kernel
theorem dX3_step_414 : decode cX3_step 414 = .ok (.aload_n 0, 1) := by decide +kernel
theorem dX3_step_415 : decode cX3_step 415 = .ok (.getfield 128, 3) := by decide +kernel
theorem dX3_step_418 : decode cX3_step 418 = .ok (.iastore, 1) := by decide +kernel
theorem dX3_step_419 : decode cX3_step 419 = .ok (.aload_n 0, 1) := by decide +kernel
theorem dX3_step_420 : decode cX3_step 420 = .ok (.getfield 41, 3) := by decide +kernel
theorem dX3_step_423 : decode cX3_step 423 = .ok (.iload 5, 2) := by decide +kernel
theorem dX3_step_425 : decode cX3_step 425 = .ok (.aload_n 0, 1) := by decide +kernel
theorem dX3_step_426 : decode cX3_step 426 = .ok (.getfield 25, 3) := by decide +kernel
theorem dX3_step_429 : decode cX3_step 429 = .ok (.bipush 20, 2) := by decide +kernel
theorem dX3_step_431 : decode cX3_step 431 = .ok (.laload, 1) := by decide +kernel
theorem dX3_step_432 : decode cX3_step 432 = .ok (.lastore, 1) := by decide +kernel
theorem dX3_step_433 : decode cX3_step 433 = .ok (.aload_n 0, 1) := by decide +kernel
theorem dX3_step_434 : decode cX3_step 434 = .ok (.getfield 44, 3) := by decide +kernel
theorem dX3_step_437 : decode cX3_step 437 = .ok (.iload 5, 2) := by decide +kernel
theorem dX3_step_439 : decode cX3_step 439 = .ok (.aload_n 0, 1) := by decide +kernel
theorem dX3_step_440 : decode cX3_step 440 = .ok (.getfield 25, 3) := by decide +kernel
theorem dX3_step_443 : decode cX3_step 443 = .ok (.bipush 21, 2) := by decide +kernel
theorem dX3_step_445 : decode cX3_step 445 = .ok (.laload, 1) := by decide +kernel
theorem dX3_step_446 : decode cX3_step 446 = .ok (.lastore, 1) := by decide +kernel
theorem dX3_step_447 : decode cX3_step 447 = .ok (.iconst 1, 1) := by decide +kernel
theorem dX3_step_448 : decode cX3_step 448 = .ok (.ireturn, 1) := by decide +kernel
set_option maxRecDepth 20000 in
theorem ggX3_act_X3_make : GoodIn wsX3_act wsX3_make := goodIn_r _ [11, 12, 13, 14, 15, 16, 17, 18, 19, 10, 20, 25, 26, 27, 28, 29, 30, 31, 32, 33, 34, 35, 36, 37, 38, 39, 40, 41, 42, 43, 44, 45, 46, 47, 48, 49, 50, 51, 52] (by decide +kernel) (by decide +kernel)
set_option maxRecDepth 20000 in
theorem gX3_act_X3_make : GoodIn wsX3_act (wsV RX3 107 RX3 yX3_make wsX3_make) := goodIn_app (goodIn_of _ (by decide +kernel)) ggX3_act_X3_make
set_option maxRecDepth 20000 in
theorem ggX3_act_X3_store : GoodIn wsX3_act wsX3_store := goodIn_r _ [24, 4, 16, 17, 25, 26, 27, 28, 29, 30, 31, 32, 33, 34, 35, 36, 37, 38, 39, 40, 41, 42, 43, 44, 45, 46, 47, 48, 49, 50, 51, 52] (by decide +kernel) (by decide +kernel)
set_option maxRecDepth 20000 in
theorem gX3_act_X3_store : GoodIn wsX3_act (wsV RX3 131 RX3 yX3_store wsX3_store) := goodIn_app (goodIn_of _ (by decide +kernel)) ggX3_act_X3_store
theorem dX3_act_0 : decode cX3_act 0 = .ok (.bipush 6, 2) := by decide +kernel
theorem dX3_act_2 : decode cX3_act 2 = .ok (.iload_n 1, 1) := by decide +kernel
theorem dX3_act_3 : decode cX3_act 3 = .ok (.imul, 1) := by decide +kernel
theorem dX3_act_4 : decode cX3_act 4 = .ok (.istore_n 2, 1) := by decide +kernel
theorem dX3_act_5 : decode cX3_act 5 = .ok (.aload_n 0, 1) := by decide +kernel
theorem dX3_act_6 : decode cX3_act 6 = .ok (.getfield 22, 3) := by decide +kernel
theorem dX3_act_9 : decode cX3_act 9 = .ok (.iload_n 2, 1) := by decide +kernel
theorem dX3_act_10 : decode cX3_act 10 = .ok (.iaload, 1) := by decide +kernel
theorem dX3_act_11 : decode cX3_act 11 = .ok (.aload_n 0, 1) := by decide +kernel
theorem dX3_act_12 : decode cX3_act 12 = .ok (.getfield 125, 3) := by decide +kernel
theorem dX3_act_15 : decode cX3_act 15 = .ok (.if_icmp .ne 18, 3) := by decide +kernel
theorem dX3_act_18 : decode cX3_act 18 = .ok (.aload_n 0, 1) := by decide +kernel
theorem dX3_act_19 : decode cX3_act 19 = .ok (.getfield 22, 3) := by decide +kernel
theorem dX3_act_22 : decode cX3_act 22 = .ok (.iload_n 2, 1) := by decide +kernel
theorem dX3_act_23 : decode cX3_act 23 = .ok (.iconst 1, 1) := by decide +kernel
theorem dX3_act_24 : decode cX3_act 24 = .ok (.iadd, 1) := by decide +kernel
theorem dX3_act_25 : decode cX3_act 25 = .ok (.iaload, 1) := by decide +kernel
theorem dX3_act_26 : decode cX3_act 26 = .ok (.aload_n 0, 1) := by decide +kernel
theorem dX3_act_27 : decode cX3_act 27 = .ok (.getfield 128, 3) := by decide +kernel
theorem dX3_act_30 : decode cX3_act 30 = .ok (.if_icmp .eq 4, 3) := by decide +kernel
theorem dX3_act_33 : decode cX3_act 33 = .ok (.return_, 1) := by decide +kernel
theorem dX3_act_34 : decode cX3_act 34 = .ok (.aload_n 0, 1) := by decide +kernel
theorem dX3_act_35 : decode cX3_act 35 = .ok (.getfield 25, 3) := by decide +kernel
theorem dX3_act_38 : decode cX3_act 38 = .ok (.bipush 12, 2) := by decide +kernel
theorem dX3_act_40 : decode cX3_act 40 = .ok (.iload_n 1, 1) := by decide +kernel
theorem dX3_act_41 : decode cX3_act 41 = .ok (.iadd, 1) := by decide +kernel
theorem dX3_act_42 : decode cX3_act 42 = .ok (.dup2, 1) := by decide +kernel
theorem dX3_act_43 : decode cX3_act 43 = .ok (.laload, 1) := by decide +kernel
theorem dX3_act_44 : decode cX3_act 44 = .ok (.lconst 1, 1) := by decide +kernel
theorem dX3_act_45 : decode cX3_act 45 = .ok (.ladd, 1) := by decide +kernel
theorem dX3_act_46 : decode cX3_act 46 = .ok (.lastore, 1) := by decide +kernel
theorem dX3_act_47 : decode cX3_act 47 = .ok (.aload_n 0, 1) := by decide +kernel
theorem dX3_act_48 : decode cX3_act 48 = .ok (.getfield 25, 3) := by decide +kernel
theorem dX3_act_51 : decode cX3_act 51 = .ok (.bipush 12, 2) := by decide +kernel
theorem dX3_act_53 : decode cX3_act 53 = .ok (.iload_n 1, 1) := by decide +kernel
theorem dX3_act_54 : decode cX3_act 54 = .ok (.iadd, 1) := by decide +kernel
theorem dX3_act_55 : decode cX3_act 55 = .ok (.laload, 1) := by decide +kernel
theorem dX3_act_56 : decode cX3_act 56 = .ok (.aload_n 0, 1) := by decide +kernel
theorem dX3_act_57 : decode cX3_act 57 = .ok (.getfield 22, 3) := by decide +kernel
theorem dX3_act_60 : decode cX3_act 60 = .ok (.iload_n 2, 1) := by decide +kernel
theorem dX3_act_61 : decode cX3_act 61 = .ok (.iconst 2, 1) := by decide +kernel
theorem dX3_act_62 : decode cX3_act 62 = .ok (.iadd, 1) := by decide +kernel
theorem dX3_act_63 : decode cX3_act 63 = .ok (.iaload, 1) := by decide +kernel
theorem dX3_act_64 : decode cX3_act 64 = .ok (.i2l, 1) := by decide +kernel
theorem dX3_act_65 : decode cX3_act 65 = .ok (.lcmp, 1) := by decide +kernel
theorem dX3_act_66 : decode cX3_act 66 = .ok (.ifCond .ge 4, 3) := by decide +kernel
theorem dX3_act_69 : decode cX3_act 69 = .ok (.return_, 1) := by decide +kernel
theorem dX3_act_70 : decode cX3_act 70 = .ok (.aload_n 0, 1) := by decide +kernel
theorem dX3_act_71 : decode cX3_act 71 = .ok (.getfield 25, 3) := by decide +kernel
theorem dX3_act_74 : decode cX3_act 74 = .ok (.bipush 12, 2) := by decide +kernel
theorem dX3_act_76 : decode cX3_act 76 = .ok (.iload_n 1, 1) := by decide +kernel
theorem dX3_act_77 : decode cX3_act 77 = .ok (.iadd, 1) := by decide +kernel
theorem dX3_act_78 : decode cX3_act 78 = .ok (.lconst 0, 1) := by decide +kernel
theorem dX3_act_79 : decode cX3_act 79 = .ok (.lastore, 1) := by decide +kernel
theorem dX3_act_80 : decode cX3_act 80 = .ok (.aload_n 0, 1) := by decide +kernel
theorem dX3_act_81 : decode cX3_act 81 = .ok (.getfield 22, 3) := by decide +kernel
theorem dX3_act_84 : decode cX3_act 84 = .ok (.iload_n 2, 1) := by decide +kernel
theorem dX3_act_85 : decode cX3_act 85 = .ok (.iconst 3, 1) := by decide +kernel
theorem dX3_act_86 : decode cX3_act 86 = .ok (.iadd, 1) := by decide +kernel
theorem dX3_act_87 : decode cX3_act 87 = .ok (.iaload, 1) := by decide +kernel
theorem dX3_act_88 : decode cX3_act 88 = .ok (.istore_n 3, 1) := by decide +kernel
theorem dX3_act_89 : decode cX3_act 89 = .ok (.aload_n 0, 1) := by decide +kernel
theorem dX3_act_90 : decode cX3_act 90 = .ok (.getfield 22, 3) := by decide +kernel
theorem dX3_act_93 : decode cX3_act 93 = .ok (.iload_n 2, 1) := by decide +kernel
theorem dX3_act_94 : decode cX3_act 94 = .ok (.iconst 4, 1) := by decide +kernel
theorem dX3_act_95 : decode cX3_act 95 = .ok (.iadd, 1) := by decide +kernel
theorem dX3_act_96 : decode cX3_act 96 = .ok (.iaload, 1) := by decide +kernel
theorem dX3_act_97 : decode cX3_act 97 = .ok (.lookupswitch 171 #[(0, 27), (1, 148)], 27) := by decide +kernel
theorem dX3_act_124 : decode cX3_act 124 = .ok (.aload_n 0, 1) := by decide +kernel
theorem dX3_act_125 : decode cX3_act 125 = .ok (.getfield 25, 3) := by decide +kernel
theorem dX3_act_128 : decode cX3_act 128 = .ok (.iconst 0, 1) := by decide +kernel
theorem dX3_act_129 : decode cX3_act 129 = .ok (.iconst 2, 1) := by decide +kernel
theorem dX3_act_130 : decode cX3_act 130 = .ok (.iload_n 3, 1) := by decide +kernel
theorem dX3_act_131 : decode cX3_act 131 = .ok (.imul, 1) := by decide +kernel
theorem dX3_act_132 : decode cX3_act 132 = .ok (.iadd, 1) := by decide +kernel
theorem dX3_act_133 : decode cX3_act 133 = .ok (.iconst 1, 1) := by decide +kernel
theorem dX3_act_134 : decode cX3_act 134 = .ok (.iadd, 1) := by decide +kernel
theorem dX3_act_135 : decode cX3_act 135 = .ok (.laload, 1) := by decide +kernel
theorem dX3_act_136 : decode cX3_act 136 = .ok (.lstore 4, 2) := by decide +kernel
theorem dX3_act_138 : decode cX3_act 138 = .ok (.aload_n 0, 1) := by decide +kernel
theorem dX3_act_139 : decode cX3_act 139 = .ok (.getfield 25, 3) := by decide +kernel
theorem dX3_act_142 : decode cX3_act 142 = .ok (.iconst 0, 1) := by decide +kernel
theorem dX3_act_143 : decode cX3_act 143 = .ok (.iconst 2, 1) := by decide +kernel
theorem dX3_act_144 : decode cX3_act 144 = .ok (.iload_n 3, 1) := by decide +kernel
theorem dX3_act_145 : decode cX3_act 145 = .ok (.imul, 1) := by decide +kernel
theorem dX3_act_146 : decode cX3_act 146 = .ok (.iadd, 1) := by decide +kernel
theorem dX3_act_147 : decode cX3_act 147 = .ok (.laload, 1) := by decide +kernel
theorem dX3_act_148 : decode cX3_act 148 = .ok (.aload_n 0, 1) := by decide +kernel
theorem dX3_act_149 : decode cX3_act 149 = .ok (.getfield 22, 3) := by decide +kernel
theorem dX3_act_152 : decode cX3_act 152 = .ok (.iload_n 2, 1) := by decide +kernel
theorem dX3_act_153 : decode cX3_act 153 = .ok (.iconst 5, 1) := by decide +kernel
theorem dX3_act_154 : decode cX3_act 154 = .ok (.iadd, 1) := by decide +kernel
theorem dX3_act_155 : decode cX3_act 155 = .ok (.iaload, 1) := by decide +kernel
theorem dX3_act_156 : decode cX3_act 156 = .ok (.i2l, 1) := by decide +kernel
theorem dX3_act_157 : decode cX3_act 157 = .ok (.lload 4, 2) := by decide +kernel
theorem dX3_act_159 : decode cX3_act 159 = .ok (.lmul, 1) := by decide +kernel
theorem dX3_act_160 : decode cX3_act 160 = .ok (.ladd, 1) := by decide +kernel
theorem dX3_act_161 : decode cX3_act 161 = .ok (.lstore 6, 2) := by decide +kernel
theorem dX3_act_163 : decode cX3_act 163 = .ok (.lload 6, 2) := by decide +kernel
theorem dX3_act_165 : decode cX3_act 165 = .ok (.aload_n 0, 1) := by decide +kernel
theorem dX3_act_166 : decode cX3_act 166 = .ok (.getfield 13, 3) := by decide +kernel
theorem dX3_act_169 : decode cX3_act 169 = .ok (.iload_n 3, 1) := by decide +kernel
theorem dX3_act_170 : decode cX3_act 170 = .ok (.iaload, 1) := by decide +kernel
theorem dX3_act_171 : decode cX3_act 171 = .ok (.i2l, 1) := by decide +kernel
theorem dX3_act_172 : decode cX3_act 172 = .ok (.lload 4, 2) := by decide +kernel
theorem dX3_act_174 : decode cX3_act 174 = .ok (.lmul, 1) := by decide +kernel
theorem dX3_act_175 : decode cX3_act 175 = .ok (.lcmp, 1) := by decide +kernel
theorem dX3_act_176 : decode cX3_act 176 = .ok (.ifCond .le 16, 3) := by decide +kernel
theorem dX3_act_179 : decode cX3_act 179 = .ok (.aload_n 0, 1) := by decide +kernel
theorem dX3_act_180 : decode cX3_act 180 = .ok (.getfield 13, 3) := by decide +kernel
theorem dX3_act_183 : decode cX3_act 183 = .ok (.iload_n 3, 1) := by decide +kernel
theorem dX3_act_184 : decode cX3_act 184 = .ok (.iaload, 1) := by decide +kernel
theorem dX3_act_185 : decode cX3_act 185 = .ok (.i2l, 1) := by decide +kernel
theorem dX3_act_186 : decode cX3_act 186 = .ok (.lload 4, 2) := by decide +kernel
theorem dX3_act_188 : decode cX3_act 188 = .ok (.lmul, 1) := by decide +kernel
theorem dX3_act_189 : decode cX3_act 189 = .ok (.goto 34, 3) := by decide +kernel
theorem dX3_act_192 : decode cX3_act 192 = .ok (.lload 6, 2) := by decide +kernel
theorem dX3_act_194 : decode cX3_act 194 = .ok (.aload_n 0, 1) := by decide +kernel
theorem dX3_act_195 : decode cX3_act 195 = .ok (.getfield 9, 3) := by decide +kernel
theorem dX3_act_198 : decode cX3_act 198 = .ok (.iload_n 3, 1) := by decide +kernel
theorem dX3_act_199 : decode cX3_act 199 = .ok (.iaload, 1) := by decide +kernel
theorem dX3_act_200 : decode cX3_act 200 = .ok (.i2l, 1) := by decide +kernel
theorem dX3_act_201 : decode cX3_act 201 = .ok (.lload 4, 2) := by decide +kernel
theorem dX3_act_203 : decode cX3_act 203 = .ok (.lmul, 1) := by decide +kernel
theorem dX3_act_204 : decode cX3_act 204 = .ok (.lcmp, 1) := by decide +kernel
theorem dX3_act_205 : decode cX3_act 205 = .ok (.ifCond .ge 16, 3) := by decide +kernel
theorem dX3_act_208 : decode cX3_act 208 = .ok (.aload_n 0, 1) := by decide +kernel
theorem dX3_act_209 : decode cX3_act 209 = .ok (.getfield 9, 3) := by decide +kernel
theorem dX3_act_212 : decode cX3_act 212 = .ok (.iload_n 3, 1) := by decide +kernel
theorem dX3_act_213 : decode cX3_act 213 = .ok (.iaload, 1) := by decide +kernel
theorem dX3_act_214 : decode cX3_act 214 = .ok (.i2l, 1) := by decide +kernel
theorem dX3_act_215 : decode cX3_act 215 = .ok (.lload 4, 2) := by decide +kernel
theorem dX3_act_217 : decode cX3_act 217 = .ok (.lmul, 1) := by decide +kernel
theorem dX3_act_218 : decode cX3_act 218 = .ok (.goto 5, 3) := by decide +kernel
theorem dX3_act_221 : decode cX3_act 221 = .ok (.lload 6, 2) := by decide +kernel
theorem dX3_act_223 : decode cX3_act 223 = .ok (.lstore 6, 2) := by decide +kernel
theorem dX3_act_225 : decode cX3_act 225 = .ok (.aload_n 0, 1) := by decide +kernel
theorem dX3_act_226 : decode cX3_act 226 = .ok (.lload 6, 2) := by decide +kernel
theorem dX3_act_228 : decode cX3_act 228 = .ok (.lload 4, 2) := by decide +kernel
theorem dX3_act_230 : decode cX3_act 230 = .ok (.invokevirtual 107, 3) := by decide +kernel
theorem dX3_act_233 : decode cX3_act 233 = .ok (.aload_n 0, 1) := by decide +kernel
theorem dX3_act_234 : decode cX3_act 234 = .ok (.iconst 0, 1) := by decide +kernel
theorem dX3_act_235 : decode cX3_act 235 = .ok (.iconst 2, 1) := by decide +kernel
theorem dX3_act_236 : decode cX3_act 236 = .ok (.iload_n 3, 1) := by decide +kernel
theorem dX3_act_237 : decode cX3_act 237 = .ok (.imul, 1) := by decide +kernel
theorem dX3_act_238 : decode cX3_act 238 = .ok (.iadd, 1) := by decide +kernel
theorem dX3_act_239 : decode cX3_act 239 = .ok (.invokevirtual 131, 3) := by decide +kernel
theorem dX3_act_242 : decode cX3_act 242 = .ok (.goto 46, 3) := by decide +kernel
theorem dX3_act_245 : decode cX3_act 245 = .ok (.aload_n 0, 1) := by decide +kernel
theorem dX3_act_246 : decode cX3_act 246 = .ok (.getfield 25, 3) := by decide +kernel
theorem dX3_act_249 : decode cX3_act 249 = .ok (.bipush 8, 2) := by decide +kernel
theorem dX3_act_251 : decode cX3_act 251 = .ok (.iload_n 3, 1) := by decide +kernel
theorem dX3_act_252 : decode cX3_act 252 = .ok (.iadd, 1) := by decide +kernel
theorem dX3_act_253 : decode cX3_act 253 = .ok (.lconst 1, 1) := by decide +kernel
theorem dX3_act_254 : decode cX3_act 254 = .ok (.aload_n 0, 1) := by decide +kernel
theorem dX3_act_255 : decode cX3_act 255 = .ok (.getfield 25, 3) := by decide +kernel
theorem dX3_act_258 : decode cX3_act 258 = .ok (.bipush 8, 2) := by decide +kernel
theorem dX3_act_260 : decode cX3_act 260 = .ok (.iload_n 3, 1) := by decide +kernel
theorem dX3_act_261 : decode cX3_act 261 = .ok (.iadd, 1) := by decide +kernel
theorem dX3_act_262 : decode cX3_act 262 = .ok (.laload, 1) := by decide +kernel
theorem dX3_act_263 : decode cX3_act 263 = .ok (.lsub, 1) := by decide +kernel
theorem dX3_act_264 : decode cX3_act 264 = .ok (.lastore, 1) := by decide +kernel
theorem dX3_act_265 : decode cX3_act 265 = .ok (.goto 23, 3) := by decide +kernel
theorem dX3_act_268 : decode cX3_act 268 = .ok (.aload_n 0, 1) := by decide +kernel
theorem dX3_act_269 : decode cX3_act 269 = .ok (.getfield 25, 3) := by decide +kernel
theorem dX3_act_272 : decode cX3_act 272 = .ok (.bipush 8, 2) := by decide +kernel
theorem dX3_act_274 : decode cX3_act 274 = .ok (.iload_n 3, 1) := by decide +kernel
theorem dX3_act_275 : decode cX3_act 275 = .ok (.iadd, 1) := by decide +kernel
theorem dX3_act_276 : decode cX3_act 276 = .ok (.lconst 1, 1) := by decide +kernel
theorem dX3_act_277 : decode cX3_act 277 = .ok (.aload_n 0, 1) := by decide +kernel
theorem dX3_act_278 : decode cX3_act 278 = .ok (.getfield 22, 3) := by decide +kernel
theorem dX3_act_281 : decode cX3_act 281 = .ok (.iload_n 2, 1) := by decide +kernel
theorem dX3_act_282 : decode cX3_act 282 = .ok (.iconst 5, 1) := by decide +kernel
theorem dX3_act_283 : decode cX3_act 283 = .ok (.iadd, 1) := by decide +kernel
theorem dX3_act_284 : decode cX3_act 284 = .ok (.iaload, 1) := by decide +kernel
theorem dX3_act_285 : decode cX3_act 285 = .ok (.i2l, 1) := by decide +kernel
theorem dX3_act_286 : decode cX3_act 286 = .ok (.lsub, 1) := by decide +kernel
theorem dX3_act_287 : decode cX3_act 287 = .ok (.lastore, 1) := by decide +kernel
theorem dX3_act_288 : decode cX3_act 288 = .ok (.return_, 1) := by decide +kernel
set_option maxRecDepth 20000 in
theorem ggX3_run_X3_in : GoodIn wsX3_run wsX3_in := goodIn_r _ [5] (by decide +kernel) (by decide +kernel)
set_option maxRecDepth 20000 in
theorem gX3_run_X3_in : GoodIn wsX3_run (va_wsS RX3 76 yX3_in wsX3_in) := goodIn_app (goodIn_of _ (by decide +kernel)) ggX3_run_X3_in
set_option maxRecDepth 20000 in
theorem ggX3_run_X3_step : GoodIn wsX3_run wsX3_step := goodIn_r _ [9, 10, 11, 12, 13, 14, 15, 16, 17, 18, 19, 20, 21, 22, 23, 24, 25, 26, 27, 4, 28, 29, 30, 31, 32, 33, 34, 35, 36, 37, 38, 39, 40, 41, 42, 43, 44, 45, 46, 47, 48, 49, 50, 51, 52, 53, 54, 55, 56, 57, 58, 59, 60, 61, 62, 63, 64, 65, 66, 67, 68, 69, 70, 71, 72, 73, 74, 75, 76, 77, 78, 79, 80, 81, 82, 83, 84, 85, 86, 87, 88, 89, 90, 91, 92, 93, 94] (by decide +kernel) (by decide +kernel)
set_option maxRecDepth 20000 in
theorem gX3_run_X3_step : GoodIn wsX3_run (wsV RX3 143 RX3 yX3_step wsX3_step) := goodIn_app (goodIn_of _ (by decide +kernel)) ggX3_run_X3_step
theorem dX3_run_0 : decode cX3_run 0 = .ok (.aload_n 0, 1) := by decide +kernel
theorem dX3_run_1 : decode cX3_run 1 = .ok (.iconst 0, 1) := by decide +kernel
theorem dX3_run_2 : decode cX3_run 2 = .ok (.putfield 69, 3) := by decide +kernel
theorem dX3_run_5 : decode cX3_run 5 = .ok (.iload_n 1, 1) := by decide +kernel
theorem dX3_run_6 : decode cX3_run 6 = .ok (.iconst 0, 1) := by decide +kernel
theorem dX3_run_7 : decode cX3_run 7 = .ok (.sipush 500, 3) := by decide +kernel
theorem dX3_run_10 : decode cX3_run 10 = .ok (.invokestatic 76, 3) := by decide +kernel
theorem dX3_run_13 : decode cX3_run 13 = .ok (.ifCond .ne 5, 3) := by decide +kernel
theorem dX3_run_16 : decode cX3_run 16 = .ok (.iconst (-1), 1) := by decide +kernel
theorem dX3_run_17 : decode cX3_run 17 = .ok (.ireturn, 1) := by decide +kernel
theorem dX3_run_18 : decode cX3_run 18 = .ok (.iconst 0, 1) := by decide +kernel
theorem dX3_run_19 : decode cX3_run 19 = .ok (.istore_n 2, 1) := by decide +kernel
theorem dX3_run_20 : decode cX3_run 20 = .ok (.iload_n 2, 1) := by decide +kernel
theorem dX3_run_21 : decode cX3_run 21 = .ok (.iload_n 1, 1) := by decide +kernel
theorem dX3_run_22 : decode cX3_run 22 = .ok (.if_icmp .ge 16, 3) := by decide +kernel
theorem dX3_run_25 : decode cX3_run 25 = .ok (.aload_n 0, 1) := by decide +kernel
theorem dX3_run_26 : decode cX3_run 26 = .ok (.invokevirtual 143, 3) := by decide +kernel
theorem dX3_run_29 : decode cX3_run 29 = .ok (.ifCond .eq 9, 3) := by decide +kernel
theorem dX3_run_32 : decode cX3_run 32 = .ok (.iinc 2 1, 3) := by decide +kernel
theorem dX3_run_35 : decode cX3_run 35 = .ok (.goto (-15), 3) := by decide +kernel
theorem dX3_run_38 : decode cX3_run 38 = .ok (.iload_n 2, 1) := by decide +kernel
theorem dX3_run_39 : decode cX3_run 39 = .ok (.ireturn, 1) := by decide +kernel
set_option maxRecDepth 20000 in
theorem ggX3_wouldBeSpent_X3_copy : GoodIn wsX3_wouldBeSpent wsX3_copy := goodIn_r _ [8] (by decide +kernel) (by decide +kernel)
set_option maxRecDepth 20000 in
theorem gX3_wouldBeSpent_X3_copy : GoodIn wsX3_wouldBeSpent (va_wsS RX3 117 yX3_copy wsX3_copy) := goodIn_app (goodIn_of _ (by decide +kernel)) ggX3_wouldBeSpent_X3_copy
set_option maxRecDepth 20000 in
theorem ggX3_wouldBeSpent_X3_step : GoodIn wsX3_wouldBeSpent wsX3_step := goodIn_r _ [12, 1, 2, 13, 14, 15, 16, 17, 18, 19, 20, 4, 21, 22, 23, 24, 25, 5, 6, 7, 8, 26, 27, 28, 29, 30, 31, 32, 33, 34, 35, 36, 37, 38, 39, 40, 41, 42, 43, 44, 45, 46, 47, 48, 49, 50, 51, 52, 53, 54, 55, 56, 57, 58, 59, 60, 61, 62, 63, 64, 65, 66, 67, 68, 69, 70, 71, 72, 73, 74, 75, 76, 77, 78, 79, 80, 81, 82, 83, 84, 85, 86, 87, 88, 89, 90, 91] (by decide +kernel) (by decide +kernel)
set_option maxRecDepth 20000 in
theorem gX3_wouldBeSpent_X3_step : GoodIn wsX3_wouldBeSpent (wsV RX3 143 RX3 yX3_step wsX3_step) := goodIn_app (goodIn_of _ (by decide +kernel)) ggX3_wouldBeSpent_X3_step
theorem dX3_wouldBeSpent_0 : decode cX3_wouldBeSpent 0 = .ok (.aload_n 0, 1) := by decide +kernel
theorem dX3_wouldBeSpent_1 : decode cX3_wouldBeSpent 1 = .ok (.getfield 73, 3) := by decide +kernel
theorem dX3_wouldBeSpent_4 : decode cX3_wouldBeSpent 4 = .ok (.ifCond .ne 5, 3) := by decide +kernel
theorem dX3_wouldBeSpent_7 : decode cX3_wouldBeSpent 7 = .ok (.iconst 0, 1) := by decide +kernel
theorem dX3_wouldBeSpent_8 : decode cX3_wouldBeSpent 8 = .ok (.ireturn, 1) := by decide +kernel
theorem dX3_wouldBeSpent_9 : decode cX3_wouldBeSpent 9 = .ok (.aload_n 0, 1) := by decide +kernel
theorem dX3_wouldBeSpent_10 : decode cX3_wouldBeSpent 10 = .ok (.getfield 25, 3) := by decide +kernel
theorem dX3_wouldBeSpent_13 : decode cX3_wouldBeSpent 13 = .ok (.aload_n 0, 1) := by decide +kernel
theorem dX3_wouldBeSpent_14 : decode cX3_wouldBeSpent 14 = .ok (.getfield 32, 3) := by decide +kernel
theorem dX3_wouldBeSpent_17 : decode cX3_wouldBeSpent 17 = .ok (.invokestatic 117, 3) := by decide +kernel
theorem dX3_wouldBeSpent_20 : decode cX3_wouldBeSpent 20 = .ok (.aload_n 0, 1) := by decide +kernel
theorem dX3_wouldBeSpent_21 : decode cX3_wouldBeSpent 21 = .ok (.iconst 0, 1) := by decide +kernel
theorem dX3_wouldBeSpent_22 : decode cX3_wouldBeSpent 22 = .ok (.putfield 47, 3) := by decide +kernel
theorem dX3_wouldBeSpent_25 : decode cX3_wouldBeSpent 25 = .ok (.aload_n 0, 1) := by decide +kernel
theorem dX3_wouldBeSpent_26 : decode cX3_wouldBeSpent 26 = .ok (.invokevirtual 143, 3) := by decide +kernel
theorem dX3_wouldBeSpent_29 : decode cX3_wouldBeSpent 29 = .ok (.ifCond .ne 7, 3) := by decide +kernel
theorem dX3_wouldBeSpent_32 : decode cX3_wouldBeSpent 32 = .ok (.iconst 1, 1) := by decide +kernel
theorem dX3_wouldBeSpent_33 : decode cX3_wouldBeSpent 33 = .ok (.goto 4, 3) := by decide +kernel
theorem dX3_wouldBeSpent_36 : decode cX3_wouldBeSpent 36 = .ok (.iconst 0, 1) := by decide +kernel
theorem dX3_wouldBeSpent_37 : decode cX3_wouldBeSpent 37 = .ok (.istore_n 1, 1) := by decide +kernel
theorem dX3_wouldBeSpent_38 : decode cX3_wouldBeSpent 38 = .ok (.aload_n 0, 1) := by decide +kernel
theorem dX3_wouldBeSpent_39 : decode cX3_wouldBeSpent 39 = .ok (.iconst 1, 1) := by decide +kernel
theorem dX3_wouldBeSpent_40 : decode cX3_wouldBeSpent 40 = .ok (.putfield 47, 3) := by decide +kernel
theorem dX3_wouldBeSpent_43 : decode cX3_wouldBeSpent 43 = .ok (.aload_n 0, 1) := by decide +kernel
theorem dX3_wouldBeSpent_44 : decode cX3_wouldBeSpent 44 = .ok (.getfield 32, 3) := by decide +kernel
theorem dX3_wouldBeSpent_47 : decode cX3_wouldBeSpent 47 = .ok (.aload_n 0, 1) := by decide +kernel
theorem dX3_wouldBeSpent_48 : decode cX3_wouldBeSpent 48 = .ok (.getfield 25, 3) := by decide +kernel
theorem dX3_wouldBeSpent_51 : decode cX3_wouldBeSpent 51 = .ok (.invokestatic 117, 3) := by decide +kernel
theorem dX3_wouldBeSpent_54 : decode cX3_wouldBeSpent 54 = .ok (.iload_n 1, 1) := by decide +kernel
theorem dX3_wouldBeSpent_55 : decode cX3_wouldBeSpent 55 = .ok (.ireturn, 1) := by decide +kernel
set_option maxRecDepth 20000 in
theorem ggX3_count_X3_wouldBeSpent : GoodIn wsX3_count wsX3_wouldBeSpent := goodIn_r _ [11, 2, 4, 12, 13, 14, 15, 10, 16, 17, 18, 19, 20, 21, 22, 23, 24, 25, 26, 27, 3, 28, 29, 30, 31, 32, 33, 34, 35, 36, 37, 38, 39, 40, 41, 42, 43, 44, 45, 46, 47, 48, 49, 50, 51, 52, 53, 54, 55, 56, 57, 58, 59, 60, 61, 62, 63, 64, 65, 66, 67, 68, 69, 70, 71, 72, 73, 74, 75, 76, 77, 78, 79, 80, 81, 82, 83, 84, 85, 86, 87, 88, 89, 90, 91, 92, 93, 94, 95, 96, 97, 98] (by decide +kernel) (by decide +kernel)
set_option maxRecDepth 20000 in
theorem gX3_count_X3_wouldBeSpent : GoodIn wsX3_count (wsV RX3 146 RX3 yX3_wouldBeSpent wsX3_wouldBeSpent) := goodIn_app (goodIn_of _ (by decide +kernel)) ggX3_count_X3_wouldBeSpent
theorem dX3_count_0 : decode cX3_count 0 = .ok (.aload_n 0, 1) := by decide +kernel
theorem dX3_count_1 : decode cX3_count 1 = .ok (.iconst 0, 1) := by decide +kernel
theorem dX3_count_2 : decode cX3_count 2 = .ok (.putfield 69, 3) := by decide +kernel
theorem dX3_count_5 : decode cX3_count 5 = .ok (.iload_n 1, 1) := by decide +kernel
theorem dX3_count_6 : decode cX3_count 6 = .ok (.tableswitch 106 0 7 #[46, 51, 56, 65, 74, 83, 96, 101], 46) := by decide +kernel
theorem dX3_count_52 : decode cX3_count 52 = .ok (.aload_n 0, 1) := by decide +kernel
theorem dX3_count_53 : decode cX3_count 53 = .ok (.getfield 73, 3) := by decide +kernel
theorem dX3_count_56 : decode cX3_count 56 = .ok (.ireturn, 1) := by decide +kernel
theorem dX3_count_57 : decode cX3_count 57 = .ok (.aload_n 0, 1) := by decide +kernel
theorem dX3_count_58 : decode cX3_count 58 = .ok (.getfield 101, 3) := by decide +kernel
theorem dX3_count_61 : decode cX3_count 61 = .ok (.ireturn, 1) := by decide +kernel
theorem dX3_count_62 : decode cX3_count 62 = .ok (.aload_n 0, 1) := by decide +kernel
theorem dX3_count_63 : decode cX3_count 63 = .ok (.getfield 25, 3) := by decide +kernel
theorem dX3_count_66 : decode cX3_count 66 = .ok (.bipush 30, 2) := by decide +kernel
theorem dX3_count_68 : decode cX3_count 68 = .ok (.laload, 1) := by decide +kernel
theorem dX3_count_69 : decode cX3_count 69 = .ok (.l2i, 1) := by decide +kernel
theorem dX3_count_70 : decode cX3_count 70 = .ok (.ireturn, 1) := by decide +kernel
theorem dX3_count_71 : decode cX3_count 71 = .ok (.aload_n 0, 1) := by decide +kernel
theorem dX3_count_72 : decode cX3_count 72 = .ok (.getfield 25, 3) := by decide +kernel
theorem dX3_count_75 : decode cX3_count 75 = .ok (.bipush 20, 2) := by decide +kernel
theorem dX3_count_77 : decode cX3_count 77 = .ok (.laload, 1) := by decide +kernel
theorem dX3_count_78 : decode cX3_count 78 = .ok (.l2i, 1) := by decide +kernel
theorem dX3_count_79 : decode cX3_count 79 = .ok (.ireturn, 1) := by decide +kernel
theorem dX3_count_80 : decode cX3_count 80 = .ok (.aload_n 0, 1) := by decide +kernel
theorem dX3_count_81 : decode cX3_count 81 = .ok (.getfield 25, 3) := by decide +kernel
theorem dX3_count_84 : decode cX3_count 84 = .ok (.bipush 21, 2) := by decide +kernel
theorem dX3_count_86 : decode cX3_count 86 = .ok (.laload, 1) := by decide +kernel
theorem dX3_count_87 : decode cX3_count 87 = .ok (.l2i, 1) := by decide +kernel
theorem dX3_count_88 : decode cX3_count 88 = .ok (.ireturn, 1) := by decide +kernel
theorem dX3_count_89 : decode cX3_count 89 = .ok (.aload_n 0, 1) := by decide +kernel
theorem dX3_count_90 : decode cX3_count 90 = .ok (.invokevirtual 146, 3) := by decide +kernel
theorem dX3_count_93 : decode cX3_count 93 = .ok (.ifCond .eq 7, 3) := by decide +kernel
theorem dX3_count_96 : decode cX3_count 96 = .ok (.iconst 1, 1) := by decide +kernel
theorem dX3_count_97 : decode cX3_count 97 = .ok (.goto 4, 3) := by decide +kernel
theorem dX3_count_100 : decode cX3_count 100 = .ok (.iconst 0, 1) := by decide +kernel
theorem dX3_count_101 : decode cX3_count 101 = .ok (.ireturn, 1) := by decide +kernel
theorem dX3_count_102 : decode cX3_count 102 = .ok (.aload_n 0, 1) := by decide +kernel
theorem dX3_count_103 : decode cX3_count 103 = .ok (.getfield 149, 3) := by decide +kernel
theorem dX3_count_106 : decode cX3_count 106 = .ok (.ireturn, 1) := by decide +kernel
theorem dX3_count_107 : decode cX3_count 107 = .ok (.aload_n 0, 1) := by decide +kernel
theorem dX3_count_108 : decode cX3_count 108 = .ok (.getfield 152, 3) := by decide +kernel
theorem dX3_count_111 : decode cX3_count 111 = .ok (.ireturn, 1) := by decide +kernel
theorem dX3_count_112 : decode cX3_count 112 = .ok (.iconst (-1), 1) := by decide +kernel
theorem dX3_count_113 : decode cX3_count 113 = .ok (.ireturn, 1) := by decide +kernel
set_option maxRecDepth 20000 in
theorem ggX3_beat_X3_make : GoodIn wsX3_beat wsX3_make := goodIn_r _ [7, 8, 9, 10, 11, 12, 13, 14, 15, 6, 16, 17, 18, 19, 20, 21, 22, 23, 24, 25, 26, 27, 28, 29, 30, 31, 32, 33, 34, 35, 36, 37, 38, 39, 40, 41, 42, 43, 44] (by decide +kernel) (by decide +kernel)
set_option maxRecDepth 20000 in
theorem gX3_beat_X3_make : GoodIn wsX3_beat (wsV RX3 107 RX3 yX3_make wsX3_make) := goodIn_app (goodIn_of _ (by decide +kernel)) ggX3_beat_X3_make
theorem dX3_beat_0 : decode cX3_beat 0 = .ok (.aload_n 0, 1) := by decide +kernel
theorem dX3_beat_1 : decode cX3_beat 1 = .ok (.aload_n 0, 1) := by decide +kernel
theorem dX3_beat_2 : decode cX3_beat 2 = .ok (.getfield 13, 3) := by decide +kernel
theorem dX3_beat_5 : decode cX3_beat 5 = .ok (.iload_n 1, 1) := by decide +kernel
theorem dX3_beat_6 : decode cX3_beat 6 = .ok (.iaload, 1) := by decide +kernel
theorem dX3_beat_7 : decode cX3_beat 7 = .ok (.aload_n 0, 1) := by decide +kernel
theorem dX3_beat_8 : decode cX3_beat 8 = .ok (.getfield 9, 3) := by decide +kernel
theorem dX3_beat_11 : decode cX3_beat 11 = .ok (.iload_n 1, 1) := by decide +kernel
theorem dX3_beat_12 : decode cX3_beat 12 = .ok (.iaload, 1) := by decide +kernel
theorem dX3_beat_13 : decode cX3_beat 13 = .ok (.isub, 1) := by decide +kernel
theorem dX3_beat_14 : decode cX3_beat 14 = .ok (.i2l, 1) := by decide +kernel
theorem dX3_beat_15 : decode cX3_beat 15 = .ok (.iload_n 2, 1) := by decide +kernel
theorem dX3_beat_16 : decode cX3_beat 16 = .ok (.iload_n 3, 1) := by decide +kernel
theorem dX3_beat_17 : decode cX3_beat 17 = .ok (.iadd, 1) := by decide +kernel
theorem dX3_beat_18 : decode cX3_beat 18 = .ok (.i2l, 1) := by decide +kernel
theorem dX3_beat_19 : decode cX3_beat 19 = .ok (.lmul, 1) := by decide +kernel
theorem dX3_beat_20 : decode cX3_beat 20 = .ok (.iload_n 2, 1) := by decide +kernel
theorem dX3_beat_21 : decode cX3_beat 21 = .ok (.i2l, 1) := by decide +kernel
theorem dX3_beat_22 : decode cX3_beat 22 = .ok (.iload_n 3, 1) := by decide +kernel
theorem dX3_beat_23 : decode cX3_beat 23 = .ok (.i2l, 1) := by decide +kernel
theorem dX3_beat_24 : decode cX3_beat 24 = .ok (.lmul, 1) := by decide +kernel
theorem dX3_beat_25 : decode cX3_beat 25 = .ok (.invokevirtual 107, 3) := by decide +kernel
theorem dX3_beat_28 : decode cX3_beat 28 = .ok (.return_, 1) := by decide +kernel
set_option maxRecDepth 20000 in
theorem ggX3_of_X3_isCell : GoodIn wsX3_of wsX3_isCell := goodIn_r _ [11, 12, 13, 14, 10, 15, 33, 34, 35, 36, 37, 38, 39, 40, 41, 42, 43, 44, 45, 46, 47, 48, 49, 50, 51, 52, 53, 54, 55, 56, 57, 58, 59, 60] (by decide +kernel) (by decide +kernel)
set_option maxRecDepth 20000 in
theorem gX3_of_X3_isCell : GoodIn wsX3_of (wsV RX3 97 RX3 yX3_isCell wsX3_isCell) := goodIn_app (goodIn_of _ (by decide +kernel)) ggX3_of_X3_isCell
set_option maxRecDepth 20000 in
theorem ggX3_of_X3_in : GoodIn wsX3_of wsX3_in := goodIn_r _ [15] (by decide +kernel) (by decide +kernel)
set_option maxRecDepth 20000 in
theorem gX3_of_X3_in : GoodIn wsX3_of (va_wsS RX3 76 yX3_in wsX3_in) := goodIn_app (goodIn_of _ (by decide +kernel)) ggX3_of_X3_in
set_option maxRecDepth 20000 in
theorem ggX3_of_X3_beat : GoodIn wsX3_of wsX3_beat := goodIn_r _ [19, 20, 21, 22, 23, 24, 10, 25, 26, 27, 28, 29, 5, 6, 30, 31, 32, 33, 34, 35, 36, 37, 38, 39, 40, 41, 42, 43, 44, 45, 46, 47, 48, 49, 50, 51, 52, 53, 54, 55, 56, 57, 58, 59, 60] (by decide +kernel) (by decide +kernel)
set_option maxRecDepth 20000 in
theorem gX3_of_X3_beat : GoodIn wsX3_of (wsV RX3 155 RX3 yX3_beat wsX3_beat) := goodIn_app (goodIn_of _ (by decide +kernel)) ggX3_of_X3_beat
theorem dX3_of_0 : decode cX3_of 0 = .ok (.aload_n 0, 1) := by decide +kernel
theorem dX3_of_1 : decode cX3_of 1 = .ok (.iconst 0, 1) := by decide +kernel
theorem dX3_of_2 : decode cX3_of 2 = .ok (.putfield 69, 3) := by decide +kernel
theorem dX3_of_5 : decode cX3_of 5 = .ok (.aload_n 0, 1) := by decide +kernel
theorem dX3_of_6 : decode cX3_of 6 = .ok (.iload_n 1, 1) := by decide +kernel
theorem dX3_of_7 : decode cX3_of 7 = .ok (.invokevirtual 97, 3) := by decide +kernel
theorem dX3_of_10 : decode cX3_of 10 = .ok (.ifCond .eq 13, 3) := by decide +kernel
theorem dX3_of_13 : decode cX3_of 13 = .ok (.iload_n 2, 1) := by decide +kernel
theorem dX3_of_14 : decode cX3_of 14 = .ok (.iconst 0, 1) := by decide +kernel
theorem dX3_of_15 : decode cX3_of 15 = .ok (.bipush 6, 2) := by decide +kernel
theorem dX3_of_17 : decode cX3_of 17 = .ok (.invokestatic 76, 3) := by decide +kernel
theorem dX3_of_20 : decode cX3_of 20 = .ok (.ifCond .ne 10, 3) := by decide +kernel
theorem dX3_of_23 : decode cX3_of 23 = .ok (.aload_n 0, 1) := by decide +kernel
theorem dX3_of_24 : decode cX3_of 24 = .ok (.iconst 1, 1) := by decide +kernel
theorem dX3_of_25 : decode cX3_of 25 = .ok (.putfield 69, 3) := by decide +kernel
theorem dX3_of_28 : decode cX3_of 28 = .ok (.iconst 0, 1) := by decide +kernel
theorem dX3_of_29 : decode cX3_of 29 = .ok (.ireturn, 1) := by decide +kernel
theorem dX3_of_30 : decode cX3_of 30 = .ok (.aload_n 0, 1) := by decide +kernel
theorem dX3_of_31 : decode cX3_of 31 = .ok (.iload_n 1, 1) := by decide +kernel
theorem dX3_of_32 : decode cX3_of 32 = .ok (.aload_n 0, 1) := by decide +kernel
theorem dX3_of_33 : decode cX3_of 33 = .ok (.getfield 16, 3) := by decide +kernel
theorem dX3_of_36 : decode cX3_of 36 = .ok (.iload_n 1, 1) := by decide +kernel
theorem dX3_of_37 : decode cX3_of 37 = .ok (.iaload, 1) := by decide +kernel
theorem dX3_of_38 : decode cX3_of 38 = .ok (.aload_n 0, 1) := by decide +kernel
theorem dX3_of_39 : decode cX3_of 39 = .ok (.getfield 19, 3) := by decide +kernel
theorem dX3_of_42 : decode cX3_of 42 = .ok (.iload_n 1, 1) := by decide +kernel
theorem dX3_of_43 : decode cX3_of 43 = .ok (.iaload, 1) := by decide +kernel
theorem dX3_of_44 : decode cX3_of 44 = .ok (.invokevirtual 155, 3) := by decide +kernel
theorem dX3_of_47 : decode cX3_of 47 = .ok (.iload_n 2, 1) := by decide +kernel
theorem dX3_of_48 : decode cX3_of 48 = .ok (.tableswitch 105 0 5 #[40, 52, 66, 77, 88, 99], 40) := by decide +kernel
theorem dX3_of_88 : decode cX3_of 88 = .ok (.aload_n 0, 1) := by decide +kernel
theorem dX3_of_89 : decode cX3_of 89 = .ok (.getfield 25, 3) := by decide +kernel
theorem dX3_of_92 : decode cX3_of 92 = .ok (.iconst 0, 1) := by decide +kernel
theorem dX3_of_93 : decode cX3_of 93 = .ok (.iconst 2, 1) := by decide +kernel
theorem dX3_of_94 : decode cX3_of 94 = .ok (.iload_n 1, 1) := by decide +kernel
theorem dX3_of_95 : decode cX3_of 95 = .ok (.imul, 1) := by decide +kernel
theorem dX3_of_96 : decode cX3_of 96 = .ok (.iadd, 1) := by decide +kernel
theorem dX3_of_97 : decode cX3_of 97 = .ok (.laload, 1) := by decide +kernel
theorem dX3_of_98 : decode cX3_of 98 = .ok (.l2i, 1) := by decide +kernel
theorem dX3_of_99 : decode cX3_of 99 = .ok (.ireturn, 1) := by decide +kernel
theorem dX3_of_100 : decode cX3_of 100 = .ok (.aload_n 0, 1) := by decide +kernel
theorem dX3_of_101 : decode cX3_of 101 = .ok (.getfield 25, 3) := by decide +kernel
theorem dX3_of_104 : decode cX3_of 104 = .ok (.iconst 0, 1) := by decide +kernel
theorem dX3_of_105 : decode cX3_of 105 = .ok (.iconst 2, 1) := by decide +kernel
theorem dX3_of_106 : decode cX3_of 106 = .ok (.iload_n 1, 1) := by decide +kernel
theorem dX3_of_107 : decode cX3_of 107 = .ok (.imul, 1) := by decide +kernel
theorem dX3_of_108 : decode cX3_of 108 = .ok (.iadd, 1) := by decide +kernel
theorem dX3_of_109 : decode cX3_of 109 = .ok (.iconst 1, 1) := by decide +kernel
theorem dX3_of_110 : decode cX3_of 110 = .ok (.iadd, 1) := by decide +kernel
theorem dX3_of_111 : decode cX3_of 111 = .ok (.laload, 1) := by decide +kernel
theorem dX3_of_112 : decode cX3_of 112 = .ok (.l2i, 1) := by decide +kernel
theorem dX3_of_113 : decode cX3_of 113 = .ok (.ireturn, 1) := by decide +kernel
theorem dX3_of_114 : decode cX3_of 114 = .ok (.aload_n 0, 1) := by decide +kernel
theorem dX3_of_115 : decode cX3_of 115 = .ok (.getfield 25, 3) := by decide +kernel
theorem dX3_of_118 : decode cX3_of 118 = .ok (.bipush 8, 2) := by decide +kernel
theorem dX3_of_120 : decode cX3_of 120 = .ok (.iload_n 1, 1) := by decide +kernel
theorem dX3_of_121 : decode cX3_of 121 = .ok (.iadd, 1) := by decide +kernel
theorem dX3_of_122 : decode cX3_of 122 = .ok (.laload, 1) := by decide +kernel
theorem dX3_of_123 : decode cX3_of 123 = .ok (.l2i, 1) := by decide +kernel
theorem dX3_of_124 : decode cX3_of 124 = .ok (.ireturn, 1) := by decide +kernel
theorem dX3_of_125 : decode cX3_of 125 = .ok (.aload_n 0, 1) := by decide +kernel
theorem dX3_of_126 : decode cX3_of 126 = .ok (.getfield 25, 3) := by decide +kernel
theorem dX3_of_129 : decode cX3_of 129 = .ok (.bipush 22, 2) := by decide +kernel
theorem dX3_of_131 : decode cX3_of 131 = .ok (.iload_n 1, 1) := by decide +kernel
theorem dX3_of_132 : decode cX3_of 132 = .ok (.iadd, 1) := by decide +kernel
theorem dX3_of_133 : decode cX3_of 133 = .ok (.laload, 1) := by decide +kernel
theorem dX3_of_134 : decode cX3_of 134 = .ok (.l2i, 1) := by decide +kernel
theorem dX3_of_135 : decode cX3_of 135 = .ok (.ireturn, 1) := by decide +kernel
theorem dX3_of_136 : decode cX3_of 136 = .ok (.aload_n 0, 1) := by decide +kernel
theorem dX3_of_137 : decode cX3_of 137 = .ok (.getfield 25, 3) := by decide +kernel
theorem dX3_of_140 : decode cX3_of 140 = .ok (.bipush 26, 2) := by decide +kernel
theorem dX3_of_142 : decode cX3_of 142 = .ok (.iload_n 1, 1) := by decide +kernel
theorem dX3_of_143 : decode cX3_of 143 = .ok (.iadd, 1) := by decide +kernel
theorem dX3_of_144 : decode cX3_of 144 = .ok (.laload, 1) := by decide +kernel
theorem dX3_of_145 : decode cX3_of 145 = .ok (.l2i, 1) := by decide +kernel
theorem dX3_of_146 : decode cX3_of 146 = .ok (.ireturn, 1) := by decide +kernel
theorem dX3_of_147 : decode cX3_of 147 = .ok (.aload_n 0, 1) := by decide +kernel
theorem dX3_of_148 : decode cX3_of 148 = .ok (.getfield 90, 3) := by decide +kernel
theorem dX3_of_151 : decode cX3_of 151 = .ok (.l2i, 1) := by decide +kernel
theorem dX3_of_152 : decode cX3_of 152 = .ok (.ireturn, 1) := by decide +kernel
theorem dX3_of_153 : decode cX3_of 153 = .ok (.aload_n 0, 1) := by decide +kernel
theorem dX3_of_154 : decode cX3_of 154 = .ok (.getfield 94, 3) := by decide +kernel
theorem dX3_of_157 : decode cX3_of 157 = .ok (.l2i, 1) := by decide +kernel
theorem dX3_of_158 : decode cX3_of 158 = .ok (.ireturn, 1) := by decide +kernel
set_option maxRecDepth 20000 in
theorem ggX3_counted_X3_in : GoodIn wsX3_counted wsX3_in := goodIn_r _ [7] (by decide +kernel) (by decide +kernel)
set_option maxRecDepth 20000 in
theorem gX3_counted_X3_in : GoodIn wsX3_counted (va_wsS RX3 76 yX3_in wsX3_in) := goodIn_app (goodIn_of _ (by decide +kernel)) ggX3_counted_X3_in
theorem dX3_counted_0 : decode cX3_counted 0 = .ok (.aload_n 0, 1) := by decide +kernel
theorem dX3_counted_1 : decode cX3_counted 1 = .ok (.iconst 0, 1) := by decide +kernel
theorem dX3_counted_2 : decode cX3_counted 2 = .ok (.putfield 69, 3) := by decide +kernel
theorem dX3_counted_5 : decode cX3_counted 5 = .ok (.iload_n 1, 1) := by decide +kernel
theorem dX3_counted_6 : decode cX3_counted 6 = .ok (.iconst 0, 1) := by decide +kernel
theorem dX3_counted_7 : decode cX3_counted 7 = .ok (.aload_n 0, 1) := by decide +kernel
theorem dX3_counted_8 : decode cX3_counted 8 = .ok (.getfield 101, 3) := by decide +kernel
theorem dX3_counted_11 : decode cX3_counted 11 = .ok (.iconst 1, 1) := by decide +kernel
theorem dX3_counted_12 : decode cX3_counted 12 = .ok (.isub, 1) := by decide +kernel
theorem dX3_counted_13 : decode cX3_counted 13 = .ok (.invokestatic 76, 3) := by decide +kernel
theorem dX3_counted_16 : decode cX3_counted 16 = .ok (.ifCond .eq 16, 3) := by decide +kernel
theorem dX3_counted_19 : decode cX3_counted 19 = .ok (.aload_n 0, 1) := by decide +kernel
theorem dX3_counted_20 : decode cX3_counted 20 = .ok (.getfield 25, 3) := by decide +kernel
theorem dX3_counted_23 : decode cX3_counted 23 = .ok (.bipush 12, 2) := by decide +kernel
theorem dX3_counted_25 : decode cX3_counted 25 = .ok (.iload_n 1, 1) := by decide +kernel
theorem dX3_counted_26 : decode cX3_counted 26 = .ok (.iadd, 1) := by decide +kernel
theorem dX3_counted_27 : decode cX3_counted 27 = .ok (.laload, 1) := by decide +kernel
theorem dX3_counted_28 : decode cX3_counted 28 = .ok (.l2i, 1) := by decide +kernel
theorem dX3_counted_29 : decode cX3_counted 29 = .ok (.goto 4, 3) := by decide +kernel
theorem dX3_counted_32 : decode cX3_counted 32 = .ok (.iconst (-1), 1) := by decide +kernel
theorem dX3_counted_33 : decode cX3_counted 33 = .ok (.ireturn, 1) := by decide +kernel
theorem dX3_event_0 : decode cX3_event 0 = .ok (.aload_n 0, 1) := by decide +kernel
theorem dX3_event_1 : decode cX3_event 1 = .ok (.iconst 0, 1) := by decide +kernel
theorem dX3_event_2 : decode cX3_event 2 = .ok (.putfield 69, 3) := by decide +kernel
theorem dX3_event_5 : decode cX3_event 5 = .ok (.iload_n 1, 1) := by decide +kernel
theorem dX3_event_6 : decode cX3_event 6 = .ok (.ifCond .lt 23, 3) := by decide +kernel
theorem dX3_event_9 : decode cX3_event 9 = .ok (.iload_n 1, 1) := by decide +kernel
theorem dX3_event_10 : decode cX3_event 10 = .ok (.i2l, 1) := by decide +kernel
theorem dX3_event_11 : decode cX3_event 11 = .ok (.aload_n 0, 1) := by decide +kernel
theorem dX3_event_12 : decode cX3_event 12 = .ok (.getfield 25, 3) := by decide +kernel
theorem dX3_event_15 : decode cX3_event 15 = .ok (.bipush 30, 2) := by decide +kernel
theorem dX3_event_17 : decode cX3_event 17 = .ok (.laload, 1) := by decide +kernel
theorem dX3_event_18 : decode cX3_event 18 = .ok (.lcmp, 1) := by decide +kernel
theorem dX3_event_19 : decode cX3_event 19 = .ok (.ifCond .ge 10, 3) := by decide +kernel
theorem dX3_event_22 : decode cX3_event 22 = .ok (.iload_n 1, 1) := by decide +kernel
theorem dX3_event_23 : decode cX3_event 23 = .ok (.sipush 500, 3) := by decide +kernel
theorem dX3_event_26 : decode cX3_event 26 = .ok (.if_icmp .lt 5, 3) := by decide +kernel
theorem dX3_event_29 : decode cX3_event 29 = .ok (.iconst (-1), 1) := by decide +kernel
theorem dX3_event_30 : decode cX3_event 30 = .ok (.ireturn, 1) := by decide +kernel
theorem dX3_event_31 : decode cX3_event 31 = .ok (.iload_n 2, 1) := by decide +kernel
theorem dX3_event_32 : decode cX3_event 32 = .ok (.tableswitch 62 0 3 #[32, 39, 46, 54], 32) := by decide +kernel
theorem dX3_event_64 : decode cX3_event 64 = .ok (.aload_n 0, 1) := by decide +kernel
theorem dX3_event_65 : decode cX3_event 65 = .ok (.getfield 35, 3) := by decide +kernel
theorem dX3_event_68 : decode cX3_event 68 = .ok (.iload_n 1, 1) := by decide +kernel
theorem dX3_event_69 : decode cX3_event 69 = .ok (.iaload, 1) := by decide +kernel
theorem dX3_event_70 : decode cX3_event 70 = .ok (.ireturn, 1) := by decide +kernel
theorem dX3_event_71 : decode cX3_event 71 = .ok (.aload_n 0, 1) := by decide +kernel
theorem dX3_event_72 : decode cX3_event 72 = .ok (.getfield 38, 3) := by decide +kernel
theorem dX3_event_75 : decode cX3_event 75 = .ok (.iload_n 1, 1) := by decide +kernel
theorem dX3_event_76 : decode cX3_event 76 = .ok (.iaload, 1) := by decide +kernel
theorem dX3_event_77 : decode cX3_event 77 = .ok (.ireturn, 1) := by decide +kernel
theorem dX3_event_78 : decode cX3_event 78 = .ok (.aload_n 0, 1) := by decide +kernel
theorem dX3_event_79 : decode cX3_event 79 = .ok (.getfield 41, 3) := by decide +kernel
theorem dX3_event_82 : decode cX3_event 82 = .ok (.iload_n 1, 1) := by decide +kernel
theorem dX3_event_83 : decode cX3_event 83 = .ok (.laload, 1) := by decide +kernel
theorem dX3_event_84 : decode cX3_event 84 = .ok (.l2i, 1) := by decide +kernel
theorem dX3_event_85 : decode cX3_event 85 = .ok (.ireturn, 1) := by decide +kernel
theorem dX3_event_86 : decode cX3_event 86 = .ok (.aload_n 0, 1) := by decide +kernel
theorem dX3_event_87 : decode cX3_event 87 = .ok (.getfield 44, 3) := by decide +kernel
theorem dX3_event_90 : decode cX3_event 90 = .ok (.iload_n 1, 1) := by decide +kernel
theorem dX3_event_91 : decode cX3_event 91 = .ok (.laload, 1) := by decide +kernel
theorem dX3_event_92 : decode cX3_event 92 = .ok (.l2i, 1) := by decide +kernel
theorem dX3_event_93 : decode cX3_event 93 = .ok (.ireturn, 1) := by decide +kernel
theorem dX3_event_94 : decode cX3_event 94 = .ok (.iconst (-1), 1) := by decide +kernel
theorem dX3_event_95 : decode cX3_event 95 = .ok (.ireturn, 1) := by decide +kernel
theorem dX3_areAlike_0 : decode cX3_areAlike 0 = .ok (.iconst 0, 1) := by decide +kernel
theorem dX3_areAlike_1 : decode cX3_areAlike 1 = .ok (.istore_n 3, 1) := by decide +kernel
theorem dX3_areAlike_2 : decode cX3_areAlike 2 = .ok (.iload_n 3, 1) := by decide +kernel
theorem dX3_areAlike_3 : decode cX3_areAlike 3 = .ok (.bipush 20, 2) := by decide +kernel
theorem dX3_areAlike_5 : decode cX3_areAlike 5 = .ok (.if_icmp .ge 37, 3) := by decide +kernel
theorem dX3_areAlike_8 : decode cX3_areAlike 8 = .ok (.aload_n 0, 1) := by decide +kernel
theorem dX3_areAlike_9 : decode cX3_areAlike 9 = .ok (.getfield 51, 3) := by decide +kernel
theorem dX3_areAlike_12 : decode cX3_areAlike 12 = .ok (.bipush 31, 2) := by decide +kernel
theorem dX3_areAlike_14 : decode cX3_areAlike 14 = .ok (.iload_n 1, 1) := by decide +kernel
theorem dX3_areAlike_15 : decode cX3_areAlike 15 = .ok (.imul, 1) := by decide +kernel
theorem dX3_areAlike_16 : decode cX3_areAlike 16 = .ok (.iload_n 3, 1) := by decide +kernel
theorem dX3_areAlike_17 : decode cX3_areAlike 17 = .ok (.iadd, 1) := by decide +kernel
theorem dX3_areAlike_18 : decode cX3_areAlike 18 = .ok (.laload, 1) := by decide +kernel
theorem dX3_areAlike_19 : decode cX3_areAlike 19 = .ok (.aload_n 0, 1) := by decide +kernel
theorem dX3_areAlike_20 : decode cX3_areAlike 20 = .ok (.getfield 51, 3) := by decide +kernel
theorem dX3_areAlike_23 : decode cX3_areAlike 23 = .ok (.bipush 31, 2) := by decide +kernel
theorem dX3_areAlike_25 : decode cX3_areAlike 25 = .ok (.iload_n 2, 1) := by decide +kernel
theorem dX3_areAlike_26 : decode cX3_areAlike 26 = .ok (.imul, 1) := by decide +kernel
theorem dX3_areAlike_27 : decode cX3_areAlike 27 = .ok (.iload_n 3, 1) := by decide +kernel
theorem dX3_areAlike_28 : decode cX3_areAlike 28 = .ok (.iadd, 1) := by decide +kernel
theorem dX3_areAlike_29 : decode cX3_areAlike 29 = .ok (.laload, 1) := by decide +kernel
theorem dX3_areAlike_30 : decode cX3_areAlike 30 = .ok (.lcmp, 1) := by decide +kernel
theorem dX3_areAlike_31 : decode cX3_areAlike 31 = .ok (.ifCond .eq 5, 3) := by decide +kernel
theorem dX3_areAlike_34 : decode cX3_areAlike 34 = .ok (.iconst 0, 1) := by decide +kernel
theorem dX3_areAlike_35 : decode cX3_areAlike 35 = .ok (.ireturn, 1) := by decide +kernel
theorem dX3_areAlike_36 : decode cX3_areAlike 36 = .ok (.iinc 3 1, 3) := by decide +kernel
theorem dX3_areAlike_39 : decode cX3_areAlike 39 = .ok (.goto (-37), 3) := by decide +kernel
theorem dX3_areAlike_42 : decode cX3_areAlike 42 = .ok (.iconst 1, 1) := by decide +kernel
theorem dX3_areAlike_43 : decode cX3_areAlike 43 = .ok (.ireturn, 1) := by decide +kernel
theorem dX3_keep_0 : decode cX3_keep 0 = .ok (.iconst 0, 1) := by decide +kernel
theorem dX3_keep_1 : decode cX3_keep 1 = .ok (.istore_n 2, 1) := by decide +kernel
theorem dX3_keep_2 : decode cX3_keep 2 = .ok (.iload_n 2, 1) := by decide +kernel
theorem dX3_keep_3 : decode cX3_keep 3 = .ok (.bipush 31, 2) := by decide +kernel
theorem dX3_keep_5 : decode cX3_keep 5 = .ok (.if_icmp .ge 26, 3) := by decide +kernel
theorem dX3_keep_8 : decode cX3_keep 8 = .ok (.aload_n 0, 1) := by decide +kernel
theorem dX3_keep_9 : decode cX3_keep 9 = .ok (.getfield 51, 3) := by decide +kernel
theorem dX3_keep_12 : decode cX3_keep 12 = .ok (.bipush 31, 2) := by decide +kernel
theorem dX3_keep_14 : decode cX3_keep 14 = .ok (.iload_n 1, 1) := by decide +kernel
theorem dX3_keep_15 : decode cX3_keep 15 = .ok (.imul, 1) := by decide +kernel
theorem dX3_keep_16 : decode cX3_keep 16 = .ok (.iload_n 2, 1) := by decide +kernel
theorem dX3_keep_17 : decode cX3_keep 17 = .ok (.iadd, 1) := by decide +kernel
theorem dX3_keep_18 : decode cX3_keep 18 = .ok (.aload_n 0, 1) := by decide +kernel
theorem dX3_keep_19 : decode cX3_keep 19 = .ok (.getfield 25, 3) := by decide +kernel
theorem dX3_keep_22 : decode cX3_keep 22 = .ok (.iload_n 2, 1) := by decide +kernel
theorem dX3_keep_23 : decode cX3_keep 23 = .ok (.laload, 1) := by decide +kernel
theorem dX3_keep_24 : decode cX3_keep 24 = .ok (.lastore, 1) := by decide +kernel
theorem dX3_keep_25 : decode cX3_keep 25 = .ok (.iinc 2 1, 3) := by decide +kernel
theorem dX3_keep_28 : decode cX3_keep 28 = .ok (.goto (-26), 3) := by decide +kernel
theorem dX3_keep_31 : decode cX3_keep 31 = .ok (.return_, 1) := by decide +kernel
set_option maxRecDepth 20000 in
theorem ggX3_seek_X3_keep : GoodIn wsX3_seek wsX3_keep := goodIn_r _ [5, 6, 7, 78, 79, 80, 81, 82, 83, 84, 85, 86, 87, 88, 89, 90, 91, 92, 93, 94, 95, 96, 97, 98, 99, 100, 101, 102, 103, 104, 105] (by decide +kernel) (by decide +kernel)
set_option maxRecDepth 20000 in
theorem gX3_seek_X3_keep : GoodIn wsX3_seek (wsV RX3 159 RX3 yX3_keep wsX3_keep) := goodIn_app (goodIn_of _ (by decide +kernel)) ggX3_seek_X3_keep
set_option maxRecDepth 20000 in
theorem ggX3_seek_X3_step : GoodIn wsX3_seek wsX3_step := goodIn_r _ [11, 12, 7, 13, 14, 15, 16, 17, 18, 19, 20, 21, 22, 23, 24, 25, 26, 27, 28, 4, 29, 30, 31, 32, 33, 34, 35, 36, 37, 38, 39, 40, 41, 42, 43, 44, 45, 46, 47, 48, 49, 50, 51, 52, 53, 54, 55, 56, 57, 58, 59, 60, 61, 62, 63, 64, 65, 66, 67, 78, 79, 80, 81, 82, 83, 84, 85, 86, 87, 88, 89, 90, 91, 92, 93, 94, 95, 96, 97, 98, 99, 100, 101, 102, 103, 104, 105] (by decide +kernel) (by decide +kernel)
set_option maxRecDepth 20000 in
theorem gX3_seek_X3_step : GoodIn wsX3_seek (wsV RX3 143 RX3 yX3_step wsX3_step) := goodIn_app (goodIn_of _ (by decide +kernel)) ggX3_seek_X3_step
set_option maxRecDepth 20000 in
theorem ggX3_seek_X3_areAlike : GoodIn wsX3_seek wsX3_areAlike := goodIn_r _ [71, 6, 78, 79, 80, 81, 82, 83, 84, 85, 86, 87, 88, 89, 90, 91, 92, 93, 94, 95, 96, 97, 98, 99, 100, 101, 102, 103, 104, 105] (by decide +kernel) (by decide +kernel)
set_option maxRecDepth 20000 in
theorem gX3_seek_X3_areAlike : GoodIn wsX3_seek (wsV RX3 162 RX3 yX3_areAlike wsX3_areAlike) := goodIn_app (goodIn_of _ (by decide +kernel)) ggX3_seek_X3_areAlike
set_option maxRecDepth 20000 in
theorem ggX3_seek_X3_tell : GoodIn wsX3_seek wsX3_tell := goodIn_r _ [75, 76, 6, 77, 14, 15, 40, 41, 42, 4, 43, 44, 45, 46, 47, 48, 49, 50, 78, 79, 80, 81, 82, 83, 84, 85, 86, 87, 88, 89, 90, 91, 92, 93, 94, 95, 96, 97, 98, 99, 100, 101, 102, 103, 104, 105] (by decide +kernel) (by decide +kernel)
set_option maxRecDepth 20000 in
theorem gX3_seek_X3_tell : GoodIn wsX3_seek (wsV RX3 166 RX3 yX3_tell wsX3_tell) := goodIn_app (goodIn_of _ (by decide +kernel)) ggX3_seek_X3_tell
theorem dX3_seek_0 : decode cX3_seek 0 = .ok (.aload_n 0, 1) := by decide +kernel
theorem dX3_seek_1 : decode cX3_seek 1 = .ok (.iconst 0, 1) := by decide +kernel
theorem dX3_seek_2 : decode cX3_seek 2 = .ok (.invokevirtual 159, 3) := by decide +kernel
theorem dX3_seek_5 : decode cX3_seek 5 = .ok (.iconst 1, 1) := by decide +kernel
theorem dX3_seek_6 : decode cX3_seek 6 = .ok (.istore_n 2, 1) := by decide +kernel
theorem dX3_seek_7 : decode cX3_seek 7 = .ok (.iload_n 2, 1) := by decide +kernel
theorem dX3_seek_8 : decode cX3_seek 8 = .ok (.iload_n 1, 1) := by decide +kernel
theorem dX3_seek_9 : decode cX3_seek 9 = .ok (.if_icmp .gt 59, 3) := by decide +kernel
theorem dX3_seek_12 : decode cX3_seek 12 = .ok (.aload_n 0, 1) := by decide +kernel
theorem dX3_seek_13 : decode cX3_seek 13 = .ok (.invokevirtual 143, 3) := by decide +kernel
theorem dX3_seek_16 : decode cX3_seek 16 = .ok (.ifCond .ne 6, 3) := by decide +kernel
theorem dX3_seek_19 : decode cX3_seek 19 = .ok (.bipush (-3), 2) := by decide +kernel
theorem dX3_seek_21 : decode cX3_seek 21 = .ok (.ireturn, 1) := by decide +kernel
theorem dX3_seek_22 : decode cX3_seek 22 = .ok (.aload_n 0, 1) := by decide +kernel
theorem dX3_seek_23 : decode cX3_seek 23 = .ok (.iload_n 2, 1) := by decide +kernel
theorem dX3_seek_24 : decode cX3_seek 24 = .ok (.invokevirtual 159, 3) := by decide +kernel
theorem dX3_seek_27 : decode cX3_seek 27 = .ok (.iconst 0, 1) := by decide +kernel
theorem dX3_seek_28 : decode cX3_seek 28 = .ok (.istore_n 3, 1) := by decide +kernel
theorem dX3_seek_29 : decode cX3_seek 29 = .ok (.iload_n 3, 1) := by decide +kernel
theorem dX3_seek_30 : decode cX3_seek 30 = .ok (.iload_n 2, 1) := by decide +kernel
theorem dX3_seek_31 : decode cX3_seek 31 = .ok (.if_icmp .ge 31, 3) := by decide +kernel
theorem dX3_seek_34 : decode cX3_seek 34 = .ok (.aload_n 0, 1) := by decide +kernel
theorem dX3_seek_35 : decode cX3_seek 35 = .ok (.iload_n 3, 1) := by decide +kernel
theorem dX3_seek_36 : decode cX3_seek 36 = .ok (.iload_n 2, 1) := by decide +kernel
theorem dX3_seek_37 : decode cX3_seek 37 = .ok (.invokevirtual 162, 3) := by decide +kernel
theorem dX3_seek_40 : decode cX3_seek 40 = .ok (.ifCond .ne 6, 3) := by decide +kernel
theorem dX3_seek_43 : decode cX3_seek 43 = .ok (.goto 13, 3) := by decide +kernel
theorem dX3_seek_46 : decode cX3_seek 46 = .ok (.aload_n 0, 1) := by decide +kernel
theorem dX3_seek_47 : decode cX3_seek 47 = .ok (.iload_n 3, 1) := by decide +kernel
theorem dX3_seek_48 : decode cX3_seek 48 = .ok (.iload_n 2, 1) := by decide +kernel
theorem dX3_seek_49 : decode cX3_seek 49 = .ok (.invokevirtual 166, 3) := by decide +kernel
theorem dX3_seek_52 : decode cX3_seek 52 = .ok (.iload_n 2, 1) := by decide +kernel
theorem dX3_seek_53 : decode cX3_seek 53 = .ok (.iload_n 3, 1) := by decide +kernel
theorem dX3_seek_54 : decode cX3_seek 54 = .ok (.isub, 1) := by decide +kernel
theorem dX3_seek_55 : decode cX3_seek 55 = .ok (.ireturn, 1) := by decide +kernel
theorem dX3_seek_56 : decode cX3_seek 56 = .ok (.iinc 3 1, 3) := by decide +kernel
theorem dX3_seek_59 : decode cX3_seek 59 = .ok (.goto (-30), 3) := by decide +kernel
theorem dX3_seek_62 : decode cX3_seek 62 = .ok (.iinc 2 1, 3) := by decide +kernel
theorem dX3_seek_65 : decode cX3_seek 65 = .ok (.goto (-58), 3) := by decide +kernel
theorem dX3_seek_68 : decode cX3_seek 68 = .ok (.bipush (-2), 2) := by decide +kernel
theorem dX3_seek_70 : decode cX3_seek 70 = .ok (.ireturn, 1) := by decide +kernel
set_option maxRecDepth 20000 in
theorem ggX3_tell_X3_make : GoodIn wsX3_tell wsX3_make := goodIn_r _ [10, 11, 12, 13, 14, 4, 5, 15, 16, 9, 17, 18, 19, 20, 21, 22, 23, 24, 25, 26, 27, 28, 29, 30, 31, 32, 33, 34, 35, 36, 37, 38, 39, 40, 41, 42, 43, 44, 45] (by decide +kernel) (by decide +kernel)
set_option maxRecDepth 20000 in
theorem gX3_tell_X3_make : GoodIn wsX3_tell (wsV RX3 107 RX3 yX3_make wsX3_make) := goodIn_app (goodIn_of _ (by decide +kernel)) ggX3_tell_X3_make
theorem dX3_tell_0 : decode cX3_tell 0 = .ok (.bipush 31, 2) := by decide +kernel
theorem dX3_tell_2 : decode cX3_tell 2 = .ok (.iload_n 1, 1) := by decide +kernel
theorem dX3_tell_3 : decode cX3_tell 3 = .ok (.imul, 1) := by decide +kernel
theorem dX3_tell_4 : decode cX3_tell 4 = .ok (.istore_n 3, 1) := by decide +kernel
theorem dX3_tell_5 : decode cX3_tell 5 = .ok (.bipush 31, 2) := by decide +kernel
theorem dX3_tell_7 : decode cX3_tell 7 = .ok (.iload_n 2, 1) := by decide +kernel
theorem dX3_tell_8 : decode cX3_tell 8 = .ok (.imul, 1) := by decide +kernel
theorem dX3_tell_9 : decode cX3_tell 9 = .ok (.istore 4, 2) := by decide +kernel
theorem dX3_tell_11 : decode cX3_tell 11 = .ok (.aload_n 0, 1) := by decide +kernel
theorem dX3_tell_12 : decode cX3_tell 12 = .ok (.iconst 1, 1) := by decide +kernel
theorem dX3_tell_13 : decode cX3_tell 13 = .ok (.putfield 170, 3) := by decide +kernel
theorem dX3_tell_16 : decode cX3_tell 16 = .ok (.aload_n 0, 1) := by decide +kernel
theorem dX3_tell_17 : decode cX3_tell 17 = .ok (.aload_n 0, 1) := by decide +kernel
theorem dX3_tell_18 : decode cX3_tell 18 = .ok (.getfield 51, 3) := by decide +kernel
theorem dX3_tell_21 : decode cX3_tell 21 = .ok (.iload 4, 2) := by decide +kernel
theorem dX3_tell_23 : decode cX3_tell 23 = .ok (.bipush 20, 2) := by decide +kernel
theorem dX3_tell_25 : decode cX3_tell 25 = .ok (.iadd, 1) := by decide +kernel
theorem dX3_tell_26 : decode cX3_tell 26 = .ok (.laload, 1) := by decide +kernel
theorem dX3_tell_27 : decode cX3_tell 27 = .ok (.aload_n 0, 1) := by decide +kernel
theorem dX3_tell_28 : decode cX3_tell 28 = .ok (.getfield 51, 3) := by decide +kernel
theorem dX3_tell_31 : decode cX3_tell 31 = .ok (.iload_n 3, 1) := by decide +kernel
theorem dX3_tell_32 : decode cX3_tell 32 = .ok (.bipush 20, 2) := by decide +kernel
theorem dX3_tell_34 : decode cX3_tell 34 = .ok (.iadd, 1) := by decide +kernel
theorem dX3_tell_35 : decode cX3_tell 35 = .ok (.iconst 1, 1) := by decide +kernel
theorem dX3_tell_36 : decode cX3_tell 36 = .ok (.iadd, 1) := by decide +kernel
theorem dX3_tell_37 : decode cX3_tell 37 = .ok (.laload, 1) := by decide +kernel
theorem dX3_tell_38 : decode cX3_tell 38 = .ok (.lmul, 1) := by decide +kernel
theorem dX3_tell_39 : decode cX3_tell 39 = .ok (.aload_n 0, 1) := by decide +kernel
theorem dX3_tell_40 : decode cX3_tell 40 = .ok (.getfield 51, 3) := by decide +kernel
theorem dX3_tell_43 : decode cX3_tell 43 = .ok (.iload_n 3, 1) := by decide +kernel
theorem dX3_tell_44 : decode cX3_tell 44 = .ok (.bipush 20, 2) := by decide +kernel
theorem dX3_tell_46 : decode cX3_tell 46 = .ok (.iadd, 1) := by decide +kernel
theorem dX3_tell_47 : decode cX3_tell 47 = .ok (.laload, 1) := by decide +kernel
theorem dX3_tell_48 : decode cX3_tell 48 = .ok (.aload_n 0, 1) := by decide +kernel
theorem dX3_tell_49 : decode cX3_tell 49 = .ok (.getfield 51, 3) := by decide +kernel
theorem dX3_tell_52 : decode cX3_tell 52 = .ok (.iload 4, 2) := by decide +kernel
theorem dX3_tell_54 : decode cX3_tell 54 = .ok (.bipush 20, 2) := by decide +kernel
theorem dX3_tell_56 : decode cX3_tell 56 = .ok (.iadd, 1) := by decide +kernel
theorem dX3_tell_57 : decode cX3_tell 57 = .ok (.iconst 1, 1) := by decide +kernel
theorem dX3_tell_58 : decode cX3_tell 58 = .ok (.iadd, 1) := by decide +kernel
theorem dX3_tell_59 : decode cX3_tell 59 = .ok (.laload, 1) := by decide +kernel
theorem dX3_tell_60 : decode cX3_tell 60 = .ok (.lmul, 1) := by decide +kernel
theorem dX3_tell_61 : decode cX3_tell 61 = .ok (.lsub, 1) := by decide +kernel
theorem dX3_tell_62 : decode cX3_tell 62 = .ok (.aload_n 0, 1) := by decide +kernel
theorem dX3_tell_63 : decode cX3_tell 63 = .ok (.getfield 51, 3) := by decide +kernel
theorem dX3_tell_66 : decode cX3_tell 66 = .ok (.iload_n 3, 1) := by decide +kernel
theorem dX3_tell_67 : decode cX3_tell 67 = .ok (.bipush 20, 2) := by decide +kernel
theorem dX3_tell_69 : decode cX3_tell 69 = .ok (.iadd, 1) := by decide +kernel
theorem dX3_tell_70 : decode cX3_tell 70 = .ok (.iconst 1, 1) := by decide +kernel
theorem dX3_tell_71 : decode cX3_tell 71 = .ok (.iadd, 1) := by decide +kernel
theorem dX3_tell_72 : decode cX3_tell 72 = .ok (.laload, 1) := by decide +kernel
theorem dX3_tell_73 : decode cX3_tell 73 = .ok (.aload_n 0, 1) := by decide +kernel
theorem dX3_tell_74 : decode cX3_tell 74 = .ok (.getfield 51, 3) := by decide +kernel
theorem dX3_tell_77 : decode cX3_tell 77 = .ok (.iload 4, 2) := by decide +kernel
theorem dX3_tell_79 : decode cX3_tell 79 = .ok (.bipush 20, 2) := by decide +kernel
theorem dX3_tell_81 : decode cX3_tell 81 = .ok (.iadd, 1) := by decide +kernel
theorem dX3_tell_82 : decode cX3_tell 82 = .ok (.iconst 1, 1) := by decide +kernel
theorem dX3_tell_83 : decode cX3_tell 83 = .ok (.iadd, 1) := by decide +kernel
theorem dX3_tell_84 : decode cX3_tell 84 = .ok (.laload, 1) := by decide +kernel
theorem dX3_tell_85 : decode cX3_tell 85 = .ok (.lmul, 1) := by decide +kernel
theorem dX3_tell_86 : decode cX3_tell 86 = .ok (.invokevirtual 107, 3) := by decide +kernel
theorem dX3_tell_89 : decode cX3_tell 89 = .ok (.aload_n 0, 1) := by decide +kernel
theorem dX3_tell_90 : decode cX3_tell 90 = .ok (.getfield 54, 3) := by decide +kernel
theorem dX3_tell_93 : decode cX3_tell 93 = .ok (.iconst 0, 1) := by decide +kernel
theorem dX3_tell_94 : decode cX3_tell 94 = .ok (.iload_n 1, 1) := by decide +kernel
theorem dX3_tell_95 : decode cX3_tell 95 = .ok (.i2l, 1) := by decide +kernel
theorem dX3_tell_96 : decode cX3_tell 96 = .ok (.lastore, 1) := by decide +kernel
theorem dX3_tell_97 : decode cX3_tell 97 = .ok (.aload_n 0, 1) := by decide +kernel
theorem dX3_tell_98 : decode cX3_tell 98 = .ok (.getfield 54, 3) := by decide +kernel
theorem dX3_tell_101 : decode cX3_tell 101 = .ok (.iconst 1, 1) := by decide +kernel
theorem dX3_tell_102 : decode cX3_tell 102 = .ok (.iload_n 2, 1) := by decide +kernel
theorem dX3_tell_103 : decode cX3_tell 103 = .ok (.iload_n 1, 1) := by decide +kernel
theorem dX3_tell_104 : decode cX3_tell 104 = .ok (.isub, 1) := by decide +kernel
theorem dX3_tell_105 : decode cX3_tell 105 = .ok (.i2l, 1) := by decide +kernel
theorem dX3_tell_106 : decode cX3_tell 106 = .ok (.lastore, 1) := by decide +kernel
theorem dX3_tell_107 : decode cX3_tell 107 = .ok (.aload_n 0, 1) := by decide +kernel
theorem dX3_tell_108 : decode cX3_tell 108 = .ok (.getfield 54, 3) := by decide +kernel
theorem dX3_tell_111 : decode cX3_tell 111 = .ok (.iconst 2, 1) := by decide +kernel
theorem dX3_tell_112 : decode cX3_tell 112 = .ok (.aload_n 0, 1) := by decide +kernel
theorem dX3_tell_113 : decode cX3_tell 113 = .ok (.getfield 90, 3) := by decide +kernel
theorem dX3_tell_116 : decode cX3_tell 116 = .ok (.lastore, 1) := by decide +kernel
theorem dX3_tell_117 : decode cX3_tell 117 = .ok (.aload_n 0, 1) := by decide +kernel
theorem dX3_tell_118 : decode cX3_tell 118 = .ok (.getfield 54, 3) := by decide +kernel
theorem dX3_tell_121 : decode cX3_tell 121 = .ok (.iconst 3, 1) := by decide +kernel
theorem dX3_tell_122 : decode cX3_tell 122 = .ok (.aload_n 0, 1) := by decide +kernel
theorem dX3_tell_123 : decode cX3_tell 123 = .ok (.getfield 94, 3) := by decide +kernel
theorem dX3_tell_126 : decode cX3_tell 126 = .ok (.lastore, 1) := by decide +kernel
theorem dX3_tell_127 : decode cX3_tell 127 = .ok (.iconst 0, 1) := by decide +kernel
theorem dX3_tell_128 : decode cX3_tell 128 = .ok (.istore 5, 2) := by decide +kernel
theorem dX3_tell_130 : decode cX3_tell 130 = .ok (.iload 5, 2) := by decide +kernel
theorem dX3_tell_132 : decode cX3_tell 132 = .ok (.iconst 4, 1) := by decide +kernel
theorem dX3_tell_133 : decode cX3_tell 133 = .ok (.if_icmp .ge 44, 3) := by decide +kernel
theorem dX3_tell_136 : decode cX3_tell 136 = .ok (.aload_n 0, 1) := by decide +kernel
theorem dX3_tell_137 : decode cX3_tell 137 = .ok (.getfield 54, 3) := by decide +kernel
theorem dX3_tell_140 : decode cX3_tell 140 = .ok (.iconst 4, 1) := by decide +kernel
theorem dX3_tell_141 : decode cX3_tell 141 = .ok (.iload 5, 2) := by decide +kernel
theorem dX3_tell_143 : decode cX3_tell 143 = .ok (.iadd, 1) := by decide +kernel
theorem dX3_tell_144 : decode cX3_tell 144 = .ok (.aload_n 0, 1) := by decide +kernel
end
section
theorem dX3_tell_145 : decode cX3_tell 145 = .ok (.getfield 51, 3) := by decide +kernel
theorem dX3_tell_148 : decode cX3_tell 148 = .ok (.iload 4, 2) := by decide +kernel
theorem dX3_tell_150 : decode cX3_tell 150 = .ok (.bipush 22, 2) := by decide +kernel
theorem dX3_tell_152 : decode cX3_tell 152 = .ok (.iadd, 1) := by decide +kernel
theorem dX3_tell_153 : decode cX3_tell 153 = .ok (.iload 5, 2) := by decide +kernel
theorem dX3_tell_155 : decode cX3_tell 155 = .ok (.iadd, 1) := by decide +kernel
theorem dX3_tell_156 : decode cX3_tell 156 = .ok (.laload, 1) := by decide +kernel
theorem dX3_tell_157 : decode cX3_tell 157 = .ok (.aload_n 0, 1) := by decide +kernel
theorem dX3_tell_158 : decode cX3_tell 158 = .ok (.getfield 51, 3) := by decide +kernel
theorem dX3_tell_161 : decode cX3_tell 161 = .ok (.iload_n 3, 1) := by decide +kernel
theorem dX3_tell_162 : decode cX3_tell 162 = .ok (.bipush 22, 2) := by decide +kernel
theorem dX3_tell_164 : decode cX3_tell 164 = .ok (.iadd, 1) := by decide +kernel
theorem dX3_tell_165 : decode cX3_tell 165 = .ok (.iload 5, 2) := by decide +kernel
theorem dX3_tell_167 : decode cX3_tell 167 = .ok (.iadd, 1) := by decide +kernel
theorem dX3_tell_168 : decode cX3_tell 168 = .ok (.laload, 1) := by decide +kernel
theorem dX3_tell_169 : decode cX3_tell 169 = .ok (.lsub, 1) := by decide +kernel
theorem dX3_tell_170 : decode cX3_tell 170 = .ok (.lastore, 1) := by decide +kernel
theorem dX3_tell_171 : decode cX3_tell 171 = .ok (.iinc 5 1, 3) := by decide +kernel
theorem dX3_tell_174 : decode cX3_tell 174 = .ok (.goto (-44), 3) := by decide +kernel
theorem dX3_tell_177 : decode cX3_tell 177 = .ok (.return_, 1) := by decide +kernel
set_option maxRecDepth 20000 in
theorem ggX3_ring_X3_in : GoodIn wsX3_ring wsX3_in := goodIn_r _ [9] (by decide +kernel) (by decide +kernel)
set_option maxRecDepth 20000 in
theorem gX3_ring_X3_in : GoodIn wsX3_ring (va_wsS RX3 76 yX3_in wsX3_in) := goodIn_app (goodIn_of _ (by decide +kernel)) ggX3_ring_X3_in
set_option maxRecDepth 20000 in
theorem ggX3_ring_X3_copy : GoodIn wsX3_ring wsX3_copy := goodIn_r _ [12] (by decide +kernel) (by decide +kernel)
set_option maxRecDepth 20000 in
theorem gX3_ring_X3_copy : GoodIn wsX3_ring (va_wsS RX3 117 yX3_copy wsX3_copy) := goodIn_app (goodIn_of _ (by decide +kernel)) ggX3_ring_X3_copy
set_option maxRecDepth 20000 in
theorem ggX3_ring_X3_seek : GoodIn wsX3_ring wsX3_seek := goodIn_r _ [16, 17, 18, 19, 8, 20, 21, 3, 22, 23, 24, 25, 2, 26, 27, 28, 29, 30, 31, 32, 33, 5, 34, 35, 36, 37, 38, 10, 11, 12, 39, 40, 41, 42, 43, 44, 45, 46, 47, 48, 49, 50, 51, 52, 53, 54, 55, 56, 57, 58, 59, 60, 61, 62, 63, 64, 65, 66, 67, 68, 69, 70, 71, 72, 73, 74, 75, 76, 77, 78, 79, 80, 81, 82, 83, 84, 85, 86, 87, 88, 89, 90, 91, 92, 93, 94, 95, 96, 97, 98, 99, 100, 101, 102, 103, 104, 105, 106, 107, 108, 109, 110, 111, 112, 113, 114] (by decide +kernel) (by decide +kernel)
set_option maxRecDepth 20000 in
theorem gX3_ring_X3_seek : GoodIn wsX3_ring (wsV RX3 173 RX3 yX3_seek wsX3_seek) := goodIn_app (goodIn_of _ (by decide +kernel)) ggX3_ring_X3_seek
theorem dX3_ring_0 : decode cX3_ring 0 = .ok (.aload_n 0, 1) := by decide +kernel
theorem dX3_ring_1 : decode cX3_ring 1 = .ok (.iconst 0, 1) := by decide +kernel
theorem dX3_ring_2 : decode cX3_ring 2 = .ok (.putfield 69, 3) := by decide +kernel
theorem dX3_ring_5 : decode cX3_ring 5 = .ok (.iload_n 1, 1) := by decide +kernel
theorem dX3_ring_6 : decode cX3_ring 6 = .ok (.iconst 1, 1) := by decide +kernel
theorem dX3_ring_7 : decode cX3_ring 7 = .ok (.sipush 300, 3) := by decide +kernel
theorem dX3_ring_10 : decode cX3_ring 10 = .ok (.invokestatic 76, 3) := by decide +kernel
theorem dX3_ring_13 : decode cX3_ring 13 = .ok (.ifCond .eq 10, 3) := by decide +kernel
theorem dX3_ring_16 : decode cX3_ring 16 = .ok (.aload_n 0, 1) := by decide +kernel
theorem dX3_ring_17 : decode cX3_ring 17 = .ok (.getfield 73, 3) := by decide +kernel
theorem dX3_ring_20 : decode cX3_ring 20 = .ok (.ifCond .ne 5, 3) := by decide +kernel
theorem dX3_ring_23 : decode cX3_ring 23 = .ok (.iconst (-1), 1) := by decide +kernel
theorem dX3_ring_24 : decode cX3_ring 24 = .ok (.ireturn, 1) := by decide +kernel
theorem dX3_ring_25 : decode cX3_ring 25 = .ok (.aload_n 0, 1) := by decide +kernel
theorem dX3_ring_26 : decode cX3_ring 26 = .ok (.getfield 25, 3) := by decide +kernel
theorem dX3_ring_29 : decode cX3_ring 29 = .ok (.aload_n 0, 1) := by decide +kernel
theorem dX3_ring_30 : decode cX3_ring 30 = .ok (.getfield 32, 3) := by decide +kernel
theorem dX3_ring_33 : decode cX3_ring 33 = .ok (.invokestatic 117, 3) := by decide +kernel
theorem dX3_ring_36 : decode cX3_ring 36 = .ok (.aload_n 0, 1) := by decide +kernel
theorem dX3_ring_37 : decode cX3_ring 37 = .ok (.iconst 0, 1) := by decide +kernel
theorem dX3_ring_38 : decode cX3_ring 38 = .ok (.putfield 47, 3) := by decide +kernel
theorem dX3_ring_41 : decode cX3_ring 41 = .ok (.aload_n 0, 1) := by decide +kernel
theorem dX3_ring_42 : decode cX3_ring 42 = .ok (.iload_n 1, 1) := by decide +kernel
theorem dX3_ring_43 : decode cX3_ring 43 = .ok (.invokevirtual 173, 3) := by decide +kernel
theorem dX3_ring_46 : decode cX3_ring 46 = .ok (.istore_n 2, 1) := by decide +kernel
theorem dX3_ring_47 : decode cX3_ring 47 = .ok (.aload_n 0, 1) := by decide +kernel
theorem dX3_ring_48 : decode cX3_ring 48 = .ok (.iconst 1, 1) := by decide +kernel
theorem dX3_ring_49 : decode cX3_ring 49 = .ok (.putfield 47, 3) := by decide +kernel
theorem dX3_ring_52 : decode cX3_ring 52 = .ok (.aload_n 0, 1) := by decide +kernel
theorem dX3_ring_53 : decode cX3_ring 53 = .ok (.getfield 32, 3) := by decide +kernel
theorem dX3_ring_56 : decode cX3_ring 56 = .ok (.aload_n 0, 1) := by decide +kernel
theorem dX3_ring_57 : decode cX3_ring 57 = .ok (.getfield 25, 3) := by decide +kernel
theorem dX3_ring_60 : decode cX3_ring 60 = .ok (.invokestatic 117, 3) := by decide +kernel
theorem dX3_ring_63 : decode cX3_ring 63 = .ok (.iload_n 2, 1) := by decide +kernel
theorem dX3_ring_64 : decode cX3_ring 64 = .ok (.ireturn, 1) := by decide +kernel
set_option maxRecDepth 20000 in
theorem ggX3_ringed_X3_in : GoodIn wsX3_ringed wsX3_in := goodIn_r _ [8] (by decide +kernel) (by decide +kernel)
set_option maxRecDepth 20000 in
theorem gX3_ringed_X3_in : GoodIn wsX3_ringed (va_wsS RX3 76 yX3_in wsX3_in) := goodIn_app (goodIn_of _ (by decide +kernel)) ggX3_ringed_X3_in
theorem dX3_ringed_0 : decode cX3_ringed 0 = .ok (.aload_n 0, 1) := by decide +kernel
theorem dX3_ringed_1 : decode cX3_ringed 1 = .ok (.iconst 0, 1) := by decide +kernel
theorem dX3_ringed_2 : decode cX3_ringed 2 = .ok (.putfield 69, 3) := by decide +kernel
theorem dX3_ringed_5 : decode cX3_ringed 5 = .ok (.aload_n 0, 1) := by decide +kernel
theorem dX3_ringed_6 : decode cX3_ringed 6 = .ok (.getfield 170, 3) := by decide +kernel
theorem dX3_ringed_9 : decode cX3_ringed 9 = .ok (.ifCond .eq 22, 3) := by decide +kernel
theorem dX3_ringed_12 : decode cX3_ringed 12 = .ok (.iload_n 1, 1) := by decide +kernel
theorem dX3_ringed_13 : decode cX3_ringed 13 = .ok (.iconst 0, 1) := by decide +kernel
theorem dX3_ringed_14 : decode cX3_ringed 14 = .ok (.bipush 7, 2) := by decide +kernel
theorem dX3_ringed_16 : decode cX3_ringed 16 = .ok (.invokestatic 76, 3) := by decide +kernel
theorem dX3_ringed_19 : decode cX3_ringed 19 = .ok (.ifCond .eq 12, 3) := by decide +kernel
theorem dX3_ringed_22 : decode cX3_ringed 22 = .ok (.aload_n 0, 1) := by decide +kernel
theorem dX3_ringed_23 : decode cX3_ringed 23 = .ok (.getfield 54, 3) := by decide +kernel
theorem dX3_ringed_26 : decode cX3_ringed 26 = .ok (.iload_n 1, 1) := by decide +kernel
theorem dX3_ringed_27 : decode cX3_ringed 27 = .ok (.laload, 1) := by decide +kernel
theorem dX3_ringed_28 : decode cX3_ringed 28 = .ok (.goto 6, 3) := by decide +kernel
theorem dX3_ringed_31 : decode cX3_ringed 31 = .ok (.ldc2_w 177, 3) := by decide +kernel
theorem dX3_ringed_34 : decode cX3_ringed 34 = .ok (.lreturn, 1) := by decide +kernel
set_option maxRecDepth 20000 in
theorem ggX3_drawer_X3_in : GoodIn wsX3_drawer wsX3_in := goodIn_r _ [7] (by decide +kernel) (by decide +kernel)
set_option maxRecDepth 20000 in
theorem gX3_drawer_X3_in : GoodIn wsX3_drawer (va_wsS RX3 76 yX3_in wsX3_in) := goodIn_app (goodIn_of _ (by decide +kernel)) ggX3_drawer_X3_in
theorem dX3_drawer_0 : decode cX3_drawer 0 = .ok (.aload_n 0, 1) := by decide +kernel
theorem dX3_drawer_1 : decode cX3_drawer 1 = .ok (.iconst 0, 1) := by decide +kernel
theorem dX3_drawer_2 : decode cX3_drawer 2 = .ok (.putfield 69, 3) := by decide +kernel
theorem dX3_drawer_5 : decode cX3_drawer 5 = .ok (.iload_n 1, 1) := by decide +kernel
theorem dX3_drawer_6 : decode cX3_drawer 6 = .ok (.iconst 1, 1) := by decide +kernel
theorem dX3_drawer_7 : decode cX3_drawer 7 = .ok (.bipush 60, 2) := by decide +kernel
theorem dX3_drawer_9 : decode cX3_drawer 9 = .ok (.invokestatic 76, 3) := by decide +kernel
theorem dX3_drawer_12 : decode cX3_drawer 12 = .ok (.ifCond .eq 12, 3) := by decide +kernel
theorem dX3_drawer_15 : decode cX3_drawer 15 = .ok (.aload_n 0, 1) := by decide +kernel
theorem dX3_drawer_16 : decode cX3_drawer 16 = .ok (.getfield 149, 3) := by decide +kernel
theorem dX3_drawer_19 : decode cX3_drawer 19 = .ok (.bipush 10, 2) := by decide +kernel
theorem dX3_drawer_21 : decode cX3_drawer 21 = .ok (.if_icmp .ne 5, 3) := by decide +kernel
theorem dX3_drawer_24 : decode cX3_drawer 24 = .ok (.iconst (-1), 1) := by decide +kernel
theorem dX3_drawer_25 : decode cX3_drawer 25 = .ok (.ireturn, 1) := by decide +kernel
theorem dX3_drawer_26 : decode cX3_drawer 26 = .ok (.iconst 0, 1) := by decide +kernel
theorem dX3_drawer_27 : decode cX3_drawer 27 = .ok (.istore_n 2, 1) := by decide +kernel
theorem dX3_drawer_28 : decode cX3_drawer 28 = .ok (.iload_n 2, 1) := by decide +kernel
theorem dX3_drawer_29 : decode cX3_drawer 29 = .ok (.aload_n 0, 1) := by decide +kernel
theorem dX3_drawer_30 : decode cX3_drawer 30 = .ok (.getfield 149, 3) := by decide +kernel
theorem dX3_drawer_33 : decode cX3_drawer 33 = .ok (.if_icmp .ge 21, 3) := by decide +kernel
theorem dX3_drawer_36 : decode cX3_drawer 36 = .ok (.aload_n 0, 1) := by decide +kernel
theorem dX3_drawer_37 : decode cX3_drawer 37 = .ok (.getfield 57, 3) := by decide +kernel
theorem dX3_drawer_40 : decode cX3_drawer 40 = .ok (.iload_n 2, 1) := by decide +kernel
theorem dX3_drawer_41 : decode cX3_drawer 41 = .ok (.iaload, 1) := by decide +kernel
theorem dX3_drawer_42 : decode cX3_drawer 42 = .ok (.iload_n 1, 1) := by decide +kernel
theorem dX3_drawer_43 : decode cX3_drawer 43 = .ok (.if_icmp .ne 5, 3) := by decide +kernel
theorem dX3_drawer_46 : decode cX3_drawer 46 = .ok (.iconst (-1), 1) := by decide +kernel
theorem dX3_drawer_47 : decode cX3_drawer 47 = .ok (.ireturn, 1) := by decide +kernel
theorem dX3_drawer_48 : decode cX3_drawer 48 = .ok (.iinc 2 1, 3) := by decide +kernel
theorem dX3_drawer_51 : decode cX3_drawer 51 = .ok (.goto (-23), 3) := by decide +kernel
theorem dX3_drawer_54 : decode cX3_drawer 54 = .ok (.aload_n 0, 1) := by decide +kernel
theorem dX3_drawer_55 : decode cX3_drawer 55 = .ok (.getfield 57, 3) := by decide +kernel
theorem dX3_drawer_58 : decode cX3_drawer 58 = .ok (.aload_n 0, 1) := by decide +kernel
theorem dX3_drawer_59 : decode cX3_drawer 59 = .ok (.getfield 149, 3) := by decide +kernel
theorem dX3_drawer_62 : decode cX3_drawer 62 = .ok (.iload_n 1, 1) := by decide +kernel
theorem dX3_drawer_63 : decode cX3_drawer 63 = .ok (.iastore, 1) := by decide +kernel
theorem dX3_drawer_64 : decode cX3_drawer 64 = .ok (.aload_n 0, 1) := by decide +kernel
theorem dX3_drawer_65 : decode cX3_drawer 65 = .ok (.dup, 1) := by decide +kernel
theorem dX3_drawer_66 : decode cX3_drawer 66 = .ok (.getfield 149, 3) := by decide +kernel
theorem dX3_drawer_69 : decode cX3_drawer 69 = .ok (.iconst 1, 1) := by decide +kernel
theorem dX3_drawer_70 : decode cX3_drawer 70 = .ok (.iadd, 1) := by decide +kernel
theorem dX3_drawer_71 : decode cX3_drawer 71 = .ok (.putfield 149, 3) := by decide +kernel
theorem dX3_drawer_74 : decode cX3_drawer 74 = .ok (.aload_n 0, 1) := by decide +kernel
theorem dX3_drawer_75 : decode cX3_drawer 75 = .ok (.getfield 149, 3) := by decide +kernel
theorem dX3_drawer_78 : decode cX3_drawer 78 = .ok (.ireturn, 1) := by decide +kernel
set_option maxRecDepth 20000 in
theorem ggX3_isFraction_X3_in : GoodIn wsX3_isFraction wsX3_in := goodIn_r _ [5] (by decide +kernel) (by decide +kernel)
set_option maxRecDepth 20000 in
theorem gX3_isFraction_X3_in : GoodIn wsX3_isFraction (va_wsS RX3 76 yX3_in wsX3_in) := goodIn_app (goodIn_of _ (by decide +kernel)) ggX3_isFraction_X3_in
theorem dX3_isFraction_0 : decode cX3_isFraction 0 = .ok (.iload_n 0, 1) := by decide +kernel
theorem dX3_isFraction_1 : decode cX3_isFraction 1 = .ok (.iconst 1, 1) := by decide +kernel
theorem dX3_isFraction_2 : decode cX3_isFraction 2 = .ok (.ldc 179, 2) := by decide +kernel
theorem dX3_isFraction_4 : decode cX3_isFraction 4 = .ok (.invokestatic 76, 3) := by decide +kernel
theorem dX3_isFraction_7 : decode cX3_isFraction 7 = .ok (.ifCond .eq 17, 3) := by decide +kernel
theorem dX3_isFraction_10 : decode cX3_isFraction 10 = .ok (.iload_n 1, 1) := by decide +kernel
theorem dX3_isFraction_11 : decode cX3_isFraction 11 = .ok (.iconst 1, 1) := by decide +kernel
theorem dX3_isFraction_12 : decode cX3_isFraction 12 = .ok (.ldc 179, 2) := by decide +kernel
theorem dX3_isFraction_14 : decode cX3_isFraction 14 = .ok (.invokestatic 76, 3) := by decide +kernel
theorem dX3_isFraction_17 : decode cX3_isFraction 17 = .ok (.ifCond .eq 7, 3) := by decide +kernel
theorem dX3_isFraction_20 : decode cX3_isFraction 20 = .ok (.iconst 1, 1) := by decide +kernel
theorem dX3_isFraction_21 : decode cX3_isFraction 21 = .ok (.goto 4, 3) := by decide +kernel
theorem dX3_isFraction_24 : decode cX3_isFraction 24 = .ok (.iconst 0, 1) := by decide +kernel
theorem dX3_isFraction_25 : decode cX3_isFraction 25 = .ok (.ireturn, 1) := by decide +kernel
set_option maxRecDepth 20000 in
theorem ggX3_ways_X3_beat : GoodIn wsX3_ways wsX3_beat := goodIn_r _ [9, 10, 11, 12, 13, 14, 8, 15, 16, 17, 18, 19, 3, 4, 20, 21, 22, 23, 24, 25, 26, 27, 28, 29, 30, 31, 32, 33, 34, 35, 36, 37, 38, 39, 40, 41, 42, 43, 44, 45, 46, 47, 48, 49, 50] (by decide +kernel) (by decide +kernel)
set_option maxRecDepth 20000 in
theorem gX3_ways_X3_beat : GoodIn wsX3_ways (wsV RX3 155 RX3 yX3_beat wsX3_beat) := goodIn_app (goodIn_of _ (by decide +kernel)) ggX3_ways_X3_beat
theorem dX3_ways_0 : decode cX3_ways 0 = .ok (.iconst 0, 1) := by decide +kernel
theorem dX3_ways_1 : decode cX3_ways 1 = .ok (.istore 5, 2) := by decide +kernel
theorem dX3_ways_3 : decode cX3_ways 3 = .ok (.iconst 0, 1) := by decide +kernel
theorem dX3_ways_4 : decode cX3_ways 4 = .ok (.istore 6, 2) := by decide +kernel
theorem dX3_ways_6 : decode cX3_ways 6 = .ok (.iload 6, 2) := by decide +kernel
theorem dX3_ways_8 : decode cX3_ways 8 = .ok (.aload_n 0, 1) := by decide +kernel
theorem dX3_ways_9 : decode cX3_ways 9 = .ok (.getfield 149, 3) := by decide +kernel
theorem dX3_ways_12 : decode cX3_ways 12 = .ok (.if_icmp .ge 96, 3) := by decide +kernel
theorem dX3_ways_15 : decode cX3_ways 15 = .ok (.iconst 0, 1) := by decide +kernel
theorem dX3_ways_16 : decode cX3_ways 16 = .ok (.istore 7, 2) := by decide +kernel
theorem dX3_ways_18 : decode cX3_ways 18 = .ok (.iload 7, 2) := by decide +kernel
theorem dX3_ways_20 : decode cX3_ways 20 = .ok (.aload_n 0, 1) := by decide +kernel
theorem dX3_ways_21 : decode cX3_ways 21 = .ok (.getfield 149, 3) := by decide +kernel
theorem dX3_ways_24 : decode cX3_ways 24 = .ok (.if_icmp .ge 78, 3) := by decide +kernel
theorem dX3_ways_27 : decode cX3_ways 27 = .ok (.aload_n 0, 1) := by decide +kernel
theorem dX3_ways_28 : decode cX3_ways 28 = .ok (.iload_n 1, 1) := by decide +kernel
theorem dX3_ways_29 : decode cX3_ways 29 = .ok (.aload_n 0, 1) := by decide +kernel
theorem dX3_ways_30 : decode cX3_ways 30 = .ok (.getfield 57, 3) := by decide +kernel
theorem dX3_ways_33 : decode cX3_ways 33 = .ok (.iload 6, 2) := by decide +kernel
theorem dX3_ways_35 : decode cX3_ways 35 = .ok (.iaload, 1) := by decide +kernel
theorem dX3_ways_36 : decode cX3_ways 36 = .ok (.aload_n 0, 1) := by decide +kernel
theorem dX3_ways_37 : decode cX3_ways 37 = .ok (.getfield 57, 3) := by decide +kernel
theorem dX3_ways_40 : decode cX3_ways 40 = .ok (.iload 7, 2) := by decide +kernel
theorem dX3_ways_42 : decode cX3_ways 42 = .ok (.iaload, 1) := by decide +kernel
theorem dX3_ways_43 : decode cX3_ways 43 = .ok (.invokevirtual 155, 3) := by decide +kernel
theorem dX3_ways_46 : decode cX3_ways 46 = .ok (.aload_n 0, 1) := by decide +kernel
theorem dX3_ways_47 : decode cX3_ways 47 = .ok (.getfield 90, 3) := by decide +kernel
theorem dX3_ways_50 : decode cX3_ways 50 = .ok (.iload_n 3, 1) := by decide +kernel
theorem dX3_ways_51 : decode cX3_ways 51 = .ok (.i2l, 1) := by decide +kernel
theorem dX3_ways_52 : decode cX3_ways 52 = .ok (.lmul, 1) := by decide +kernel
theorem dX3_ways_53 : decode cX3_ways 53 = .ok (.aload_n 0, 1) := by decide +kernel
theorem dX3_ways_54 : decode cX3_ways 54 = .ok (.getfield 94, 3) := by decide +kernel
theorem dX3_ways_57 : decode cX3_ways 57 = .ok (.iload_n 2, 1) := by decide +kernel
theorem dX3_ways_58 : decode cX3_ways 58 = .ok (.i2l, 1) := by decide +kernel
theorem dX3_ways_59 : decode cX3_ways 59 = .ok (.lmul, 1) := by decide +kernel
theorem dX3_ways_60 : decode cX3_ways 60 = .ok (.lcmp, 1) := by decide +kernel
theorem dX3_ways_61 : decode cX3_ways 61 = .ok (.ifCond .eq 6, 3) := by decide +kernel
theorem dX3_ways_64 : decode cX3_ways 64 = .ok (.goto 32, 3) := by decide +kernel
theorem dX3_ways_67 : decode cX3_ways 67 = .ok (.iload 5, 2) := by decide +kernel
theorem dX3_ways_69 : decode cX3_ways 69 = .ok (.iload 4, 2) := by decide +kernel
theorem dX3_ways_71 : decode cX3_ways 71 = .ok (.if_icmp .ne 22, 3) := by decide +kernel
theorem dX3_ways_74 : decode cX3_ways 74 = .ok (.bipush 100, 2) := by decide +kernel
theorem dX3_ways_76 : decode cX3_ways 76 = .ok (.aload_n 0, 1) := by decide +kernel
theorem dX3_ways_77 : decode cX3_ways 77 = .ok (.getfield 57, 3) := by decide +kernel
theorem dX3_ways_80 : decode cX3_ways 80 = .ok (.iload 6, 2) := by decide +kernel
theorem dX3_ways_82 : decode cX3_ways 82 = .ok (.iaload, 1) := by decide +kernel
theorem dX3_ways_83 : decode cX3_ways 83 = .ok (.imul, 1) := by decide +kernel
theorem dX3_ways_84 : decode cX3_ways 84 = .ok (.aload_n 0, 1) := by decide +kernel
theorem dX3_ways_85 : decode cX3_ways 85 = .ok (.getfield 57, 3) := by decide +kernel
theorem dX3_ways_88 : decode cX3_ways 88 = .ok (.iload 7, 2) := by decide +kernel
theorem dX3_ways_90 : decode cX3_ways 90 = .ok (.iaload, 1) := by decide +kernel
theorem dX3_ways_91 : decode cX3_ways 91 = .ok (.iadd, 1) := by decide +kernel
theorem dX3_ways_92 : decode cX3_ways 92 = .ok (.ireturn, 1) := by decide +kernel
theorem dX3_ways_93 : decode cX3_ways 93 = .ok (.iinc 5 1, 3) := by decide +kernel
theorem dX3_ways_96 : decode cX3_ways 96 = .ok (.iinc 7 1, 3) := by decide +kernel
theorem dX3_ways_99 : decode cX3_ways 99 = .ok (.goto (-81), 3) := by decide +kernel
theorem dX3_ways_102 : decode cX3_ways 102 = .ok (.iinc 6 1, 3) := by decide +kernel
theorem dX3_ways_105 : decode cX3_ways 105 = .ok (.goto (-99), 3) := by decide +kernel
theorem dX3_ways_108 : decode cX3_ways 108 = .ok (.iload 4, 2) := by decide +kernel
theorem dX3_ways_110 : decode cX3_ways 110 = .ok (.iconst (-1), 1) := by decide +kernel
theorem dX3_ways_111 : decode cX3_ways 111 = .ok (.if_icmp .ne 8, 3) := by decide +kernel
theorem dX3_ways_114 : decode cX3_ways 114 = .ok (.iload 5, 2) := by decide +kernel
theorem dX3_ways_116 : decode cX3_ways 116 = .ok (.goto 4, 3) := by decide +kernel
theorem dX3_ways_119 : decode cX3_ways 119 = .ok (.iconst (-1), 1) := by decide +kernel
theorem dX3_ways_120 : decode cX3_ways 120 = .ok (.ireturn, 1) := by decide +kernel
set_option maxRecDepth 20000 in
theorem ggX3_parts_X3_isCell : GoodIn wsX3_parts wsX3_isCell := goodIn_r _ [6, 7, 8, 9, 5, 10, 40, 41, 42, 43, 44, 45, 46, 47, 48, 49, 50, 51, 52, 53, 54, 55, 56, 57, 58, 59, 60, 61, 62, 63, 64, 65, 66, 67] (by decide +kernel) (by decide +kernel)
set_option maxRecDepth 20000 in
theorem gX3_parts_X3_isCell : GoodIn wsX3_parts (wsV RX3 97 RX3 yX3_isCell wsX3_isCell) := goodIn_app (goodIn_of _ (by decide +kernel)) ggX3_parts_X3_isCell
set_option maxRecDepth 20000 in
theorem ggX3_parts_X3_isFraction : GoodIn wsX3_parts wsX3_isFraction := goodIn_r _ [13, 14, 8, 9, 5, 10] (by decide +kernel) (by decide +kernel)
set_option maxRecDepth 20000 in
theorem gX3_parts_X3_isFraction : GoodIn wsX3_parts (va_wsS RX3 180 yX3_isFraction wsX3_isFraction) := goodIn_app (goodIn_of _ (by decide +kernel)) ggX3_parts_X3_isFraction
set_option maxRecDepth 20000 in
theorem ggX3_parts_X3_ways : GoodIn wsX3_parts wsX3_ways := goodIn_r _ [18, 19, 20, 21, 22, 23, 24, 25, 5, 26, 27, 28, 29, 30, 31, 32, 33, 34, 35, 36, 37, 38, 39, 40, 41, 42, 43, 44, 45, 46, 47, 48, 49, 50, 51, 52, 53, 54, 55, 56, 57, 58, 59, 60, 61, 62, 63, 64, 65, 66, 67] (by decide +kernel) (by decide +kernel)
set_option maxRecDepth 20000 in
theorem gX3_parts_X3_ways : GoodIn wsX3_parts (wsV RX3 183 RX3 yX3_ways wsX3_ways) := goodIn_app (goodIn_of _ (by decide +kernel)) ggX3_parts_X3_ways
theorem dX3_parts_0 : decode cX3_parts 0 = .ok (.aload_n 0, 1) := by decide +kernel
theorem dX3_parts_1 : decode cX3_parts 1 = .ok (.iconst 0, 1) := by decide +kernel
theorem dX3_parts_2 : decode cX3_parts 2 = .ok (.putfield 69, 3) := by decide +kernel
theorem dX3_parts_5 : decode cX3_parts 5 = .ok (.aload_n 0, 1) := by decide +kernel
theorem dX3_parts_6 : decode cX3_parts 6 = .ok (.iload_n 1, 1) := by decide +kernel
theorem dX3_parts_7 : decode cX3_parts 7 = .ok (.invokevirtual 97, 3) := by decide +kernel
theorem dX3_parts_10 : decode cX3_parts 10 = .ok (.ifCond .eq 22, 3) := by decide +kernel
theorem dX3_parts_13 : decode cX3_parts 13 = .ok (.iload_n 2, 1) := by decide +kernel
theorem dX3_parts_14 : decode cX3_parts 14 = .ok (.iload_n 3, 1) := by decide +kernel
theorem dX3_parts_15 : decode cX3_parts 15 = .ok (.invokestatic 180, 3) := by decide +kernel
theorem dX3_parts_18 : decode cX3_parts 18 = .ok (.ifCond .eq 14, 3) := by decide +kernel
theorem dX3_parts_21 : decode cX3_parts 21 = .ok (.aload_n 0, 1) := by decide +kernel
theorem dX3_parts_22 : decode cX3_parts 22 = .ok (.iload_n 1, 1) := by decide +kernel
theorem dX3_parts_23 : decode cX3_parts 23 = .ok (.iload_n 2, 1) := by decide +kernel
theorem dX3_parts_24 : decode cX3_parts 24 = .ok (.iload_n 3, 1) := by decide +kernel
theorem dX3_parts_25 : decode cX3_parts 25 = .ok (.iconst (-1), 1) := by decide +kernel
theorem dX3_parts_26 : decode cX3_parts 26 = .ok (.invokevirtual 183, 3) := by decide +kernel
theorem dX3_parts_29 : decode cX3_parts 29 = .ok (.goto 4, 3) := by decide +kernel
theorem dX3_parts_32 : decode cX3_parts 32 = .ok (.iconst (-1), 1) := by decide +kernel
theorem dX3_parts_33 : decode cX3_parts 33 = .ok (.ireturn, 1) := by decide +kernel
set_option maxRecDepth 20000 in
theorem ggX3_part_X3_isCell : GoodIn wsX3_part wsX3_isCell := goodIn_r _ [6, 7, 8, 9, 5, 10, 40, 41, 42, 43, 44, 45, 46, 47, 48, 49, 50, 51, 52, 53, 54, 55, 56, 57, 58, 59, 60, 61, 62, 63, 64, 65, 66, 67] (by decide +kernel) (by decide +kernel)
set_option maxRecDepth 20000 in
theorem gX3_part_X3_isCell : GoodIn wsX3_part (wsV RX3 97 RX3 yX3_isCell wsX3_isCell) := goodIn_app (goodIn_of _ (by decide +kernel)) ggX3_part_X3_isCell
set_option maxRecDepth 20000 in
theorem ggX3_part_X3_isFraction : GoodIn wsX3_part wsX3_isFraction := goodIn_r _ [13, 14, 8, 9, 5, 10] (by decide +kernel) (by decide +kernel)
set_option maxRecDepth 20000 in
theorem gX3_part_X3_isFraction : GoodIn wsX3_part (va_wsS RX3 180 yX3_isFraction wsX3_isFraction) := goodIn_app (goodIn_of _ (by decide +kernel)) ggX3_part_X3_isFraction
set_option maxRecDepth 20000 in
theorem ggX3_part_X3_ways : GoodIn wsX3_part wsX3_ways := goodIn_r _ [18, 19, 20, 21, 22, 23, 24, 25, 5, 26, 27, 28, 29, 30, 31, 32, 33, 34, 35, 36, 37, 38, 39, 40, 41, 42, 43, 44, 45, 46, 47, 48, 49, 50, 51, 52, 53, 54, 55, 56, 57, 58, 59, 60, 61, 62, 63, 64, 65, 66, 67] (by decide +kernel) (by decide +kernel)
set_option maxRecDepth 20000 in
theorem gX3_part_X3_ways : GoodIn wsX3_part (wsV RX3 183 RX3 yX3_ways wsX3_ways) := goodIn_app (goodIn_of _ (by decide +kernel)) ggX3_part_X3_ways
theorem dX3_part_0 : decode cX3_part 0 = .ok (.aload_n 0, 1) := by decide +kernel
theorem dX3_part_1 : decode cX3_part 1 = .ok (.iconst 0, 1) := by decide +kernel
theorem dX3_part_2 : decode cX3_part 2 = .ok (.putfield 69, 3) := by decide +kernel
theorem dX3_part_5 : decode cX3_part 5 = .ok (.aload_n 0, 1) := by decide +kernel
theorem dX3_part_6 : decode cX3_part 6 = .ok (.iload_n 1, 1) := by decide +kernel
theorem dX3_part_7 : decode cX3_part 7 = .ok (.invokevirtual 97, 3) := by decide +kernel
theorem dX3_part_10 : decode cX3_part 10 = .ok (.ifCond .eq 28, 3) := by decide +kernel
theorem dX3_part_13 : decode cX3_part 13 = .ok (.iload_n 2, 1) := by decide +kernel
theorem dX3_part_14 : decode cX3_part 14 = .ok (.iload_n 3, 1) := by decide +kernel
theorem dX3_part_15 : decode cX3_part 15 = .ok (.invokestatic 180, 3) := by decide +kernel
theorem dX3_part_18 : decode cX3_part 18 = .ok (.ifCond .eq 20, 3) := by decide +kernel
theorem dX3_part_21 : decode cX3_part 21 = .ok (.iload 4, 2) := by decide +kernel
theorem dX3_part_23 : decode cX3_part 23 = .ok (.ifCond .lt 15, 3) := by decide +kernel
theorem dX3_part_26 : decode cX3_part 26 = .ok (.aload_n 0, 1) := by decide +kernel
theorem dX3_part_27 : decode cX3_part 27 = .ok (.iload_n 1, 1) := by decide +kernel
theorem dX3_part_28 : decode cX3_part 28 = .ok (.iload_n 2, 1) := by decide +kernel
theorem dX3_part_29 : decode cX3_part 29 = .ok (.iload_n 3, 1) := by decide +kernel
theorem dX3_part_30 : decode cX3_part 30 = .ok (.iload 4, 2) := by decide +kernel
theorem dX3_part_32 : decode cX3_part 32 = .ok (.invokevirtual 183, 3) := by decide +kernel
theorem dX3_part_35 : decode cX3_part 35 = .ok (.goto 4, 3) := by decide +kernel
theorem dX3_part_38 : decode cX3_part 38 = .ok (.iconst (-1), 1) := by decide +kernel
theorem dX3_part_39 : decode cX3_part 39 = .ok (.ireturn, 1) := by decide +kernel
set_option maxRecDepth 20000 in
theorem ggX3_measure_X3_isFraction : GoodIn wsX3_measure wsX3_isFraction := goodIn_r _ [10, 11, 12, 13, 9, 14] (by decide +kernel) (by decide +kernel)
set_option maxRecDepth 20000 in
theorem gX3_measure_X3_isFraction : GoodIn wsX3_measure (va_wsS RX3 180 yX3_isFraction wsX3_isFraction) := goodIn_app (goodIn_of _ (by decide +kernel)) ggX3_measure_X3_isFraction
set_option maxRecDepth 20000 in
theorem ggX3_measure_X3_make : GoodIn wsX3_measure wsX3_make := goodIn_r _ [18, 19, 20, 21, 22, 4, 6, 23, 24, 9, 25, 26, 27, 28, 29, 30, 31, 32, 33, 34, 35, 36, 37, 38, 39, 40, 41, 42, 43, 44, 45, 46, 47, 48, 49, 50, 51, 52, 53] (by decide +kernel) (by decide +kernel)
set_option maxRecDepth 20000 in
theorem gX3_measure_X3_make : GoodIn wsX3_measure (wsV RX3 107 RX3 yX3_make wsX3_make) := goodIn_app (goodIn_of _ (by decide +kernel)) ggX3_measure_X3_make
theorem dX3_measure_0 : decode cX3_measure 0 = .ok (.aload_n 0, 1) := by decide +kernel
theorem dX3_measure_1 : decode cX3_measure 1 = .ok (.iconst 0, 1) := by decide +kernel
theorem dX3_measure_2 : decode cX3_measure 2 = .ok (.putfield 69, 3) := by decide +kernel
theorem dX3_measure_5 : decode cX3_measure 5 = .ok (.iload_n 1, 1) := by decide +kernel
theorem dX3_measure_6 : decode cX3_measure 6 = .ok (.iload_n 2, 1) := by decide +kernel
theorem dX3_measure_7 : decode cX3_measure 7 = .ok (.invokestatic 180, 3) := by decide +kernel
theorem dX3_measure_10 : decode cX3_measure 10 = .ok (.ifCond .eq 12, 3) := by decide +kernel
theorem dX3_measure_13 : decode cX3_measure 13 = .ok (.aload_n 0, 1) := by decide +kernel
theorem dX3_measure_14 : decode cX3_measure 14 = .ok (.getfield 152, 3) := by decide +kernel
theorem dX3_measure_17 : decode cX3_measure 17 = .ok (.bipush 8, 2) := by decide +kernel
theorem dX3_measure_19 : decode cX3_measure 19 = .ok (.if_icmp .ne 5, 3) := by decide +kernel
theorem dX3_measure_22 : decode cX3_measure 22 = .ok (.iconst (-1), 1) := by decide +kernel
theorem dX3_measure_23 : decode cX3_measure 23 = .ok (.ireturn, 1) := by decide +kernel
theorem dX3_measure_24 : decode cX3_measure 24 = .ok (.aload_n 0, 1) := by decide +kernel
theorem dX3_measure_25 : decode cX3_measure 25 = .ok (.iload_n 1, 1) := by decide +kernel
theorem dX3_measure_26 : decode cX3_measure 26 = .ok (.i2l, 1) := by decide +kernel
theorem dX3_measure_27 : decode cX3_measure 27 = .ok (.iload_n 2, 1) := by decide +kernel
theorem dX3_measure_28 : decode cX3_measure 28 = .ok (.i2l, 1) := by decide +kernel
theorem dX3_measure_29 : decode cX3_measure 29 = .ok (.invokevirtual 107, 3) := by decide +kernel
theorem dX3_measure_32 : decode cX3_measure 32 = .ok (.aload_n 0, 1) := by decide +kernel
theorem dX3_measure_33 : decode cX3_measure 33 = .ok (.getfield 60, 3) := by decide +kernel
theorem dX3_measure_36 : decode cX3_measure 36 = .ok (.aload_n 0, 1) := by decide +kernel
theorem dX3_measure_37 : decode cX3_measure 37 = .ok (.getfield 152, 3) := by decide +kernel
theorem dX3_measure_40 : decode cX3_measure 40 = .ok (.aload_n 0, 1) := by decide +kernel
theorem dX3_measure_41 : decode cX3_measure 41 = .ok (.getfield 90, 3) := by decide +kernel
theorem dX3_measure_44 : decode cX3_measure 44 = .ok (.lastore, 1) := by decide +kernel
theorem dX3_measure_45 : decode cX3_measure 45 = .ok (.aload_n 0, 1) := by decide +kernel
theorem dX3_measure_46 : decode cX3_measure 46 = .ok (.getfield 63, 3) := by decide +kernel
theorem dX3_measure_49 : decode cX3_measure 49 = .ok (.aload_n 0, 1) := by decide +kernel
theorem dX3_measure_50 : decode cX3_measure 50 = .ok (.getfield 152, 3) := by decide +kernel
theorem dX3_measure_53 : decode cX3_measure 53 = .ok (.aload_n 0, 1) := by decide +kernel
theorem dX3_measure_54 : decode cX3_measure 54 = .ok (.getfield 94, 3) := by decide +kernel
theorem dX3_measure_57 : decode cX3_measure 57 = .ok (.lastore, 1) := by decide +kernel
theorem dX3_measure_58 : decode cX3_measure 58 = .ok (.aload_n 0, 1) := by decide +kernel
theorem dX3_measure_59 : decode cX3_measure 59 = .ok (.dup, 1) := by decide +kernel
theorem dX3_measure_60 : decode cX3_measure 60 = .ok (.getfield 152, 3) := by decide +kernel
theorem dX3_measure_63 : decode cX3_measure 63 = .ok (.iconst 1, 1) := by decide +kernel
theorem dX3_measure_64 : decode cX3_measure 64 = .ok (.iadd, 1) := by decide +kernel
theorem dX3_measure_65 : decode cX3_measure 65 = .ok (.putfield 152, 3) := by decide +kernel
theorem dX3_measure_68 : decode cX3_measure 68 = .ok (.aload_n 0, 1) := by decide +kernel
theorem dX3_measure_69 : decode cX3_measure 69 = .ok (.getfield 152, 3) := by decide +kernel
theorem dX3_measure_72 : decode cX3_measure 72 = .ok (.ireturn, 1) := by decide +kernel
theorem dX3_forget_0 : decode cX3_forget 0 = .ok (.aload_n 0, 1) := by decide +kernel
theorem dX3_forget_1 : decode cX3_forget 1 = .ok (.iconst 0, 1) := by decide +kernel
theorem dX3_forget_2 : decode cX3_forget 2 = .ok (.putfield 69, 3) := by decide +kernel
theorem dX3_forget_5 : decode cX3_forget 5 = .ok (.aload_n 0, 1) := by decide +kernel
theorem dX3_forget_6 : decode cX3_forget 6 = .ok (.getfield 152, 3) := by decide +kernel
theorem dX3_forget_9 : decode cX3_forget 9 = .ok (.istore_n 1, 1) := by decide +kernel
theorem dX3_forget_10 : decode cX3_forget 10 = .ok (.aload_n 0, 1) := by decide +kernel
theorem dX3_forget_11 : decode cX3_forget 11 = .ok (.iconst 0, 1) := by decide +kernel
theorem dX3_forget_12 : decode cX3_forget 12 = .ok (.putfield 152, 3) := by decide +kernel
theorem dX3_forget_15 : decode cX3_forget 15 = .ok (.iload_n 1, 1) := by decide +kernel
theorem dX3_forget_16 : decode cX3_forget 16 = .ok (.ireturn, 1) := by decide +kernel
set_option maxRecDepth 20000 in
theorem ggX3_isSo_X3_copy : GoodIn wsX3_isSo wsX3_copy := goodIn_r _ [14] (by decide +kernel) (by decide +kernel)
set_option maxRecDepth 20000 in
theorem gX3_isSo_X3_copy : GoodIn wsX3_isSo (va_wsS RX3 117 yX3_copy wsX3_copy) := goodIn_app (goodIn_of _ (by decide +kernel)) ggX3_isSo_X3_copy
set_option maxRecDepth 20000 in
theorem ggX3_isSo_X3_resetAll : GoodIn wsX3_isSo wsX3_resetAll := goodIn_r _ [18, 2, 19, 71, 72, 73, 74, 75, 76, 77, 78, 79, 80, 81, 82, 83, 84, 85, 86, 87, 88, 89, 90, 91, 92, 93, 94, 95, 96, 97, 98] (by decide +kernel) (by decide +kernel)
set_option maxRecDepth 20000 in
theorem gX3_isSo_X3_resetAll : GoodIn wsX3_isSo (wsV RX3 66 RX3 yX3_resetAll wsX3_resetAll) := goodIn_app (goodIn_of _ (by decide +kernel)) ggX3_isSo_X3_resetAll
set_option maxRecDepth 20000 in
theorem ggX3_isSo_X3_step : GoodIn wsX3_isSo wsX3_step := goodIn_r _ [23, 24, 2, 25, 7, 9, 5, 6, 26, 27, 28, 4, 29, 30, 31, 32, 33, 11, 12, 13, 14, 34, 35, 36, 37, 38, 19, 39, 40, 41, 42, 43, 44, 45, 46, 47, 48, 49, 50, 51, 52, 53, 54, 55, 56, 57, 58, 59, 60, 61, 62, 63, 64, 65, 66, 67, 68, 69, 70, 71, 72, 73, 74, 75, 76, 77, 78, 79, 80, 81, 82, 83, 84, 85, 86, 87, 88, 89, 90, 91, 92, 93, 94, 95, 96, 97, 98] (by decide +kernel) (by decide +kernel)
set_option maxRecDepth 20000 in
theorem gX3_isSo_X3_step : GoodIn wsX3_isSo (wsV RX3 143 RX3 yX3_step wsX3_step) := goodIn_app (goodIn_of _ (by decide +kernel)) ggX3_isSo_X3_step
set_option maxRecDepth 20000 in
theorem ggX3_isSo_X3_make : GoodIn wsX3_isSo wsX3_make := goodIn_r _ [46, 47, 48, 49, 50, 7, 9, 51, 52, 13, 53, 71, 72, 73, 74, 75, 76, 77, 78, 79, 80, 81, 82, 83, 84, 85, 86, 87, 88, 89, 90, 91, 92, 93, 94, 95, 96, 97, 98] (by decide +kernel) (by decide +kernel)
set_option maxRecDepth 20000 in
theorem gX3_isSo_X3_make : GoodIn wsX3_isSo (wsV RX3 107 RX3 yX3_make wsX3_make) := goodIn_app (goodIn_of _ (by decide +kernel)) ggX3_isSo_X3_make
theorem dX3_isSo_0 : decode cX3_isSo 0 = .ok (.aload_n 0, 1) := by decide +kernel
theorem dX3_isSo_1 : decode cX3_isSo 1 = .ok (.getfield 152, 3) := by decide +kernel
theorem dX3_isSo_4 : decode cX3_isSo 4 = .ok (.ifCond .ne 5, 3) := by decide +kernel
theorem dX3_isSo_7 : decode cX3_isSo 7 = .ok (.iconst 1, 1) := by decide +kernel
theorem dX3_isSo_8 : decode cX3_isSo 8 = .ok (.ireturn, 1) := by decide +kernel
theorem dX3_isSo_9 : decode cX3_isSo 9 = .ok (.aload_n 0, 1) := by decide +kernel
theorem dX3_isSo_10 : decode cX3_isSo 10 = .ok (.getfield 25, 3) := by decide +kernel
theorem dX3_isSo_13 : decode cX3_isSo 13 = .ok (.aload_n 0, 1) := by decide +kernel
theorem dX3_isSo_14 : decode cX3_isSo 14 = .ok (.getfield 32, 3) := by decide +kernel
theorem dX3_isSo_17 : decode cX3_isSo 17 = .ok (.invokestatic 117, 3) := by decide +kernel
theorem dX3_isSo_20 : decode cX3_isSo 20 = .ok (.aload_n 0, 1) := by decide +kernel
theorem dX3_isSo_21 : decode cX3_isSo 21 = .ok (.iconst 0, 1) := by decide +kernel
theorem dX3_isSo_22 : decode cX3_isSo 22 = .ok (.putfield 47, 3) := by decide +kernel
theorem dX3_isSo_25 : decode cX3_isSo 25 = .ok (.aload_n 0, 1) := by decide +kernel
theorem dX3_isSo_26 : decode cX3_isSo 26 = .ok (.invokevirtual 66, 3) := by decide +kernel
theorem dX3_isSo_29 : decode cX3_isSo 29 = .ok (.iconst 0, 1) := by decide +kernel
theorem dX3_isSo_30 : decode cX3_isSo 30 = .ok (.istore_n 2, 1) := by decide +kernel
theorem dX3_isSo_31 : decode cX3_isSo 31 = .ok (.lconst 0, 1) := by decide +kernel
theorem dX3_isSo_32 : decode cX3_isSo 32 = .ok (.lstore_n 3, 1) := by decide +kernel
theorem dX3_isSo_33 : decode cX3_isSo 33 = .ok (.lconst 1, 1) := by decide +kernel
theorem dX3_isSo_34 : decode cX3_isSo 34 = .ok (.lstore 5, 2) := by decide +kernel
theorem dX3_isSo_36 : decode cX3_isSo 36 = .ok (.iconst 1, 1) := by decide +kernel
theorem dX3_isSo_37 : decode cX3_isSo 37 = .ok (.istore 7, 2) := by decide +kernel
theorem dX3_isSo_39 : decode cX3_isSo 39 = .ok (.iconst 0, 1) := by decide +kernel
theorem dX3_isSo_40 : decode cX3_isSo 40 = .ok (.istore 8, 2) := by decide +kernel
theorem dX3_isSo_42 : decode cX3_isSo 42 = .ok (.iload 8, 2) := by decide +kernel
theorem dX3_isSo_44 : decode cX3_isSo 44 = .ok (.sipush 400, 3) := by decide +kernel
theorem dX3_isSo_47 : decode cX3_isSo 47 = .ok (.if_icmp .ge 148, 3) := by decide +kernel
theorem dX3_isSo_50 : decode cX3_isSo 50 = .ok (.iload 7, 2) := by decide +kernel
theorem dX3_isSo_52 : decode cX3_isSo 52 = .ok (.ifCond .eq 143, 3) := by decide +kernel
theorem dX3_isSo_55 : decode cX3_isSo 55 = .ok (.iload_n 2, 1) := by decide +kernel
theorem dX3_isSo_56 : decode cX3_isSo 56 = .ok (.aload_n 0, 1) := by decide +kernel
theorem dX3_isSo_57 : decode cX3_isSo 57 = .ok (.getfield 152, 3) := by decide +kernel
theorem dX3_isSo_60 : decode cX3_isSo 60 = .ok (.if_icmp .gt 135, 3) := by decide +kernel
theorem dX3_isSo_63 : decode cX3_isSo 63 = .ok (.aload_n 0, 1) := by decide +kernel
theorem dX3_isSo_64 : decode cX3_isSo 64 = .ok (.invokevirtual 143, 3) := by decide +kernel
theorem dX3_isSo_67 : decode cX3_isSo 67 = .ok (.istore 7, 2) := by decide +kernel
theorem dX3_isSo_69 : decode cX3_isSo 69 = .ok (.iload 7, 2) := by decide +kernel
theorem dX3_isSo_71 : decode cX3_isSo 71 = .ok (.ifCond .eq 118, 3) := by decide +kernel
theorem dX3_isSo_74 : decode cX3_isSo 74 = .ok (.aload_n 0, 1) := by decide +kernel
theorem dX3_isSo_75 : decode cX3_isSo 75 = .ok (.getfield 125, 3) := by decide +kernel
theorem dX3_isSo_78 : decode cX3_isSo 78 = .ok (.iload_n 1, 1) := by decide +kernel
theorem dX3_isSo_79 : decode cX3_isSo 79 = .ok (.if_icmp .ne 110, 3) := by decide +kernel
theorem dX3_isSo_82 : decode cX3_isSo 82 = .ok (.aload_n 0, 1) := by decide +kernel
theorem dX3_isSo_83 : decode cX3_isSo 83 = .ok (.getfield 128, 3) := by decide +kernel
theorem dX3_isSo_86 : decode cX3_isSo 86 = .ok (.ifCond .eq 6, 3) := by decide +kernel
theorem dX3_isSo_89 : decode cX3_isSo 89 = .ok (.goto 100, 3) := by decide +kernel
theorem dX3_isSo_92 : decode cX3_isSo 92 = .ok (.iload_n 2, 1) := by decide +kernel
theorem dX3_isSo_93 : decode cX3_isSo 93 = .ok (.ifCond .le 76, 3) := by decide +kernel
theorem dX3_isSo_96 : decode cX3_isSo 96 = .ok (.aload_n 0, 1) := by decide +kernel
theorem dX3_isSo_97 : decode cX3_isSo 97 = .ok (.aload_n 0, 1) := by decide +kernel
theorem dX3_isSo_98 : decode cX3_isSo 98 = .ok (.getfield 25, 3) := by decide +kernel
theorem dX3_isSo_101 : decode cX3_isSo 101 = .ok (.bipush 20, 2) := by decide +kernel
theorem dX3_isSo_103 : decode cX3_isSo 103 = .ok (.laload, 1) := by decide +kernel
theorem dX3_isSo_104 : decode cX3_isSo 104 = .ok (.lload 5, 2) := by decide +kernel
theorem dX3_isSo_106 : decode cX3_isSo 106 = .ok (.lmul, 1) := by decide +kernel
theorem dX3_isSo_107 : decode cX3_isSo 107 = .ok (.lload_n 3, 1) := by decide +kernel
theorem dX3_isSo_108 : decode cX3_isSo 108 = .ok (.aload_n 0, 1) := by decide +kernel
theorem dX3_isSo_109 : decode cX3_isSo 109 = .ok (.getfield 25, 3) := by decide +kernel
theorem dX3_isSo_112 : decode cX3_isSo 112 = .ok (.bipush 21, 2) := by decide +kernel
theorem dX3_isSo_114 : decode cX3_isSo 114 = .ok (.laload, 1) := by decide +kernel
theorem dX3_isSo_115 : decode cX3_isSo 115 = .ok (.lmul, 1) := by decide +kernel
theorem dX3_isSo_116 : decode cX3_isSo 116 = .ok (.lsub, 1) := by decide +kernel
theorem dX3_isSo_117 : decode cX3_isSo 117 = .ok (.aload_n 0, 1) := by decide +kernel
theorem dX3_isSo_118 : decode cX3_isSo 118 = .ok (.getfield 25, 3) := by decide +kernel
theorem dX3_isSo_121 : decode cX3_isSo 121 = .ok (.bipush 21, 2) := by decide +kernel
theorem dX3_isSo_123 : decode cX3_isSo 123 = .ok (.laload, 1) := by decide +kernel
theorem dX3_isSo_124 : decode cX3_isSo 124 = .ok (.lload 5, 2) := by decide +kernel
theorem dX3_isSo_126 : decode cX3_isSo 126 = .ok (.lmul, 1) := by decide +kernel
theorem dX3_isSo_127 : decode cX3_isSo 127 = .ok (.invokevirtual 107, 3) := by decide +kernel
theorem dX3_isSo_130 : decode cX3_isSo 130 = .ok (.aload_n 0, 1) := by decide +kernel
theorem dX3_isSo_131 : decode cX3_isSo 131 = .ok (.getfield 90, 3) := by decide +kernel
theorem dX3_isSo_134 : decode cX3_isSo 134 = .ok (.aload_n 0, 1) := by decide +kernel
theorem dX3_isSo_135 : decode cX3_isSo 135 = .ok (.getfield 60, 3) := by decide +kernel
theorem dX3_isSo_138 : decode cX3_isSo 138 = .ok (.iload_n 2, 1) := by decide +kernel
theorem dX3_isSo_139 : decode cX3_isSo 139 = .ok (.iconst 1, 1) := by decide +kernel
theorem dX3_isSo_140 : decode cX3_isSo 140 = .ok (.isub, 1) := by decide +kernel
theorem dX3_isSo_141 : decode cX3_isSo 141 = .ok (.laload, 1) := by decide +kernel
theorem dX3_isSo_142 : decode cX3_isSo 142 = .ok (.lcmp, 1) := by decide +kernel
theorem dX3_isSo_143 : decode cX3_isSo 143 = .ok (.ifCond .ne 23, 3) := by decide +kernel
theorem dX3_isSo_146 : decode cX3_isSo 146 = .ok (.aload_n 0, 1) := by decide +kernel
theorem dX3_isSo_147 : decode cX3_isSo 147 = .ok (.getfield 94, 3) := by decide +kernel
theorem dX3_isSo_150 : decode cX3_isSo 150 = .ok (.aload_n 0, 1) := by decide +kernel
theorem dX3_isSo_151 : decode cX3_isSo 151 = .ok (.getfield 63, 3) := by decide +kernel
theorem dX3_isSo_154 : decode cX3_isSo 154 = .ok (.iload_n 2, 1) := by decide +kernel
theorem dX3_isSo_155 : decode cX3_isSo 155 = .ok (.iconst 1, 1) := by decide +kernel
theorem dX3_isSo_156 : decode cX3_isSo 156 = .ok (.isub, 1) := by decide +kernel
theorem dX3_isSo_157 : decode cX3_isSo 157 = .ok (.laload, 1) := by decide +kernel
theorem dX3_isSo_158 : decode cX3_isSo 158 = .ok (.lcmp, 1) := by decide +kernel
theorem dX3_isSo_159 : decode cX3_isSo 159 = .ok (.ifCond .ne 7, 3) := by decide +kernel
theorem dX3_isSo_162 : decode cX3_isSo 162 = .ok (.iconst 1, 1) := by decide +kernel
theorem dX3_isSo_163 : decode cX3_isSo 163 = .ok (.goto 4, 3) := by decide +kernel
theorem dX3_isSo_166 : decode cX3_isSo 166 = .ok (.iconst 0, 1) := by decide +kernel
theorem dX3_isSo_167 : decode cX3_isSo 167 = .ok (.istore 7, 2) := by decide +kernel
theorem dX3_isSo_169 : decode cX3_isSo 169 = .ok (.iinc 2 1, 3) := by decide +kernel
theorem dX3_isSo_172 : decode cX3_isSo 172 = .ok (.aload_n 0, 1) := by decide +kernel
theorem dX3_isSo_173 : decode cX3_isSo 173 = .ok (.getfield 25, 3) := by decide +kernel
theorem dX3_isSo_176 : decode cX3_isSo 176 = .ok (.bipush 20, 2) := by decide +kernel
theorem dX3_isSo_178 : decode cX3_isSo 178 = .ok (.laload, 1) := by decide +kernel
theorem dX3_isSo_179 : decode cX3_isSo 179 = .ok (.lstore_n 3, 1) := by decide +kernel
theorem dX3_isSo_180 : decode cX3_isSo 180 = .ok (.aload_n 0, 1) := by decide +kernel
theorem dX3_isSo_181 : decode cX3_isSo 181 = .ok (.getfield 25, 3) := by decide +kernel
theorem dX3_isSo_184 : decode cX3_isSo 184 = .ok (.bipush 21, 2) := by decide +kernel
theorem dX3_isSo_186 : decode cX3_isSo 186 = .ok (.laload, 1) := by decide +kernel
theorem dX3_isSo_187 : decode cX3_isSo 187 = .ok (.lstore 5, 2) := by decide +kernel
theorem dX3_isSo_189 : decode cX3_isSo 189 = .ok (.iinc 8 1, 3) := by decide +kernel
theorem dX3_isSo_192 : decode cX3_isSo 192 = .ok (.goto (-150), 3) := by decide +kernel
theorem dX3_isSo_195 : decode cX3_isSo 195 = .ok (.aload_n 0, 1) := by decide +kernel
theorem dX3_isSo_196 : decode cX3_isSo 196 = .ok (.iconst 1, 1) := by decide +kernel
theorem dX3_isSo_197 : decode cX3_isSo 197 = .ok (.putfield 47, 3) := by decide +kernel
theorem dX3_isSo_200 : decode cX3_isSo 200 = .ok (.aload_n 0, 1) := by decide +kernel
theorem dX3_isSo_201 : decode cX3_isSo 201 = .ok (.getfield 32, 3) := by decide +kernel
theorem dX3_isSo_204 : decode cX3_isSo 204 = .ok (.aload_n 0, 1) := by decide +kernel
theorem dX3_isSo_205 : decode cX3_isSo 205 = .ok (.getfield 25, 3) := by decide +kernel
theorem dX3_isSo_208 : decode cX3_isSo 208 = .ok (.invokestatic 117, 3) := by decide +kernel
theorem dX3_isSo_211 : decode cX3_isSo 211 = .ok (.iload 7, 2) := by decide +kernel
theorem dX3_isSo_213 : decode cX3_isSo 213 = .ok (.ifCond .eq 15, 3) := by decide +kernel
theorem dX3_isSo_216 : decode cX3_isSo 216 = .ok (.iload_n 2, 1) := by decide +kernel
theorem dX3_isSo_217 : decode cX3_isSo 217 = .ok (.aload_n 0, 1) := by decide +kernel
theorem dX3_isSo_218 : decode cX3_isSo 218 = .ok (.getfield 152, 3) := by decide +kernel
theorem dX3_isSo_221 : decode cX3_isSo 221 = .ok (.if_icmp .le 7, 3) := by decide +kernel
theorem dX3_isSo_224 : decode cX3_isSo 224 = .ok (.iconst 1, 1) := by decide +kernel
theorem dX3_isSo_225 : decode cX3_isSo 225 = .ok (.goto 4, 3) := by decide +kernel
theorem dX3_isSo_228 : decode cX3_isSo 228 = .ok (.iconst 0, 1) := by decide +kernel
theorem dX3_isSo_229 : decode cX3_isSo 229 = .ok (.ireturn, 1) := by decide +kernel
set_option maxRecDepth 20000 in
theorem ggX3_explains_X3_isSo : GoodIn wsX3_explains wsX3_isSo := goodIn_r _ [7, 8, 9, 10, 11, 12, 13, 14, 15, 16, 17, 18, 19, 6, 20, 21, 22, 23, 24, 25, 26, 27, 28, 29, 30, 31, 1, 2, 32, 33, 34, 35, 36, 37, 38, 39, 40, 41, 42, 43, 44, 45, 46, 47, 48, 49, 50, 51, 52, 53, 54, 55, 56, 57, 58, 59, 60, 61, 62, 63, 64, 65, 66, 67, 68, 69, 70, 71, 72, 73, 74, 75, 76, 77, 78, 79, 80, 81, 82, 83, 84, 85, 86, 87, 88, 89, 90, 91, 92, 93, 94, 95, 96, 97, 98, 99, 100, 101, 102] (by decide +kernel) (by decide +kernel)
set_option maxRecDepth 20000 in
theorem gX3_explains_X3_isSo : GoodIn wsX3_explains (wsV RX3 187 RX3 yX3_isSo wsX3_isSo) := goodIn_app (goodIn_of _ (by decide +kernel)) ggX3_explains_X3_isSo
theorem dX3_explains_0 : decode cX3_explains 0 = .ok (.iload_n 3, 1) := by decide +kernel
theorem dX3_explains_1 : decode cX3_explains 1 = .ok (.ifCond .ne 12, 3) := by decide +kernel
theorem dX3_explains_4 : decode cX3_explains 4 = .ok (.aload_n 0, 1) := by decide +kernel
theorem dX3_explains_5 : decode cX3_explains 5 = .ok (.getfield 16, 3) := by decide +kernel
theorem dX3_explains_8 : decode cX3_explains 8 = .ok (.iload_n 2, 1) := by decide +kernel
theorem dX3_explains_9 : decode cX3_explains 9 = .ok (.iaload, 1) := by decide +kernel
theorem dX3_explains_10 : decode cX3_explains 10 = .ok (.goto 9, 3) := by decide +kernel
theorem dX3_explains_13 : decode cX3_explains 13 = .ok (.aload_n 0, 1) := by decide +kernel
theorem dX3_explains_14 : decode cX3_explains 14 = .ok (.getfield 19, 3) := by decide +kernel
theorem dX3_explains_17 : decode cX3_explains 17 = .ok (.iload_n 2, 1) := by decide +kernel
theorem dX3_explains_18 : decode cX3_explains 18 = .ok (.iaload, 1) := by decide +kernel
theorem dX3_explains_19 : decode cX3_explains 19 = .ok (.istore 5, 2) := by decide +kernel
theorem dX3_explains_21 : decode cX3_explains 21 = .ok (.iload 4, 2) := by decide +kernel
theorem dX3_explains_23 : decode cX3_explains 23 = .ok (.iload 5, 2) := by decide +kernel
theorem dX3_explains_25 : decode cX3_explains 25 = .ok (.if_icmp .ne 5, 3) := by decide +kernel
theorem dX3_explains_28 : decode cX3_explains 28 = .ok (.iconst 0, 1) := by decide +kernel
theorem dX3_explains_29 : decode cX3_explains 29 = .ok (.ireturn, 1) := by decide +kernel
theorem dX3_explains_30 : decode cX3_explains 30 = .ok (.iload_n 3, 1) := by decide +kernel
theorem dX3_explains_31 : decode cX3_explains 31 = .ok (.ifCond .ne 14, 3) := by decide +kernel
theorem dX3_explains_34 : decode cX3_explains 34 = .ok (.aload_n 0, 1) := by decide +kernel
theorem dX3_explains_35 : decode cX3_explains 35 = .ok (.getfield 16, 3) := by decide +kernel
theorem dX3_explains_38 : decode cX3_explains 38 = .ok (.iload_n 2, 1) := by decide +kernel
theorem dX3_explains_39 : decode cX3_explains 39 = .ok (.iload 4, 2) := by decide +kernel
theorem dX3_explains_41 : decode cX3_explains 41 = .ok (.iastore, 1) := by decide +kernel
theorem dX3_explains_42 : decode cX3_explains 42 = .ok (.goto 11, 3) := by decide +kernel
theorem dX3_explains_45 : decode cX3_explains 45 = .ok (.aload_n 0, 1) := by decide +kernel
theorem dX3_explains_46 : decode cX3_explains 46 = .ok (.getfield 19, 3) := by decide +kernel
theorem dX3_explains_49 : decode cX3_explains 49 = .ok (.iload_n 2, 1) := by decide +kernel
theorem dX3_explains_50 : decode cX3_explains 50 = .ok (.iload 4, 2) := by decide +kernel
theorem dX3_explains_52 : decode cX3_explains 52 = .ok (.iastore, 1) := by decide +kernel
theorem dX3_explains_53 : decode cX3_explains 53 = .ok (.aload_n 0, 1) := by decide +kernel
theorem dX3_explains_54 : decode cX3_explains 54 = .ok (.iload_n 1, 1) := by decide +kernel
theorem dX3_explains_55 : decode cX3_explains 55 = .ok (.invokevirtual 187, 3) := by decide +kernel
theorem dX3_explains_58 : decode cX3_explains 58 = .ok (.istore 6, 2) := by decide +kernel
theorem dX3_explains_60 : decode cX3_explains 60 = .ok (.iload_n 3, 1) := by decide +kernel
theorem dX3_explains_61 : decode cX3_explains 61 = .ok (.ifCond .ne 14, 3) := by decide +kernel
theorem dX3_explains_64 : decode cX3_explains 64 = .ok (.aload_n 0, 1) := by decide +kernel
theorem dX3_explains_65 : decode cX3_explains 65 = .ok (.getfield 16, 3) := by decide +kernel
theorem dX3_explains_68 : decode cX3_explains 68 = .ok (.iload_n 2, 1) := by decide +kernel
theorem dX3_explains_69 : decode cX3_explains 69 = .ok (.iload 5, 2) := by decide +kernel
theorem dX3_explains_71 : decode cX3_explains 71 = .ok (.iastore, 1) := by decide +kernel
theorem dX3_explains_72 : decode cX3_explains 72 = .ok (.goto 11, 3) := by decide +kernel
theorem dX3_explains_75 : decode cX3_explains 75 = .ok (.aload_n 0, 1) := by decide +kernel
theorem dX3_explains_76 : decode cX3_explains 76 = .ok (.getfield 19, 3) := by decide +kernel
theorem dX3_explains_79 : decode cX3_explains 79 = .ok (.iload_n 2, 1) := by decide +kernel
theorem dX3_explains_80 : decode cX3_explains 80 = .ok (.iload 5, 2) := by decide +kernel
theorem dX3_explains_82 : decode cX3_explains 82 = .ok (.iastore, 1) := by decide +kernel
theorem dX3_explains_83 : decode cX3_explains 83 = .ok (.iload 6, 2) := by decide +kernel
theorem dX3_explains_85 : decode cX3_explains 85 = .ok (.ireturn, 1) := by decide +kernel
set_option maxRecDepth 20000 in
theorem ggX3_explaining_X3_explains : GoodIn wsX3_explaining wsX3_explains := goodIn_r _ [8, 9, 10, 11, 12, 13, 7, 14, 15, 16, 17, 18, 19, 20, 21, 22, 23, 24, 25, 26, 27, 28, 29, 30, 31, 32, 33, 34, 35, 36, 1, 37, 38, 39, 40, 41, 42, 43, 44, 45, 46, 47, 48, 49, 50, 51, 52, 53, 54, 55, 56, 57, 58, 59, 60, 61, 62, 63, 64, 65, 66, 67, 68, 69, 70, 71, 72, 73, 74, 75, 76, 77, 78, 79, 80, 81, 82, 83, 84, 85, 86, 87, 88, 89, 90, 91, 92, 93, 94, 95, 96, 97, 98, 99, 100, 101, 102, 103, 104, 105, 106, 107, 108] (by decide +kernel) (by decide +kernel)
set_option maxRecDepth 20000 in
theorem gX3_explaining_X3_explains : GoodIn wsX3_explaining (wsV RX3 190 RX3 yX3_explains wsX3_explains) := goodIn_app (goodIn_of _ (by decide +kernel)) ggX3_explaining_X3_explains
theorem dX3_explaining_0 : decode cX3_explaining 0 = .ok (.iconst 0, 1) := by decide +kernel
theorem dX3_explaining_1 : decode cX3_explaining 1 = .ok (.istore_n 3, 1) := by decide +kernel
theorem dX3_explaining_2 : decode cX3_explaining 2 = .ok (.iconst 0, 1) := by decide +kernel
theorem dX3_explaining_3 : decode cX3_explaining 3 = .ok (.istore 4, 2) := by decide +kernel
theorem dX3_explaining_5 : decode cX3_explaining 5 = .ok (.iload 4, 2) := by decide +kernel
theorem dX3_explaining_7 : decode cX3_explaining 7 = .ok (.aload_n 0, 1) := by decide +kernel
theorem dX3_explaining_8 : decode cX3_explaining 8 = .ok (.getfield 73, 3) := by decide +kernel
theorem dX3_explaining_11 : decode cX3_explaining 11 = .ok (.if_icmp .ge 93, 3) := by decide +kernel
theorem dX3_explaining_14 : decode cX3_explaining 14 = .ok (.iconst 0, 1) := by decide +kernel
theorem dX3_explaining_15 : decode cX3_explaining 15 = .ok (.istore 5, 2) := by decide +kernel
theorem dX3_explaining_17 : decode cX3_explaining 17 = .ok (.iload 5, 2) := by decide +kernel
theorem dX3_explaining_19 : decode cX3_explaining 19 = .ok (.iconst 2, 1) := by decide +kernel
theorem dX3_explaining_20 : decode cX3_explaining 20 = .ok (.if_icmp .ge 78, 3) := by decide +kernel
theorem dX3_explaining_23 : decode cX3_explaining 23 = .ok (.iconst 0, 1) := by decide +kernel
theorem dX3_explaining_24 : decode cX3_explaining 24 = .ok (.istore 6, 2) := by decide +kernel
theorem dX3_explaining_26 : decode cX3_explaining 26 = .ok (.iload 6, 2) := by decide +kernel
theorem dX3_explaining_28 : decode cX3_explaining 28 = .ok (.aload_n 0, 1) := by decide +kernel
theorem dX3_explaining_29 : decode cX3_explaining 29 = .ok (.getfield 149, 3) := by decide +kernel
theorem dX3_explaining_32 : decode cX3_explaining 32 = .ok (.if_icmp .ge 60, 3) := by decide +kernel
theorem dX3_explaining_35 : decode cX3_explaining 35 = .ok (.aload_n 0, 1) := by decide +kernel
theorem dX3_explaining_36 : decode cX3_explaining 36 = .ok (.iload_n 1, 1) := by decide +kernel
theorem dX3_explaining_37 : decode cX3_explaining 37 = .ok (.iload 4, 2) := by decide +kernel
theorem dX3_explaining_39 : decode cX3_explaining 39 = .ok (.iload 5, 2) := by decide +kernel
theorem dX3_explaining_41 : decode cX3_explaining 41 = .ok (.aload_n 0, 1) := by decide +kernel
theorem dX3_explaining_42 : decode cX3_explaining 42 = .ok (.getfield 57, 3) := by decide +kernel
theorem dX3_explaining_45 : decode cX3_explaining 45 = .ok (.iload 6, 2) := by decide +kernel
theorem dX3_explaining_47 : decode cX3_explaining 47 = .ok (.iaload, 1) := by decide +kernel
theorem dX3_explaining_48 : decode cX3_explaining 48 = .ok (.invokevirtual 190, 3) := by decide +kernel
theorem dX3_explaining_51 : decode cX3_explaining 51 = .ok (.ifCond .ne 6, 3) := by decide +kernel
theorem dX3_explaining_54 : decode cX3_explaining 54 = .ok (.goto 32, 3) := by decide +kernel
theorem dX3_explaining_57 : decode cX3_explaining 57 = .ok (.iload_n 3, 1) := by decide +kernel
theorem dX3_explaining_58 : decode cX3_explaining 58 = .ok (.iload_n 2, 1) := by decide +kernel
theorem dX3_explaining_59 : decode cX3_explaining 59 = .ok (.if_icmp .ne 24, 3) := by decide +kernel
theorem dX3_explaining_62 : decode cX3_explaining 62 = .ok (.sipush 1000, 3) := by decide +kernel
theorem dX3_explaining_65 : decode cX3_explaining 65 = .ok (.iload 4, 2) := by decide +kernel
theorem dX3_explaining_67 : decode cX3_explaining 67 = .ok (.imul, 1) := by decide +kernel
theorem dX3_explaining_68 : decode cX3_explaining 68 = .ok (.bipush 100, 2) := by decide +kernel
theorem dX3_explaining_70 : decode cX3_explaining 70 = .ok (.iload 5, 2) := by decide +kernel
theorem dX3_explaining_72 : decode cX3_explaining 72 = .ok (.imul, 1) := by decide +kernel
theorem dX3_explaining_73 : decode cX3_explaining 73 = .ok (.iadd, 1) := by decide +kernel
theorem dX3_explaining_74 : decode cX3_explaining 74 = .ok (.aload_n 0, 1) := by decide +kernel
theorem dX3_explaining_75 : decode cX3_explaining 75 = .ok (.getfield 57, 3) := by decide +kernel
theorem dX3_explaining_78 : decode cX3_explaining 78 = .ok (.iload 6, 2) := by decide +kernel
theorem dX3_explaining_80 : decode cX3_explaining 80 = .ok (.iaload, 1) := by decide +kernel
theorem dX3_explaining_81 : decode cX3_explaining 81 = .ok (.iadd, 1) := by decide +kernel
theorem dX3_explaining_82 : decode cX3_explaining 82 = .ok (.ireturn, 1) := by decide +kernel
theorem dX3_explaining_83 : decode cX3_explaining 83 = .ok (.iinc 3 1, 3) := by decide +kernel
theorem dX3_explaining_86 : decode cX3_explaining 86 = .ok (.iinc 6 1, 3) := by decide +kernel
theorem dX3_explaining_89 : decode cX3_explaining 89 = .ok (.goto (-63), 3) := by decide +kernel
theorem dX3_explaining_92 : decode cX3_explaining 92 = .ok (.iinc 5 1, 3) := by decide +kernel
theorem dX3_explaining_95 : decode cX3_explaining 95 = .ok (.goto (-78), 3) := by decide +kernel
theorem dX3_explaining_98 : decode cX3_explaining 98 = .ok (.iinc 4 1, 3) := by decide +kernel
theorem dX3_explaining_101 : decode cX3_explaining 101 = .ok (.goto (-96), 3) := by decide +kernel
theorem dX3_explaining_104 : decode cX3_explaining 104 = .ok (.iload_n 2, 1) := by decide +kernel
theorem dX3_explaining_105 : decode cX3_explaining 105 = .ok (.iconst (-1), 1) := by decide +kernel
theorem dX3_explaining_106 : decode cX3_explaining 106 = .ok (.if_icmp .ne 7, 3) := by decide +kernel
theorem dX3_explaining_109 : decode cX3_explaining 109 = .ok (.iload_n 3, 1) := by decide +kernel
theorem dX3_explaining_110 : decode cX3_explaining 110 = .ok (.goto 4, 3) := by decide +kernel
theorem dX3_explaining_113 : decode cX3_explaining 113 = .ok (.iconst (-1), 1) := by decide +kernel
theorem dX3_explaining_114 : decode cX3_explaining 114 = .ok (.ireturn, 1) := by decide +kernel
set_option maxRecDepth 20000 in
theorem ggX3_faults_X3_isCell : GoodIn wsX3_faults wsX3_isCell := goodIn_r _ [6, 7, 8, 9, 5, 10, 93, 94, 95, 96, 97, 98, 99, 100, 101, 102, 103, 104, 105, 106, 107, 108, 109, 110, 111, 112, 113, 114, 115, 116, 117, 118, 119, 120] (by decide +kernel) (by decide +kernel)
set_option maxRecDepth 20000 in
theorem gX3_faults_X3_isCell : GoodIn wsX3_faults (wsV RX3 97 RX3 yX3_isCell wsX3_isCell) := goodIn_app (goodIn_of _ (by decide +kernel)) ggX3_faults_X3_isCell
set_option maxRecDepth 20000 in
theorem ggX3_faults_X3_explaining : GoodIn wsX3_faults wsX3_explaining := goodIn_r _ [14, 7, 15, 16, 17, 18, 19, 5, 20, 21, 22, 23, 24, 25, 26, 27, 28, 29, 30, 31, 32, 33, 34, 35, 36, 37, 38, 39, 40, 41, 42, 43, 44, 45, 46, 47, 48, 49, 50, 51, 52, 53, 54, 55, 56, 57, 58, 59, 60, 61, 62, 63, 64, 65, 66, 67, 68, 69, 70, 71, 72, 73, 74, 75, 76, 77, 78, 79, 80, 81, 82, 83, 84, 85, 86, 87, 88, 89, 90, 91, 92, 93, 94, 95, 96, 97, 98, 99, 100, 101, 102, 103, 104, 105, 106, 107, 108, 109, 110, 111, 112, 113, 114, 115, 116, 117, 118, 119, 120] (by decide +kernel) (by decide +kernel)
set_option maxRecDepth 20000 in
theorem gX3_faults_X3_explaining : GoodIn wsX3_faults (wsV RX3 194 RX3 yX3_explaining wsX3_explaining) := goodIn_app (goodIn_of _ (by decide +kernel)) ggX3_faults_X3_explaining
theorem dX3_faults_0 : decode cX3_faults 0 = .ok (.aload_n 0, 1) := by decide +kernel
theorem dX3_faults_1 : decode cX3_faults 1 = .ok (.iconst 0, 1) := by decide +kernel
theorem dX3_faults_2 : decode cX3_faults 2 = .ok (.putfield 69, 3) := by decide +kernel
theorem dX3_faults_5 : decode cX3_faults 5 = .ok (.aload_n 0, 1) := by decide +kernel
theorem dX3_faults_6 : decode cX3_faults 6 = .ok (.iload_n 1, 1) := by decide +kernel
theorem dX3_faults_7 : decode cX3_faults 7 = .ok (.invokevirtual 97, 3) := by decide +kernel
theorem dX3_faults_10 : decode cX3_faults 10 = .ok (.ifCond .eq 12, 3) := by decide +kernel
theorem dX3_faults_13 : decode cX3_faults 13 = .ok (.aload_n 0, 1) := by decide +kernel
theorem dX3_faults_14 : decode cX3_faults 14 = .ok (.iload_n 1, 1) := by decide +kernel
theorem dX3_faults_15 : decode cX3_faults 15 = .ok (.iconst (-1), 1) := by decide +kernel
theorem dX3_faults_16 : decode cX3_faults 16 = .ok (.invokevirtual 194, 3) := by decide +kernel
theorem dX3_faults_19 : decode cX3_faults 19 = .ok (.goto 4, 3) := by decide +kernel
theorem dX3_faults_22 : decode cX3_faults 22 = .ok (.iconst (-1), 1) := by decide +kernel
theorem dX3_faults_23 : decode cX3_faults 23 = .ok (.ireturn, 1) := by decide +kernel
set_option maxRecDepth 20000 in
theorem ggX3_fault_X3_isCell : GoodIn wsX3_fault wsX3_isCell := goodIn_r _ [6, 7, 8, 9, 5, 10, 93, 94, 95, 96, 97, 98, 99, 100, 101, 102, 103, 104, 105, 106, 107, 108, 109, 110, 111, 112, 113, 114, 115, 116, 117, 118, 119, 120] (by decide +kernel) (by decide +kernel)
set_option maxRecDepth 20000 in
theorem gX3_fault_X3_isCell : GoodIn wsX3_fault (wsV RX3 97 RX3 yX3_isCell wsX3_isCell) := goodIn_app (goodIn_of _ (by decide +kernel)) ggX3_fault_X3_isCell
set_option maxRecDepth 20000 in
theorem ggX3_fault_X3_explaining : GoodIn wsX3_fault wsX3_explaining := goodIn_r _ [14, 7, 15, 16, 17, 18, 19, 5, 20, 21, 22, 23, 24, 25, 26, 27, 28, 29, 30, 31, 32, 33, 34, 35, 36, 37, 38, 39, 40, 41, 42, 43, 44, 45, 46, 47, 48, 49, 50, 51, 52, 53, 54, 55, 56, 57, 58, 59, 60, 61, 62, 63, 64, 65, 66, 67, 68, 69, 70, 71, 72, 73, 74, 75, 76, 77, 78, 79, 80, 81, 82, 83, 84, 85, 86, 87, 88, 89, 90, 91, 92, 93, 94, 95, 96, 97, 98, 99, 100, 101, 102, 103, 104, 105, 106, 107, 108, 109, 110, 111, 112, 113, 114, 115, 116, 117, 118, 119, 120] (by decide +kernel) (by decide +kernel)
set_option maxRecDepth 20000 in
theorem gX3_fault_X3_explaining : GoodIn wsX3_fault (wsV RX3 194 RX3 yX3_explaining wsX3_explaining) := goodIn_app (goodIn_of _ (by decide +kernel)) ggX3_fault_X3_explaining
theorem dX3_fault_0 : decode cX3_fault 0 = .ok (.aload_n 0, 1) := by decide +kernel
theorem dX3_fault_1 : decode cX3_fault 1 = .ok (.iconst 0, 1) := by decide +kernel
theorem dX3_fault_2 : decode cX3_fault 2 = .ok (.putfield 69, 3) := by decide +kernel
theorem dX3_fault_5 : decode cX3_fault 5 = .ok (.aload_n 0, 1) := by decide +kernel
theorem dX3_fault_6 : decode cX3_fault 6 = .ok (.iload_n 1, 1) := by decide +kernel
theorem dX3_fault_7 : decode cX3_fault 7 = .ok (.invokevirtual 97, 3) := by decide +kernel
theorem dX3_fault_10 : decode cX3_fault 10 = .ok (.ifCond .eq 16, 3) := by decide +kernel
theorem dX3_fault_13 : decode cX3_fault 13 = .ok (.iload_n 2, 1) := by decide +kernel
theorem dX3_fault_14 : decode cX3_fault 14 = .ok (.ifCond .lt 12, 3) := by decide +kernel
theorem dX3_fault_17 : decode cX3_fault 17 = .ok (.aload_n 0, 1) := by decide +kernel
theorem dX3_fault_18 : decode cX3_fault 18 = .ok (.iload_n 1, 1) := by decide +kernel
theorem dX3_fault_19 : decode cX3_fault 19 = .ok (.iload_n 2, 1) := by decide +kernel
theorem dX3_fault_20 : decode cX3_fault 20 = .ok (.invokevirtual 194, 3) := by decide +kernel
theorem dX3_fault_23 : decode cX3_fault 23 = .ok (.goto 4, 3) := by decide +kernel
theorem dX3_fault_26 : decode cX3_fault 26 = .ok (.iconst (-1), 1) := by decide +kernel
theorem dX3_fault_27 : decode cX3_fault 27 = .ok (.ireturn, 1) := by decide +kernel
set_option maxRecDepth 20000 in
theorem ggX3_fits_X3_isCell : GoodIn wsX3_fits wsX3_isCell := goodIn_r _ [6, 7, 8, 9, 5, 10, 83, 84, 85, 86, 87, 88, 89, 90, 91, 92, 93, 94, 95, 96, 97, 98, 99, 100, 101, 102, 103, 104, 105, 106, 107, 108, 109, 110] (by decide +kernel) (by decide +kernel)
set_option maxRecDepth 20000 in
theorem gX3_fits_X3_isCell : GoodIn wsX3_fits (wsV RX3 97 RX3 yX3_isCell wsX3_isCell) := goodIn_app (goodIn_of _ (by decide +kernel)) ggX3_fits_X3_isCell
set_option maxRecDepth 20000 in
theorem ggX3_fits_X3_isSo : GoodIn wsX3_fits wsX3_isSo := goodIn_r _ [14, 15, 16, 17, 18, 19, 20, 21, 22, 23, 24, 25, 26, 5, 27, 28, 29, 30, 31, 32, 33, 34, 35, 36, 7, 37, 38, 39, 40, 41, 42, 43, 44, 45, 46, 47, 48, 49, 50, 51, 52, 53, 54, 55, 56, 57, 58, 59, 60, 61, 62, 63, 64, 65, 66, 67, 68, 69, 70, 71, 72, 73, 74, 75, 76, 77, 78, 79, 80, 81, 82, 83, 84, 85, 86, 87, 88, 89, 90, 91, 92, 93, 94, 95, 96, 97, 98, 99, 100, 101, 102, 103, 104, 105, 106, 107, 108, 109, 110] (by decide +kernel) (by decide +kernel)
set_option maxRecDepth 20000 in
theorem gX3_fits_X3_isSo : GoodIn wsX3_fits (wsV RX3 187 RX3 yX3_isSo wsX3_isSo) := goodIn_app (goodIn_of _ (by decide +kernel)) ggX3_fits_X3_isSo
theorem dX3_fits_0 : decode cX3_fits 0 = .ok (.aload_n 0, 1) := by decide +kernel
theorem dX3_fits_1 : decode cX3_fits 1 = .ok (.iconst 0, 1) := by decide +kernel
theorem dX3_fits_2 : decode cX3_fits 2 = .ok (.putfield 69, 3) := by decide +kernel
theorem dX3_fits_5 : decode cX3_fits 5 = .ok (.aload_n 0, 1) := by decide +kernel
theorem dX3_fits_6 : decode cX3_fits 6 = .ok (.iload_n 1, 1) := by decide +kernel
theorem dX3_fits_7 : decode cX3_fits 7 = .ok (.invokevirtual 97, 3) := by decide +kernel
theorem dX3_fits_10 : decode cX3_fits 10 = .ok (.ifCond .eq 19, 3) := by decide +kernel
theorem dX3_fits_13 : decode cX3_fits 13 = .ok (.aload_n 0, 1) := by decide +kernel
theorem dX3_fits_14 : decode cX3_fits 14 = .ok (.iload_n 1, 1) := by decide +kernel
theorem dX3_fits_15 : decode cX3_fits 15 = .ok (.invokevirtual 187, 3) := by decide +kernel
theorem dX3_fits_18 : decode cX3_fits 18 = .ok (.ifCond .eq 7, 3) := by decide +kernel
theorem dX3_fits_21 : decode cX3_fits 21 = .ok (.iconst 1, 1) := by decide +kernel
theorem dX3_fits_22 : decode cX3_fits 22 = .ok (.goto 8, 3) := by decide +kernel
theorem dX3_fits_25 : decode cX3_fits 25 = .ok (.iconst 0, 1) := by decide +kernel
theorem dX3_fits_26 : decode cX3_fits 26 = .ok (.goto 4, 3) := by decide +kernel
theorem dX3_fits_29 : decode cX3_fits 29 = .ok (.iconst (-1), 1) := by decide +kernel
theorem dX3_fits_30 : decode cX3_fits 30 = .ok (.ireturn, 1) := by decide +kernel
theorem dJ9_abs_067f4_0 : decode cJ9_abs_067f4 0 = .ok (.lload_n 0, 1) := by decide +kernel
theorem dJ9_abs_067f4_1 : decode cJ9_abs_067f4 1 = .ok (.lconst 0, 1) := by decide +kernel
theorem dJ9_abs_067f4_2 : decode cJ9_abs_067f4 2 = .ok (.lcmp, 1) := by decide +kernel
theorem dJ9_abs_067f4_3 : decode cJ9_abs_067f4 3 = .ok (.ifCond .ge 8, 3) := by decide +kernel
theorem dJ9_abs_067f4_6 : decode cJ9_abs_067f4 6 = .ok (.lload_n 0, 1) := by decide +kernel
theorem dJ9_abs_067f4_7 : decode cJ9_abs_067f4 7 = .ok (.lneg, 1) := by decide +kernel
theorem dJ9_abs_067f4_8 : decode cJ9_abs_067f4 8 = .ok (.goto 4, 3) := by decide +kernel
theorem dJ9_abs_067f4_11 : decode cJ9_abs_067f4 11 = .ok (.lload_n 0, 1) := by decide +kernel
theorem dJ9_abs_067f4_12 : decode cJ9_abs_067f4 12 = .ok (.lreturn, 1) := by decide +kernel
set_option maxRecDepth 20000 in
theorem ggL_of_X2_of : GoodIn wsL_of wsX2_of := goodIn_ca (goodIn_r _ [6, 7, 8, 9, 10, 11, 12, 13, 14, 15, 16, 17, 5, 18, 19, 20, 21, 22, 23, 24, 25, 26, 27, 28, 29, 30, 31, 32, 33, 34, 35, 36, 37, 38, 39, 40, 41, 42, 43, 44, 45, 46, 47, 48, 49, 50, 51, 52, 53, 54, 55, 56, 57, 58, 59, 60, 61, 62, 63, 64, 65, 66, 67, 68, 69, 70, 71, 72, 73, 74, 75] (by decide +kernel) (by decide +kernel)) (goodIn_sub (fun _ h => List.mem_cons_of_mem _ (List.mem_append_right _ h)) (by decide +kernel))
set_option maxRecDepth 20000 in
theorem gL_of_X2_of : GoodIn wsL_of (wsV RL 7 RX2 yX2_of wsX2_of) := goodIn_app (goodIn_of _ (by decide +kernel)) ggL_of_X2_of
theorem dL_of_0 : decode cL_of 0 = .ok (.aload_n 3, 1) := by decide +kernel
theorem dL_of_1 : decode cL_of 1 = .ok (.iconst 0, 1) := by decide +kernel
theorem dL_of_2 : decode cL_of 2 = .ok (.aload_n 0, 1) := by decide +kernel
theorem dL_of_3 : decode cL_of 3 = .ok (.iload_n 1, 1) := by decide +kernel
theorem dL_of_4 : decode cL_of 4 = .ok (.iload_n 2, 1) := by decide +kernel
theorem dL_of_5 : decode cL_of 5 = .ok (.invokevirtual 7, 3) := by decide +kernel
theorem dL_of_8 : decode cL_of 8 = .ok (.i2l, 1) := by decide +kernel
theorem dL_of_9 : decode cL_of 9 = .ok (.lastore, 1) := by decide +kernel
theorem dL_of_10 : decode cL_of 10 = .ok (.goto 7, 3) := by decide +kernel
theorem dL_of_13 : decode cL_of 13 = .ok (.astore 4, 2) := by decide +kernel
theorem dL_of_15 : decode cL_of 15 = .ok (.iconst 1, 1) := by decide +kernel
theorem dL_of_16 : decode cL_of 16 = .ok (.ireturn, 1) := by decide +kernel
theorem dL_of_17 : decode cL_of 17 = .ok (.iconst 0, 1) := by decide +kernel
theorem dL_of_18 : decode cL_of 18 = .ok (.ireturn, 1) := by decide +kernel
set_option maxRecDepth 20000 in
theorem ggL_law_X2_init : GoodIn wsL_law wsX2_init := goodIn_r _ [9, 10, 11, 12, 13, 14, 15, 16, 17, 18, 19, 20, 21, 22, 23, 24, 25, 6, 26, 27, 28, 29, 30, 31, 32, 33, 34, 35, 36, 37, 38, 39, 40, 41, 42, 43, 44, 45, 46, 47, 48, 49, 50, 51, 52, 53, 54, 55, 56, 57, 58, 59, 60, 61, 62, 63, 64, 65, 600, 601, 602, 603, 604, 605, 606, 607, 608, 609, 610, 611, 555, 556, 557, 558, 559, 560, 561, 562, 563, 564, 565, 566, 567, 568, 569, 570, 571, 612, 613, 614, 615, 616, 617, 618, 619, 620, 621] (by decide +kernel) (by decide +kernel)
set_option maxRecDepth 20000 in
theorem gL_law_X2_init : GoodIn wsL_law (wsX2_init) := ggL_law_X2_init
set_option maxRecDepth 20000 in
theorem ggL_law_X3_init : GoodIn wsL_law wsX3_init := goodIn_r _ [68, 69, 11, 12, 23, 70, 71, 72, 73, 74, 6, 75, 76, 77, 78, 79, 80, 81, 82, 83, 84, 85, 86, 87, 88, 89, 90, 5, 91, 572, 573, 574, 575, 576, 577, 578, 579, 580, 581, 582, 583, 584, 585, 586, 587, 588, 589, 590, 591, 592, 593, 594, 595, 596, 597, 598, 599] (by decide +kernel) (by decide +kernel)
set_option maxRecDepth 20000 in
theorem gL_law_X3_init : GoodIn wsL_law (wsX3_init) := ggL_law_X3_init
set_option maxRecDepth 20000 in
theorem ggL_law_X2_cell : GoodIn wsL_law wsX2_cell := goodIn_r _ [95, 16, 96, 97, 98, 99, 100, 101, 102, 2, 103, 104, 105, 106, 107, 20, 22, 24, 25, 108, 109, 110, 19, 111, 55, 56, 57, 112, 58, 60, 61, 555, 556, 557, 558, 559, 560, 561, 562, 563, 564, 565, 566, 567, 568, 569, 570, 571, 600, 601, 602, 603, 604, 605, 606, 607, 608, 609, 610, 611, 612, 613, 614, 615, 616, 617, 618, 619, 620, 621] (by decide +kernel) (by decide +kernel)
set_option maxRecDepth 20000 in
theorem gL_law_X2_cell : GoodIn wsL_law (wsV RL 19 RX2 yX2_cell wsX2_cell) := goodIn_app (goodIn_of _ (by decide +kernel)) ggL_law_X2_cell
set_option maxRecDepth 20000 in
theorem ggL_law_X3_cell : GoodIn wsL_law wsX3_cell := goodIn_r _ [116, 117, 118, 70, 71, 72, 73, 119, 120, 5, 121, 88, 89, 90, 91, 75, 572, 573, 574, 575, 576, 577, 578, 579, 580, 581, 582, 583, 584, 585, 586, 587, 588, 589, 590, 591, 592, 593, 594, 595, 596, 597, 598, 599] (by decide +kernel) (by decide +kernel)
set_option maxRecDepth 20000 in
theorem gL_law_X3_cell : GoodIn wsL_law (wsV RL 23 RX3 yX3_cell wsX3_cell) := goodIn_app (goodIn_of _ (by decide +kernel)) ggL_law_X3_cell
set_option maxRecDepth 20000 in
theorem ggL_law_X2_link : GoodIn wsL_law wsX2_link := goodIn_r _ [125, 16, 126, 127, 128, 129, 130, 131, 132, 133, 134, 135, 2, 136, 96, 137, 138, 139, 104, 105, 106, 107, 20, 22, 24, 25, 108, 109, 110, 19, 111, 55, 56, 57, 112, 58, 60, 61, 555, 556, 557, 558, 559, 560, 561, 562, 563, 564, 565, 566, 567, 568, 569, 570, 571, 600, 601, 602, 603, 604, 605, 606, 607, 608, 609, 610, 611, 612, 613, 614, 615, 616, 617, 618, 619, 620, 621] (by decide +kernel) (by decide +kernel)
set_option maxRecDepth 20000 in
theorem gL_law_X2_link : GoodIn wsL_law (wsV RL 24 RX2 yX2_link wsX2_link) := goodIn_app (goodIn_of _ (by decide +kernel)) ggL_law_X2_link
set_option maxRecDepth 20000 in
theorem ggL_law_X3_link : GoodIn wsL_law wsX3_link := goodIn_r _ [143, 117, 144, 23, 74, 145, 146, 147, 5, 148, 118, 119, 120, 121, 88, 89, 90, 91, 75, 70, 572, 573, 574, 575, 576, 577, 578, 579, 580, 581, 582, 583, 584, 585, 586, 587, 588, 589, 590, 591, 592, 593, 594, 595, 596, 597, 598, 599] (by decide +kernel) (by decide +kernel)
set_option maxRecDepth 20000 in
theorem gL_law_X3_link : GoodIn wsL_law (wsV RL 28 RX3 yX3_link wsX3_link) := goodIn_app (goodIn_of _ (by decide +kernel)) ggL_law_X3_link
set_option maxRecDepth 20000 in
theorem ggL_law_X2_clear : GoodIn wsL_law wsX2_clear := goodIn_r _ [152, 16, 96, 126, 104, 105, 106, 2, 107, 20, 22, 24, 25, 108, 109, 110, 19, 111, 55, 56, 57, 112, 58, 60, 61, 555, 556, 557, 558, 559, 560, 561, 562, 563, 564, 565, 566, 567, 568, 569, 570, 571, 600, 601, 602, 603, 604, 605, 606, 607, 608, 609, 610, 611, 612, 613, 614, 615, 616, 617, 618, 619, 620, 621] (by decide +kernel) (by decide +kernel)
set_option maxRecDepth 20000 in
theorem gL_law_X2_clear : GoodIn wsL_law (wsV RL 29 RX2 yX2_clear wsX2_clear) := goodIn_app (goodIn_of _ (by decide +kernel)) ggL_law_X2_clear
set_option maxRecDepth 20000 in
theorem ggL_law_X3_clear : GoodIn wsL_law wsX3_clear := goodIn_r _ [156, 117, 118, 144, 88, 89, 90, 5, 91, 75, 70, 572, 573, 574, 575, 576, 577, 578, 579, 580, 581, 582, 583, 584, 585, 586, 587, 588, 589, 590, 591, 592, 593, 594, 595, 596, 597, 598, 599] (by decide +kernel) (by decide +kernel)
set_option maxRecDepth 20000 in
theorem gL_law_X3_clear : GoodIn wsL_law (wsV RL 33 RX3 yX3_clear wsX3_clear) := goodIn_app (goodIn_of _ (by decide +kernel)) ggL_law_X3_clear
set_option maxRecDepth 20000 in
theorem ggL_law_X2_reset : GoodIn wsL_law wsX2_reset := goodIn_r _ [160, 22, 104, 105, 106, 2, 107, 20, 16, 24, 25, 108, 109, 110, 19, 111, 55, 56, 57, 112, 58, 60, 61, 555, 556, 557, 558, 559, 560, 561, 562, 563, 564, 565, 566, 567, 568, 569, 570, 571, 612, 613, 614, 615, 616, 617, 618, 619, 620, 621, 600, 601, 602, 603, 604, 605, 606, 607, 608, 609, 610, 611] (by decide +kernel) (by decide +kernel)
set_option maxRecDepth 20000 in
theorem gL_law_X2_reset : GoodIn wsL_law (wsV RL 34 RX2 yX2_reset wsX2_reset) := goodIn_app (goodIn_of _ (by decide +kernel)) ggL_law_X2_reset
set_option maxRecDepth 20000 in
theorem ggL_law_X3_reset : GoodIn wsL_law wsX3_reset := goodIn_r _ [164, 117, 75, 88, 89, 90, 5, 91, 70, 572, 573, 574, 575, 576, 577, 578, 579, 580, 581, 582, 583, 584, 585, 586, 587, 588, 589, 590, 591, 592, 593, 594, 595, 596, 597, 598, 599] (by decide +kernel) (by decide +kernel)
set_option maxRecDepth 20000 in
theorem gL_law_X3_reset : GoodIn wsL_law (wsV RL 37 RX3 yX3_reset wsX3_reset) := goodIn_app (goodIn_of _ (by decide +kernel)) ggL_law_X3_reset
set_option maxRecDepth 20000 in
theorem ggL_law_X2_set : GoodIn wsL_law wsX2_set := goodIn_r _ [168, 16, 133, 134, 135, 2, 136, 96, 101, 102, 103, 169, 170, 171, 15, 172, 43, 44, 104, 105, 106, 107, 20, 22, 24, 25, 108, 109, 110, 19, 111, 55, 56, 57, 112, 58, 60, 61, 555, 556, 557, 558, 559, 560, 561, 562, 563, 564, 565, 566, 567, 568, 569, 570, 571, 600, 601, 602, 603, 604, 605, 606, 607, 608, 609, 610, 611, 612, 613, 614, 615, 616, 617, 618, 619, 620, 621] (by decide +kernel) (by decide +kernel)
set_option maxRecDepth 20000 in
theorem gL_law_X2_set : GoodIn wsL_law (wsV RL 38 RX2 yX2_set wsX2_set) := goodIn_app (goodIn_of _ (by decide +kernel)) ggL_law_X2_set
set_option maxRecDepth 20000 in
theorem ggL_law_X3_set : GoodIn wsL_law wsX3_set := goodIn_r _ [176, 117, 72, 73, 145, 146, 147, 5, 148, 118, 119, 120, 121, 88, 89, 90, 91, 75, 70, 572, 573, 574, 575, 576, 577, 578, 579, 580, 581, 582, 583, 584, 585, 586, 587, 588, 589, 590, 591, 592, 593, 594, 595, 596, 597, 598, 599] (by decide +kernel) (by decide +kernel)
set_option maxRecDepth 20000 in
theorem gL_law_X3_set : GoodIn wsL_law (wsV RL 42 RX3 yX3_set wsX3_set) := goodIn_app (goodIn_of _ (by decide +kernel)) ggL_law_X3_set
set_option maxRecDepth 20000 in
theorem ggL_law_X2_run : GoodIn wsL_law wsX2_run := goodIn_r _ [180, 21, 20, 16, 181, 182, 183, 19, 184, 55, 56, 57, 58, 60, 61, 185, 186, 187, 188, 189, 62, 63, 190, 191, 192, 193, 194, 112, 195, 196, 65, 64, 197, 198, 199, 200, 201, 2, 202, 203, 204, 205, 206, 207, 208, 209, 210, 211, 212, 213, 214, 215, 216, 217, 218, 219, 220, 221, 222, 223, 224, 225, 226, 227, 228, 229, 230, 231, 232, 233, 234, 22, 26, 235, 24, 236, 25, 237, 238, 239, 240, 241, 242, 555, 556, 557, 558, 559, 560, 561, 562, 563, 564, 565, 566, 567, 568, 569, 570, 571, 612, 613, 614, 615, 616, 617, 618, 619, 620, 621, 600, 601, 602, 603, 604, 605, 606, 607, 608, 609, 610, 611] (by decide +kernel) (by decide +kernel)
set_option maxRecDepth 20000 in
theorem gL_law_X2_run : GoodIn wsL_law (wsV RL 43 RX2 yX2_run wsX2_run) := goodIn_app (goodIn_of _ (by decide +kernel)) ggL_law_X2_run
set_option maxRecDepth 20000 in
theorem ggL_law_X3_run : GoodIn wsL_law wsX3_run := goodIn_r _ [246, 117, 119, 120, 5, 121, 247, 248, 249, 250, 118, 75, 76, 251, 252, 253, 254, 72, 73, 144, 82, 255, 78, 79, 80, 81, 256, 257, 258, 259, 260, 261, 262, 71, 70, 263, 264, 265, 266, 267, 268, 269, 270, 271, 272, 273, 274, 275, 276, 277, 278, 279, 280, 281, 282, 283, 284, 285, 74, 286, 287, 288, 289, 290, 291, 292, 293, 572, 573, 574, 575, 576, 577, 578, 579, 580, 581, 582, 583, 584, 585, 586, 587, 588, 589, 590, 591, 592, 593, 594, 595, 596, 597, 598, 599] (by decide +kernel) (by decide +kernel)
set_option maxRecDepth 20000 in
theorem gL_law_X3_run : GoodIn wsL_law (wsV RL 47 RX3 yX3_run wsX3_run) := goodIn_app (goodIn_of _ (by decide +kernel)) ggL_law_X3_run
set_option maxRecDepth 20000 in
theorem ggL_law_X2_count : GoodIn wsL_law wsX2_count := goodIn_r _ [297, 16, 96, 126, 22, 20, 298, 299, 31, 34, 300, 301, 302, 2, 303, 21, 181, 182, 183, 19, 184, 55, 56, 57, 58, 60, 61, 185, 186, 187, 188, 189, 62, 63, 190, 191, 192, 193, 194, 112, 195, 196, 65, 64, 197, 198, 199, 200, 201, 202, 203, 204, 205, 206, 207, 208, 209, 210, 211, 212, 213, 214, 215, 216, 217, 218, 219, 220, 221, 222, 223, 224, 225, 226, 227, 228, 229, 230, 555, 556, 557, 558, 559, 560, 561, 562, 563, 564, 565, 566, 567, 568, 569, 570, 571, 600, 601, 602, 603, 604, 605, 606, 607, 608, 609, 610, 611, 612, 613, 614, 615, 616, 617, 618, 619, 620, 621] (by decide +kernel) (by decide +kernel)
set_option maxRecDepth 20000 in
theorem gL_law_X2_count : GoodIn wsL_law (wsV RL 48 RX2 yX2_count wsX2_count) := goodIn_app (goodIn_of _ (by decide +kernel)) ggL_law_X2_count
set_option maxRecDepth 20000 in
theorem ggL_law_X3_count : GoodIn wsL_law wsX3_count := goodIn_r _ [307, 117, 118, 144, 75, 308, 309, 310, 311, 312, 5, 313, 77, 82, 256, 257, 258, 247, 248, 249, 250, 76, 251, 252, 253, 254, 72, 73, 255, 78, 79, 80, 81, 259, 260, 261, 262, 71, 70, 263, 264, 265, 266, 267, 268, 269, 270, 271, 272, 273, 274, 275, 276, 277, 278, 279, 280, 281, 282, 283, 284, 285, 74, 286, 287, 288, 289, 290, 291, 292, 293, 572, 573, 574, 575, 576, 577, 578, 579, 580, 581, 582, 583, 584, 585, 586, 587, 588, 589, 590, 591, 592, 593, 594, 595, 596, 597, 598, 599] (by decide +kernel) (by decide +kernel)
set_option maxRecDepth 20000 in
theorem gL_law_X3_count : GoodIn wsL_law (wsV RL 51 RX3 yX3_count wsX3_count) := goodIn_app (goodIn_of _ (by decide +kernel)) ggL_law_X3_count
set_option maxRecDepth 20000 in
theorem ggL_law_L_of : GoodIn wsL_law wsL_of := goodIn_ca (goodIn_r _ [317, 318, 319, 320, 321, 2, 322, 323, 324, 20, 325, 326, 327, 24, 25, 133, 134, 135, 136, 16, 96, 328, 329, 330, 331, 99, 100, 332, 333, 334, 15, 335, 42, 41, 336, 201, 202, 555, 556, 557, 558, 559, 560, 561, 562, 563, 564, 565, 566, 567, 568, 569, 570, 571, 612, 613, 614, 615, 616, 617, 618, 619, 620, 621, 600, 601, 602, 603, 604, 605, 606, 607, 608, 609, 610, 611] (by decide +kernel) (by decide +kernel)) (goodIn_sub (fun _ h => List.mem_append_right _ h) (by decide +kernel))
set_option maxRecDepth 20000 in
theorem gL_law_L_of : GoodIn wsL_law (va_wsS RL 52 yL_of wsL_of) := goodIn_app (goodIn_of _ (by decide +kernel)) ggL_law_L_of
set_option maxRecDepth 20000 in
theorem ggL_law_X3_of : GoodIn wsL_law wsX3_of := goodIn_r _ [340, 117, 72, 73, 75, 251, 252, 145, 146, 147, 5, 148, 118, 119, 120, 121, 341, 342, 343, 344, 71, 70, 267, 268, 269, 270, 271, 272, 273, 274, 275, 276, 277, 572, 573, 574, 575, 576, 577, 578, 579, 580, 581, 582, 583, 584, 585, 586, 587, 588, 589, 590, 591, 592, 593, 594, 595, 596, 597, 598, 599] (by decide +kernel) (by decide +kernel)
set_option maxRecDepth 20000 in
theorem gL_law_X3_of : GoodIn wsL_law (wsV RL 57 RX3 yX3_of wsX3_of) := goodIn_app (goodIn_of _ (by decide +kernel)) ggL_law_X3_of
set_option maxRecDepth 20000 in
theorem ggL_law_X3_thrown : GoodIn wsL_law wsX3_thrown := goodIn_r _ [348, 117, 572, 573, 574, 575, 576, 577, 578, 579, 580, 581, 582, 583, 584, 585, 586, 587, 588, 589, 590, 591, 592, 593, 594, 595, 596, 597, 598, 599] (by decide +kernel) (by decide +kernel)
set_option maxRecDepth 20000 in
theorem gL_law_X3_thrown : GoodIn wsL_law (wsV RL 58 RX3 yX3_thrown wsX3_thrown) := goodIn_app (goodIn_of _ (by decide +kernel)) ggL_law_X3_thrown
set_option maxRecDepth 20000 in
theorem ggL_law_X2_counted : GoodIn wsL_law wsX2_counted := goodIn_r _ [352, 16, 126, 20, 353, 555, 556, 557, 558, 559, 560, 561, 562, 563, 564, 565, 566, 567, 568, 569, 570, 571, 600, 601, 602, 603, 604, 605, 606, 607, 608, 609, 610, 611, 612, 613, 614, 615, 616, 617, 618, 619, 620, 621] (by decide +kernel) (by decide +kernel)
set_option maxRecDepth 20000 in
theorem gL_law_X2_counted : GoodIn wsL_law (wsV RL 61 RX2 yX2_counted wsX2_counted) := goodIn_app (goodIn_of _ (by decide +kernel)) ggL_law_X2_counted
set_option maxRecDepth 20000 in
theorem ggL_law_X3_counted : GoodIn wsL_law wsX3_counted := goodIn_r _ [357, 117, 144, 75, 119, 120, 5, 121, 572, 573, 574, 575, 576, 577, 578, 579, 580, 581, 582, 583, 584, 585, 586, 587, 588, 589, 590, 591, 592, 593, 594, 595, 596, 597, 598, 599] (by decide +kernel) (by decide +kernel)
set_option maxRecDepth 20000 in
theorem gL_law_X3_counted : GoodIn wsL_law (wsV RL 64 RX3 yX3_counted wsX3_counted) := goodIn_app (goodIn_of _ (by decide +kernel)) ggL_law_X3_counted
set_option maxRecDepth 20000 in
theorem ggL_law_X2_event : GoodIn wsL_law wsX2_event := goodIn_r _ [361, 22, 26, 362, 363, 2, 364, 365, 366, 367, 368, 369, 370, 371, 372, 373, 374, 555, 556, 557, 558, 559, 560, 561, 562, 563, 564, 565, 566, 567, 568, 569, 570, 571] (by decide +kernel) (by decide +kernel)
set_option maxRecDepth 20000 in
theorem gL_law_X2_event : GoodIn wsL_law (wsV RL 65 RX2 yX2_event wsX2_event) := goodIn_app (goodIn_of _ (by decide +kernel)) ggL_law_X2_event
set_option maxRecDepth 20000 in
theorem ggL_law_X3_event : GoodIn wsL_law wsX3_event := goodIn_r _ [378, 117, 75, 78, 79, 80, 81, 572, 573, 574, 575, 576, 577, 578, 579, 580, 581, 582, 583, 584, 585, 586, 587, 588, 589, 590, 591, 592, 593, 594, 595, 596, 597, 598, 599] (by decide +kernel) (by decide +kernel)
set_option maxRecDepth 20000 in
theorem gL_law_X3_event : GoodIn wsL_law (wsV RL 68 RX3 yX3_event wsX3_event) := goodIn_app (goodIn_of _ (by decide +kernel)) ggL_law_X3_event
set_option maxRecDepth 20000 in
theorem ggL_law_X2_ring : GoodIn wsL_law wsX2_ring := goodIn_r _ [382, 16, 96, 21, 20, 181, 182, 183, 19, 184, 55, 56, 57, 58, 60, 61, 383, 384, 385, 2, 386, 27, 325, 326, 387, 241, 242, 388, 389, 390, 391, 392, 237, 238, 239, 240, 62, 63, 185, 186, 187, 188, 189, 190, 191, 192, 193, 194, 112, 195, 196, 65, 64, 197, 198, 199, 200, 201, 202, 203, 204, 205, 206, 207, 208, 209, 210, 211, 212, 213, 214, 215, 216, 217, 218, 219, 220, 221, 222, 223, 224, 225, 226, 227, 228, 229, 230, 393, 394, 395, 396, 397, 398, 399, 400, 401, 402, 403, 404, 28, 29, 405, 406, 407, 408, 409, 410, 411, 368, 369, 370, 371, 372, 373, 374, 412, 413, 414, 336, 365, 366, 367, 362, 363, 364, 555, 556, 557, 558, 559, 560, 561, 562, 563, 564, 565, 566, 567, 568, 569, 570, 571, 600, 601, 602, 603, 604, 605, 606, 607, 608, 609, 610, 611, 612, 613, 614, 615, 616, 617, 618, 619, 620, 621] (by decide +kernel) (by decide +kernel)
set_option maxRecDepth 20000 in
theorem gL_law_X2_ring : GoodIn wsL_law (wsV RL 69 RX2 yX2_ring wsX2_ring) := goodIn_app (goodIn_of _ (by decide +kernel)) ggL_law_X2_ring
set_option maxRecDepth 20000 in
theorem ggL_law_X3_ring : GoodIn wsL_law wsX3_ring := goodIn_r _ [418, 117, 118, 75, 77, 82, 119, 120, 5, 121, 256, 257, 258, 419, 420, 421, 422, 423, 424, 425, 426, 83, 247, 248, 249, 250, 76, 251, 252, 253, 254, 72, 73, 144, 255, 78, 79, 80, 81, 259, 260, 261, 262, 71, 70, 263, 264, 265, 266, 267, 268, 269, 270, 271, 272, 273, 274, 275, 276, 277, 278, 279, 280, 281, 282, 283, 284, 285, 74, 286, 287, 288, 289, 290, 291, 292, 293, 427, 428, 429, 430, 431, 432, 433, 434, 435, 84, 572, 573, 574, 575, 576, 577, 578, 579, 580, 581, 582, 583, 584, 585, 586, 587, 588, 589, 590, 591, 592, 593, 594, 595, 596, 597, 598, 599] (by decide +kernel) (by decide +kernel)
set_option maxRecDepth 20000 in
theorem gL_law_X3_ring : GoodIn wsL_law (wsV RL 72 RX3 yX3_ring wsX3_ring) := goodIn_app (goodIn_of _ (by decide +kernel)) ggL_law_X3_ring
set_option maxRecDepth 20000 in
theorem ggL_law_X2_ringed : GoodIn wsL_law wsX2_ringed := goodIn_r _ [439, 29, 28, 440, 555, 556, 557, 558, 559, 560, 561, 562, 563, 564, 565, 566, 567, 568, 569, 570, 571] (by decide +kernel) (by decide +kernel)
set_option maxRecDepth 20000 in
theorem gL_law_X2_ringed : GoodIn wsL_law (wsV RL 73 RX2 yX2_ringed wsX2_ringed) := goodIn_app (goodIn_of _ (by decide +kernel)) ggL_law_X2_ringed
set_option maxRecDepth 20000 in
theorem ggL_law_X3_ringed : GoodIn wsL_law wsX3_ringed := goodIn_r _ [444, 117, 435, 84, 445, 119, 120, 5, 121, 572, 573, 574, 575, 576, 577, 578, 579, 580, 581, 582, 583, 584, 585, 586, 587, 588, 589, 590, 591, 592, 593, 594, 595, 596, 597, 598, 599] (by decide +kernel) (by decide +kernel)
set_option maxRecDepth 20000 in
theorem gL_law_X3_ringed : GoodIn wsL_law (wsV RL 77 RX3 yX3_ringed wsX3_ringed) := goodIn_app (goodIn_of _ (by decide +kernel)) ggL_law_X3_ringed
set_option maxRecDepth 20000 in
theorem ggL_law_X2_drawer : GoodIn wsL_law wsX2_drawer := goodIn_r _ [449, 31, 30, 101, 102, 2, 103, 450, 451, 452, 453, 555, 556, 557, 558, 559, 560, 561, 562, 563, 564, 565, 566, 567, 568, 569, 570, 571] (by decide +kernel) (by decide +kernel)
set_option maxRecDepth 20000 in
theorem gL_law_X2_drawer : GoodIn wsL_law (wsV RL 78 RX2 yX2_drawer wsX2_drawer) := goodIn_app (goodIn_of _ (by decide +kernel)) ggL_law_X2_drawer
set_option maxRecDepth 20000 in
theorem ggL_law_X3_drawer : GoodIn wsL_law wsX3_drawer := goodIn_r _ [457, 117, 308, 85, 119, 120, 5, 121, 572, 573, 574, 575, 576, 577, 578, 579, 580, 581, 582, 583, 584, 585, 586, 587, 588, 589, 590, 591, 592, 593, 594, 595, 596, 597, 598, 599] (by decide +kernel) (by decide +kernel)
set_option maxRecDepth 20000 in
theorem gL_law_X3_drawer : GoodIn wsL_law (wsV RL 81 RX3 yX3_drawer wsX3_drawer) := goodIn_app (goodIn_of _ (by decide +kernel)) ggL_law_X3_drawer
set_option maxRecDepth 20000 in
theorem ggL_law_X2_parts : GoodIn wsL_law wsX2_parts := goodIn_r _ [461, 133, 134, 135, 2, 136, 16, 96, 462, 463, 464, 465, 466, 467, 468, 469, 31, 30, 35, 332, 333, 334, 15, 335, 42, 41, 555, 556, 557, 558, 559, 560, 561, 562, 563, 564, 565, 566, 567, 568, 569, 570, 571, 600, 601, 602, 603, 604, 605, 606, 607, 608, 609, 610, 611] (by decide +kernel) (by decide +kernel)
set_option maxRecDepth 20000 in
theorem gL_law_X2_parts : GoodIn wsL_law (wsV RL 82 RX2 yX2_parts wsX2_parts) := goodIn_app (goodIn_of _ (by decide +kernel)) ggL_law_X2_parts
set_option maxRecDepth 20000 in
theorem ggL_law_X3_parts : GoodIn wsL_law wsX3_parts := goodIn_r _ [473, 117, 145, 146, 147, 5, 148, 118, 119, 120, 121, 474, 475, 476, 477, 478, 479, 480, 481, 308, 85, 251, 252, 341, 342, 343, 344, 71, 70, 267, 268, 269, 270, 271, 272, 273, 274, 275, 276, 277, 572, 573, 574, 575, 576, 577, 578, 579, 580, 581, 582, 583, 584, 585, 586, 587, 588, 589, 590, 591, 592, 593, 594, 595, 596, 597, 598, 599] (by decide +kernel) (by decide +kernel)
set_option maxRecDepth 20000 in
theorem gL_law_X3_parts : GoodIn wsL_law (wsV RL 85 RX3 yX3_parts wsX3_parts) := goodIn_app (goodIn_of _ (by decide +kernel)) ggL_law_X3_parts
set_option maxRecDepth 20000 in
theorem ggL_law_X2_part : GoodIn wsL_law wsX2_part := goodIn_r _ [485, 35, 486, 459, 460, 2, 461, 133, 134, 135, 136, 16, 96, 462, 463, 464, 465, 466, 467, 468, 469, 31, 30, 332, 333, 334, 15, 335, 42, 41, 555, 556, 557, 558, 559, 560, 561, 562, 563, 564, 565, 566, 567, 568, 569, 570, 571, 600, 601, 602, 603, 604, 605, 606, 607, 608, 609, 610, 611] (by decide +kernel) (by decide +kernel)
set_option maxRecDepth 20000 in
theorem gL_law_X2_part : GoodIn wsL_law (wsV RL 86 RX2 yX2_part wsX2_part) := goodIn_app (goodIn_of _ (by decide +kernel)) ggL_law_X2_part
set_option maxRecDepth 20000 in
theorem ggL_law_X3_part : GoodIn wsL_law wsX3_part := goodIn_r _ [490, 117, 145, 146, 147, 5, 148, 118, 119, 120, 121, 474, 475, 476, 477, 478, 479, 480, 481, 308, 85, 251, 252, 341, 342, 343, 344, 71, 70, 267, 268, 269, 270, 271, 272, 273, 274, 275, 276, 277, 572, 573, 574, 575, 576, 577, 578, 579, 580, 581, 582, 583, 584, 585, 586, 587, 588, 589, 590, 591, 592, 593, 594, 595, 596, 597, 598, 599] (by decide +kernel) (by decide +kernel)
set_option maxRecDepth 20000 in
theorem gL_law_X3_part : GoodIn wsL_law (wsV RL 89 RX3 yX3_part wsX3_part) := goodIn_app (goodIn_of _ (by decide +kernel)) ggL_law_X3_part
set_option maxRecDepth 20000 in
theorem ggL_law_X2_measure : GoodIn wsL_law wsX2_measure := goodIn_r _ [494, 34, 32, 33, 462, 463, 2, 464, 465, 555, 556, 557, 558, 559, 560, 561, 562, 563, 564, 565, 566, 567, 568, 569, 570, 571] (by decide +kernel) (by decide +kernel)
set_option maxRecDepth 20000 in
theorem gL_law_X2_measure : GoodIn wsL_law (wsV RL 90 RX2 yX2_measure wsX2_measure) := goodIn_app (goodIn_of _ (by decide +kernel)) ggL_law_X2_measure
set_option maxRecDepth 20000 in
theorem ggL_law_X3_measure : GoodIn wsL_law wsX3_measure := goodIn_r _ [498, 117, 309, 86, 251, 87, 252, 474, 475, 5, 476, 477, 119, 120, 121, 267, 268, 269, 270, 271, 272, 273, 274, 275, 276, 277, 572, 573, 574, 575, 576, 577, 578, 579, 580, 581, 582, 583, 584, 585, 586, 587, 588, 589, 590, 591, 592, 593, 594, 595, 596, 597, 598, 599] (by decide +kernel) (by decide +kernel)
set_option maxRecDepth 20000 in
theorem gL_law_X3_measure : GoodIn wsL_law (wsV RL 93 RX3 yX3_measure wsX3_measure) := goodIn_app (goodIn_of _ (by decide +kernel)) ggL_law_X3_measure
set_option maxRecDepth 20000 in
theorem ggL_law_X2_forget : GoodIn wsL_law wsX2_forget := goodIn_r _ [502, 34, 555, 556, 557, 558, 559, 560, 561, 562, 563, 564, 565, 566, 567, 568, 569, 570, 571] (by decide +kernel) (by decide +kernel)
set_option maxRecDepth 20000 in
theorem gL_law_X2_forget : GoodIn wsL_law (wsV RL 94 RX2 yX2_forget wsX2_forget) := goodIn_app (goodIn_of _ (by decide +kernel)) ggL_law_X2_forget
set_option maxRecDepth 20000 in
theorem ggL_law_X3_forget : GoodIn wsL_law wsX3_forget := goodIn_r _ [506, 117, 309, 572, 573, 574, 575, 576, 577, 578, 579, 580, 581, 582, 583, 584, 585, 586, 587, 588, 589, 590, 591, 592, 593, 594, 595, 596, 597, 598, 599] (by decide +kernel) (by decide +kernel)
set_option maxRecDepth 20000 in
theorem gL_law_X3_forget : GoodIn wsL_law (wsV RL 97 RX3 yX3_forget wsX3_forget) := goodIn_app (goodIn_of _ (by decide +kernel)) ggL_law_X3_forget
set_option maxRecDepth 20000 in
theorem ggL_law_X2_faults : GoodIn wsL_law wsX2_faults := goodIn_r _ [510, 133, 134, 135, 2, 136, 16, 96, 511, 512, 513, 514, 31, 30, 36, 169, 170, 171, 15, 172, 43, 44, 515, 516, 517, 518, 34, 21, 236, 235, 108, 109, 110, 19, 111, 55, 56, 57, 112, 58, 60, 61, 185, 186, 187, 188, 189, 62, 63, 190, 191, 192, 193, 194, 195, 196, 65, 64, 197, 198, 199, 200, 201, 202, 203, 204, 205, 206, 207, 208, 209, 210, 211, 212, 213, 214, 215, 216, 217, 218, 219, 220, 221, 222, 223, 224, 225, 226, 227, 228, 229, 230, 237, 238, 239, 240, 241, 242, 519, 520, 521, 522, 33, 32, 409, 410, 411, 368, 369, 370, 371, 372, 373, 374, 412, 413, 414, 555, 556, 557, 558, 559, 560, 561, 562, 563, 564, 565, 566, 567, 568, 569, 570, 571, 600, 601, 602, 603, 604, 605, 606, 607, 608, 609, 610, 611, 612, 613, 614, 615, 616, 617, 618, 619, 620, 621] (by decide +kernel) (by decide +kernel)
set_option maxRecDepth 20000 in
theorem gL_law_X2_faults : GoodIn wsL_law (wsV RL 98 RX2 yX2_faults wsX2_faults) := goodIn_app (goodIn_of _ (by decide +kernel)) ggL_law_X2_faults
set_option maxRecDepth 20000 in
theorem ggL_law_X3_faults : GoodIn wsL_law wsX3_faults := goodIn_r _ [526, 117, 145, 146, 147, 5, 148, 118, 119, 120, 121, 527, 528, 529, 530, 308, 85, 531, 532, 533, 534, 72, 73, 535, 536, 537, 538, 309, 75, 77, 82, 253, 254, 251, 86, 252, 87, 256, 257, 258, 88, 89, 90, 91, 70, 247, 248, 249, 250, 76, 144, 255, 78, 79, 80, 81, 259, 260, 261, 262, 71, 263, 264, 265, 266, 267, 268, 269, 270, 271, 272, 273, 274, 275, 276, 277, 278, 279, 280, 281, 282, 283, 284, 285, 74, 286, 287, 288, 289, 290, 291, 292, 293, 572, 573, 574, 575, 576, 577, 578, 579, 580, 581, 582, 583, 584, 585, 586, 587, 588, 589, 590, 591, 592, 593, 594, 595, 596, 597, 598, 599] (by decide +kernel) (by decide +kernel)
set_option maxRecDepth 20000 in
theorem gL_law_X3_faults : GoodIn wsL_law (wsV RL 101 RX3 yX3_faults wsX3_faults) := goodIn_app (goodIn_of _ (by decide +kernel)) ggL_law_X3_faults
set_option maxRecDepth 20000 in
theorem ggL_law_X2_fault : GoodIn wsL_law wsX2_fault := goodIn_r _ [542, 36, 133, 134, 135, 2, 136, 16, 96, 511, 512, 513, 514, 31, 30, 169, 170, 171, 15, 172, 43, 44, 515, 516, 517, 518, 34, 21, 236, 235, 108, 109, 110, 19, 111, 55, 56, 57, 112, 58, 60, 61, 185, 186, 187, 188, 189, 62, 63, 190, 191, 192, 193, 194, 195, 196, 65, 64, 197, 198, 199, 200, 201, 202, 203, 204, 205, 206, 207, 208, 209, 210, 211, 212, 213, 214, 215, 216, 217, 218, 219, 220, 221, 222, 223, 224, 225, 226, 227, 228, 229, 230, 237, 238, 239, 240, 241, 242, 519, 520, 521, 522, 33, 32, 409, 410, 411, 368, 369, 370, 371, 372, 373, 374, 412, 413, 414, 555, 556, 557, 558, 559, 560, 561, 562, 563, 564, 565, 566, 567, 568, 569, 570, 571, 600, 601, 602, 603, 604, 605, 606, 607, 608, 609, 610, 611, 612, 613, 614, 615, 616, 617, 618, 619, 620, 621] (by decide +kernel) (by decide +kernel)
set_option maxRecDepth 20000 in
theorem gL_law_X2_fault : GoodIn wsL_law (wsV RL 102 RX2 yX2_fault wsX2_fault) := goodIn_app (goodIn_of _ (by decide +kernel)) ggL_law_X2_fault
set_option maxRecDepth 20000 in
theorem ggL_law_X3_fault : GoodIn wsL_law wsX3_fault := goodIn_r _ [546, 117, 145, 146, 147, 5, 148, 118, 119, 120, 121, 527, 528, 529, 530, 308, 85, 531, 532, 533, 534, 72, 73, 535, 536, 537, 538, 309, 75, 77, 82, 253, 254, 251, 86, 252, 87, 256, 257, 258, 88, 89, 90, 91, 70, 247, 248, 249, 250, 76, 144, 255, 78, 79, 80, 81, 259, 260, 261, 262, 71, 263, 264, 265, 266, 267, 268, 269, 270, 271, 272, 273, 274, 275, 276, 277, 278, 279, 280, 281, 282, 283, 284, 285, 74, 286, 287, 288, 289, 290, 291, 292, 293, 572, 573, 574, 575, 576, 577, 578, 579, 580, 581, 582, 583, 584, 585, 586, 587, 588, 589, 590, 591, 592, 593, 594, 595, 596, 597, 598, 599] (by decide +kernel) (by decide +kernel)
set_option maxRecDepth 20000 in
theorem gL_law_X3_fault : GoodIn wsL_law (wsV RL 105 RX3 yX3_fault wsX3_fault) := goodIn_app (goodIn_of _ (by decide +kernel)) ggL_law_X3_fault
set_option maxRecDepth 20000 in
theorem ggL_law_X2_fits : GoodIn wsL_law wsX2_fits := goodIn_r _ [550, 133, 134, 135, 2, 136, 16, 96, 515, 516, 517, 518, 34, 21, 236, 235, 108, 109, 110, 19, 111, 55, 56, 57, 112, 58, 60, 61, 185, 186, 187, 188, 189, 62, 63, 190, 191, 192, 193, 194, 195, 196, 65, 64, 197, 198, 199, 200, 201, 202, 203, 204, 205, 206, 207, 208, 209, 210, 211, 212, 213, 214, 215, 216, 217, 218, 219, 220, 221, 222, 223, 224, 225, 226, 227, 228, 229, 230, 237, 238, 239, 240, 241, 242, 519, 520, 521, 522, 33, 32, 409, 410, 411, 368, 369, 370, 371, 372, 373, 374, 412, 413, 414, 555, 556, 557, 558, 559, 560, 561, 562, 563, 564, 565, 566, 567, 568, 569, 570, 571, 600, 601, 602, 603, 604, 605, 606, 607, 608, 609, 610, 611, 612, 613, 614, 615, 616, 617, 618, 619, 620, 621] (by decide +kernel) (by decide +kernel)
set_option maxRecDepth 20000 in
theorem gL_law_X2_fits : GoodIn wsL_law (wsV RL 106 RX2 yX2_fits wsX2_fits) := goodIn_app (goodIn_of _ (by decide +kernel)) ggL_law_X2_fits
set_option maxRecDepth 20000 in
theorem ggL_law_X3_fits : GoodIn wsL_law wsX3_fits := goodIn_r _ [554, 117, 145, 146, 147, 5, 148, 118, 119, 120, 121, 535, 536, 537, 538, 309, 75, 77, 82, 253, 254, 251, 86, 252, 87, 256, 257, 258, 88, 89, 90, 91, 70, 247, 248, 249, 250, 76, 72, 73, 144, 255, 78, 79, 80, 81, 259, 260, 261, 262, 71, 263, 264, 265, 266, 267, 268, 269, 270, 271, 272, 273, 274, 275, 276, 277, 278, 279, 280, 281, 282, 283, 284, 285, 74, 286, 287, 288, 289, 290, 291, 292, 293, 572, 573, 574, 575, 576, 577, 578, 579, 580, 581, 582, 583, 584, 585, 586, 587, 588, 589, 590, 591, 592, 593, 594, 595, 596, 597, 598, 599] (by decide +kernel) (by decide +kernel)
set_option maxRecDepth 20000 in
theorem gL_law_X3_fits : GoodIn wsL_law (wsV RL 109 RX3 yX3_fits wsX3_fits) := goodIn_app (goodIn_of _ (by decide +kernel)) ggL_law_X3_fits
theorem dL_law_0 : decode cL_law 0 = .ok (.new 8, 3) := by decide +kernel
theorem dL_law_3 : decode cL_law 3 = .ok (.dup, 1) := by decide +kernel
theorem dL_law_4 : decode cL_law 4 = .ok (.invokespecial 15, 3) := by decide +kernel
theorem dL_law_7 : decode cL_law 7 = .ok (.astore_n 1, 1) := by decide +kernel
theorem dL_law_8 : decode cL_law 8 = .ok (.new 16, 3) := by decide +kernel
theorem dL_law_11 : decode cL_law 11 = .ok (.dup, 1) := by decide +kernel
theorem dL_law_12 : decode cL_law 12 = .ok (.invokespecial 18, 3) := by decide +kernel
theorem dL_law_15 : decode cL_law 15 = .ok (.astore_n 2, 1) := by decide +kernel
theorem dL_law_16 : decode cL_law 16 = .ok (.iconst 1, 1) := by decide +kernel
theorem dL_law_17 : decode cL_law 17 = .ok (.newarray .long, 2) := by decide +kernel
theorem dL_law_19 : decode cL_law 19 = .ok (.astore_n 3, 1) := by decide +kernel
theorem dL_law_20 : decode cL_law 20 = .ok (.iconst 0, 1) := by decide +kernel
theorem dL_law_21 : decode cL_law 21 = .ok (.istore 4, 2) := by decide +kernel
theorem dL_law_23 : decode cL_law 23 = .ok (.iload 4, 2) := by decide +kernel
theorem dL_law_25 : decode cL_law 25 = .ok (.aload_n 0, 1) := by decide +kernel
theorem dL_law_26 : decode cL_law 26 = .ok (.arraylength, 1) := by decide +kernel
theorem dL_law_27 : decode cL_law 27 = .ok (.bipush 7, 2) := by decide +kernel
theorem dL_law_29 : decode cL_law 29 = .ok (.isub, 1) := by decide +kernel
theorem dL_law_30 : decode cL_law 30 = .ok (.if_icmp .gt 838, 3) := by decide +kernel
theorem dL_law_33 : decode cL_law 33 = .ok (.aload_n 0, 1) := by decide +kernel
theorem dL_law_34 : decode cL_law 34 = .ok (.iload 4, 2) := by decide +kernel
theorem dL_law_36 : decode cL_law 36 = .ok (.iaload, 1) := by decide +kernel
theorem dL_law_37 : decode cL_law 37 = .ok (.bipush 31, 2) := by decide +kernel
theorem dL_law_39 : decode cL_law 39 = .ok (.iand, 1) := by decide +kernel
theorem dL_law_40 : decode cL_law 40 = .ok (.tableswitch 822 0 19 #[96, 157, 244, 257, 270, 319, 344, 369, 437, 462, 499, 524, 550, 575, 624, 685, 722, 735, 760, 797], 96) := by decide +kernel
theorem dL_law_136 : decode cL_law 136 = .ok (.aload_n 1, 1) := by decide +kernel
theorem dL_law_137 : decode cL_law 137 = .ok (.aload_n 0, 1) := by decide +kernel
theorem dL_law_138 : decode cL_law 138 = .ok (.iload 4, 2) := by decide +kernel
theorem dL_law_140 : decode cL_law 140 = .ok (.iconst 1, 1) := by decide +kernel
theorem dL_law_141 : decode cL_law 141 = .ok (.iadd, 1) := by decide +kernel
theorem dL_law_142 : decode cL_law 142 = .ok (.iaload, 1) := by decide +kernel
theorem dL_law_143 : decode cL_law 143 = .ok (.aload_n 0, 1) := by decide +kernel
theorem dL_law_144 : decode cL_law 144 = .ok (.iload 4, 2) := by decide +kernel
theorem dL_law_146 : decode cL_law 146 = .ok (.iconst 2, 1) := by decide +kernel
theorem dL_law_147 : decode cL_law 147 = .ok (.iadd, 1) := by decide +kernel
theorem dL_law_148 : decode cL_law 148 = .ok (.iaload, 1) := by decide +kernel
theorem dL_law_149 : decode cL_law 149 = .ok (.aload_n 0, 1) := by decide +kernel
theorem dL_law_150 : decode cL_law 150 = .ok (.iload 4, 2) := by decide +kernel
theorem dL_law_152 : decode cL_law 152 = .ok (.iconst 3, 1) := by decide +kernel
theorem dL_law_153 : decode cL_law 153 = .ok (.iadd, 1) := by decide +kernel
theorem dL_law_154 : decode cL_law 154 = .ok (.iaload, 1) := by decide +kernel
theorem dL_law_155 : decode cL_law 155 = .ok (.aload_n 0, 1) := by decide +kernel
theorem dL_law_156 : decode cL_law 156 = .ok (.iload 4, 2) := by decide +kernel
theorem dL_law_158 : decode cL_law 158 = .ok (.iconst 4, 1) := by decide +kernel
theorem dL_law_159 : decode cL_law 159 = .ok (.iadd, 1) := by decide +kernel
theorem dL_law_160 : decode cL_law 160 = .ok (.iaload, 1) := by decide +kernel
theorem dL_law_161 : decode cL_law 161 = .ok (.invokevirtual 19, 3) := by decide +kernel
theorem dL_law_164 : decode cL_law 164 = .ok (.aload_n 2, 1) := by decide +kernel
theorem dL_law_165 : decode cL_law 165 = .ok (.aload_n 0, 1) := by decide +kernel
theorem dL_law_166 : decode cL_law 166 = .ok (.iload 4, 2) := by decide +kernel
theorem dL_law_168 : decode cL_law 168 = .ok (.iconst 1, 1) := by decide +kernel
theorem dL_law_169 : decode cL_law 169 = .ok (.iadd, 1) := by decide +kernel
theorem dL_law_170 : decode cL_law 170 = .ok (.iaload, 1) := by decide +kernel
theorem dL_law_171 : decode cL_law 171 = .ok (.aload_n 0, 1) := by decide +kernel
theorem dL_law_172 : decode cL_law 172 = .ok (.iload 4, 2) := by decide +kernel
theorem dL_law_174 : decode cL_law 174 = .ok (.iconst 2, 1) := by decide +kernel
theorem dL_law_175 : decode cL_law 175 = .ok (.iadd, 1) := by decide +kernel
theorem dL_law_176 : decode cL_law 176 = .ok (.iaload, 1) := by decide +kernel
theorem dL_law_177 : decode cL_law 177 = .ok (.aload_n 0, 1) := by decide +kernel
theorem dL_law_178 : decode cL_law 178 = .ok (.iload 4, 2) := by decide +kernel
theorem dL_law_180 : decode cL_law 180 = .ok (.iconst 3, 1) := by decide +kernel
theorem dL_law_181 : decode cL_law 181 = .ok (.iadd, 1) := by decide +kernel
theorem dL_law_182 : decode cL_law 182 = .ok (.iaload, 1) := by decide +kernel
theorem dL_law_183 : decode cL_law 183 = .ok (.aload_n 0, 1) := by decide +kernel
theorem dL_law_184 : decode cL_law 184 = .ok (.iload 4, 2) := by decide +kernel
theorem dL_law_186 : decode cL_law 186 = .ok (.iconst 4, 1) := by decide +kernel
theorem dL_law_187 : decode cL_law 187 = .ok (.iadd, 1) := by decide +kernel
theorem dL_law_188 : decode cL_law 188 = .ok (.iaload, 1) := by decide +kernel
theorem dL_law_189 : decode cL_law 189 = .ok (.invokevirtual 23, 3) := by decide +kernel
theorem dL_law_192 : decode cL_law 192 = .ok (.if_icmp .eq 670, 3) := by decide +kernel
theorem dL_law_195 : decode cL_law 195 = .ok (.iconst 0, 1) := by decide +kernel
theorem dL_law_196 : decode cL_law 196 = .ok (.ireturn, 1) := by decide +kernel
theorem dL_law_197 : decode cL_law 197 = .ok (.aload_n 1, 1) := by decide +kernel
theorem dL_law_198 : decode cL_law 198 = .ok (.aload_n 0, 1) := by decide +kernel
theorem dL_law_199 : decode cL_law 199 = .ok (.iload 4, 2) := by decide +kernel
theorem dL_law_201 : decode cL_law 201 = .ok (.iconst 1, 1) := by decide +kernel
theorem dL_law_202 : decode cL_law 202 = .ok (.iadd, 1) := by decide +kernel
theorem dL_law_203 : decode cL_law 203 = .ok (.iaload, 1) := by decide +kernel
theorem dL_law_204 : decode cL_law 204 = .ok (.aload_n 0, 1) := by decide +kernel
theorem dL_law_205 : decode cL_law 205 = .ok (.iload 4, 2) := by decide +kernel
theorem dL_law_207 : decode cL_law 207 = .ok (.iconst 2, 1) := by decide +kernel
theorem dL_law_208 : decode cL_law 208 = .ok (.iadd, 1) := by decide +kernel
theorem dL_law_209 : decode cL_law 209 = .ok (.iaload, 1) := by decide +kernel
theorem dL_law_210 : decode cL_law 210 = .ok (.aload_n 0, 1) := by decide +kernel
theorem dL_law_211 : decode cL_law 211 = .ok (.iload 4, 2) := by decide +kernel
theorem dL_law_213 : decode cL_law 213 = .ok (.iconst 3, 1) := by decide +kernel
theorem dL_law_214 : decode cL_law 214 = .ok (.iadd, 1) := by decide +kernel
theorem dL_law_215 : decode cL_law 215 = .ok (.iaload, 1) := by decide +kernel
theorem dL_law_216 : decode cL_law 216 = .ok (.aload_n 0, 1) := by decide +kernel
theorem dL_law_217 : decode cL_law 217 = .ok (.iload 4, 2) := by decide +kernel
theorem dL_law_219 : decode cL_law 219 = .ok (.iconst 4, 1) := by decide +kernel
theorem dL_law_220 : decode cL_law 220 = .ok (.iadd, 1) := by decide +kernel
theorem dL_law_221 : decode cL_law 221 = .ok (.iaload, 1) := by decide +kernel
theorem dL_law_222 : decode cL_law 222 = .ok (.aload_n 0, 1) := by decide +kernel
theorem dL_law_223 : decode cL_law 223 = .ok (.iload 4, 2) := by decide +kernel
theorem dL_law_225 : decode cL_law 225 = .ok (.iconst 5, 1) := by decide +kernel
theorem dL_law_226 : decode cL_law 226 = .ok (.iadd, 1) := by decide +kernel
theorem dL_law_227 : decode cL_law 227 = .ok (.iaload, 1) := by decide +kernel
theorem dL_law_228 : decode cL_law 228 = .ok (.aload_n 0, 1) := by decide +kernel
theorem dL_law_229 : decode cL_law 229 = .ok (.iload 4, 2) := by decide +kernel
theorem dL_law_231 : decode cL_law 231 = .ok (.bipush 6, 2) := by decide +kernel
theorem dL_law_233 : decode cL_law 233 = .ok (.iadd, 1) := by decide +kernel
theorem dL_law_234 : decode cL_law 234 = .ok (.iaload, 1) := by decide +kernel
theorem dL_law_235 : decode cL_law 235 = .ok (.invokevirtual 24, 3) := by decide +kernel
theorem dL_law_238 : decode cL_law 238 = .ok (.aload_n 2, 1) := by decide +kernel
theorem dL_law_239 : decode cL_law 239 = .ok (.aload_n 0, 1) := by decide +kernel
theorem dL_law_240 : decode cL_law 240 = .ok (.iload 4, 2) := by decide +kernel
theorem dL_law_242 : decode cL_law 242 = .ok (.iconst 1, 1) := by decide +kernel
theorem dL_law_243 : decode cL_law 243 = .ok (.iadd, 1) := by decide +kernel
theorem dL_law_244 : decode cL_law 244 = .ok (.iaload, 1) := by decide +kernel
theorem dL_law_245 : decode cL_law 245 = .ok (.aload_n 0, 1) := by decide +kernel
theorem dL_law_246 : decode cL_law 246 = .ok (.iload 4, 2) := by decide +kernel
theorem dL_law_248 : decode cL_law 248 = .ok (.iconst 2, 1) := by decide +kernel
theorem dL_law_249 : decode cL_law 249 = .ok (.iadd, 1) := by decide +kernel
theorem dL_law_250 : decode cL_law 250 = .ok (.iaload, 1) := by decide +kernel
theorem dL_law_251 : decode cL_law 251 = .ok (.aload_n 0, 1) := by decide +kernel
theorem dL_law_252 : decode cL_law 252 = .ok (.iload 4, 2) := by decide +kernel
theorem dL_law_254 : decode cL_law 254 = .ok (.iconst 3, 1) := by decide +kernel
theorem dL_law_255 : decode cL_law 255 = .ok (.iadd, 1) := by decide +kernel
theorem dL_law_256 : decode cL_law 256 = .ok (.iaload, 1) := by decide +kernel
theorem dL_law_257 : decode cL_law 257 = .ok (.aload_n 0, 1) := by decide +kernel
theorem dL_law_258 : decode cL_law 258 = .ok (.iload 4, 2) := by decide +kernel
theorem dL_law_260 : decode cL_law 260 = .ok (.iconst 4, 1) := by decide +kernel
theorem dL_law_261 : decode cL_law 261 = .ok (.iadd, 1) := by decide +kernel
theorem dL_law_262 : decode cL_law 262 = .ok (.iaload, 1) := by decide +kernel
theorem dL_law_263 : decode cL_law 263 = .ok (.aload_n 0, 1) := by decide +kernel
theorem dL_law_264 : decode cL_law 264 = .ok (.iload 4, 2) := by decide +kernel
theorem dL_law_266 : decode cL_law 266 = .ok (.iconst 5, 1) := by decide +kernel
theorem dL_law_267 : decode cL_law 267 = .ok (.iadd, 1) := by decide +kernel
theorem dL_law_268 : decode cL_law 268 = .ok (.iaload, 1) := by decide +kernel
theorem dL_law_269 : decode cL_law 269 = .ok (.aload_n 0, 1) := by decide +kernel
theorem dL_law_270 : decode cL_law 270 = .ok (.iload 4, 2) := by decide +kernel
theorem dL_law_272 : decode cL_law 272 = .ok (.bipush 6, 2) := by decide +kernel
theorem dL_law_274 : decode cL_law 274 = .ok (.iadd, 1) := by decide +kernel
theorem dL_law_275 : decode cL_law 275 = .ok (.iaload, 1) := by decide +kernel
theorem dL_law_276 : decode cL_law 276 = .ok (.invokevirtual 28, 3) := by decide +kernel
theorem dL_law_279 : decode cL_law 279 = .ok (.if_icmp .eq 583, 3) := by decide +kernel
theorem dL_law_282 : decode cL_law 282 = .ok (.iconst 0, 1) := by decide +kernel
theorem dL_law_283 : decode cL_law 283 = .ok (.ireturn, 1) := by decide +kernel
theorem dL_law_284 : decode cL_law 284 = .ok (.aload_n 1, 1) := by decide +kernel
theorem dL_law_285 : decode cL_law 285 = .ok (.invokevirtual 29, 3) := by decide +kernel
theorem dL_law_288 : decode cL_law 288 = .ok (.aload_n 2, 1) := by decide +kernel
theorem dL_law_289 : decode cL_law 289 = .ok (.invokevirtual 33, 3) := by decide +kernel
theorem dL_law_292 : decode cL_law 292 = .ok (.if_icmp .eq 570, 3) := by decide +kernel
theorem dL_law_295 : decode cL_law 295 = .ok (.iconst 0, 1) := by decide +kernel
theorem dL_law_296 : decode cL_law 296 = .ok (.ireturn, 1) := by decide +kernel
theorem dL_law_297 : decode cL_law 297 = .ok (.aload_n 1, 1) := by decide +kernel
theorem dL_law_298 : decode cL_law 298 = .ok (.invokevirtual 34, 3) := by decide +kernel
theorem dL_law_301 : decode cL_law 301 = .ok (.aload_n 2, 1) := by decide +kernel
theorem dL_law_302 : decode cL_law 302 = .ok (.invokevirtual 37, 3) := by decide +kernel
theorem dL_law_305 : decode cL_law 305 = .ok (.if_icmp .eq 557, 3) := by decide +kernel
theorem dL_law_308 : decode cL_law 308 = .ok (.iconst 0, 1) := by decide +kernel
theorem dL_law_309 : decode cL_law 309 = .ok (.ireturn, 1) := by decide +kernel
theorem dL_law_310 : decode cL_law 310 = .ok (.aload_n 1, 1) := by decide +kernel
theorem dL_law_311 : decode cL_law 311 = .ok (.aload_n 0, 1) := by decide +kernel
theorem dL_law_312 : decode cL_law 312 = .ok (.iload 4, 2) := by decide +kernel
theorem dL_law_314 : decode cL_law 314 = .ok (.iconst 1, 1) := by decide +kernel
theorem dL_law_315 : decode cL_law 315 = .ok (.iadd, 1) := by decide +kernel
theorem dL_law_316 : decode cL_law 316 = .ok (.iaload, 1) := by decide +kernel
theorem dL_law_317 : decode cL_law 317 = .ok (.aload_n 0, 1) := by decide +kernel
theorem dL_law_318 : decode cL_law 318 = .ok (.iload 4, 2) := by decide +kernel
theorem dL_law_320 : decode cL_law 320 = .ok (.iconst 2, 1) := by decide +kernel
theorem dL_law_321 : decode cL_law 321 = .ok (.iadd, 1) := by decide +kernel
theorem dL_law_322 : decode cL_law 322 = .ok (.iaload, 1) := by decide +kernel
theorem dL_law_323 : decode cL_law 323 = .ok (.aload_n 0, 1) := by decide +kernel
theorem dL_law_324 : decode cL_law 324 = .ok (.iload 4, 2) := by decide +kernel
theorem dL_law_326 : decode cL_law 326 = .ok (.iconst 3, 1) := by decide +kernel
theorem dL_law_327 : decode cL_law 327 = .ok (.iadd, 1) := by decide +kernel
theorem dL_law_328 : decode cL_law 328 = .ok (.iaload, 1) := by decide +kernel
theorem dL_law_329 : decode cL_law 329 = .ok (.invokevirtual 38, 3) := by decide +kernel
theorem dL_law_332 : decode cL_law 332 = .ok (.aload_n 2, 1) := by decide +kernel
theorem dL_law_333 : decode cL_law 333 = .ok (.aload_n 0, 1) := by decide +kernel
theorem dL_law_334 : decode cL_law 334 = .ok (.iload 4, 2) := by decide +kernel
theorem dL_law_336 : decode cL_law 336 = .ok (.iconst 1, 1) := by decide +kernel
theorem dL_law_337 : decode cL_law 337 = .ok (.iadd, 1) := by decide +kernel
theorem dL_law_338 : decode cL_law 338 = .ok (.iaload, 1) := by decide +kernel
theorem dL_law_339 : decode cL_law 339 = .ok (.aload_n 0, 1) := by decide +kernel
theorem dL_law_340 : decode cL_law 340 = .ok (.iload 4, 2) := by decide +kernel
theorem dL_law_342 : decode cL_law 342 = .ok (.iconst 2, 1) := by decide +kernel
theorem dL_law_343 : decode cL_law 343 = .ok (.iadd, 1) := by decide +kernel
theorem dL_law_344 : decode cL_law 344 = .ok (.iaload, 1) := by decide +kernel
theorem dL_law_345 : decode cL_law 345 = .ok (.aload_n 0, 1) := by decide +kernel
theorem dL_law_346 : decode cL_law 346 = .ok (.iload 4, 2) := by decide +kernel
theorem dL_law_348 : decode cL_law 348 = .ok (.iconst 3, 1) := by decide +kernel
theorem dL_law_349 : decode cL_law 349 = .ok (.iadd, 1) := by decide +kernel
theorem dL_law_350 : decode cL_law 350 = .ok (.iaload, 1) := by decide +kernel
theorem dL_law_351 : decode cL_law 351 = .ok (.invokevirtual 42, 3) := by decide +kernel
theorem dL_law_354 : decode cL_law 354 = .ok (.if_icmp .eq 508, 3) := by decide +kernel
theorem dL_law_357 : decode cL_law 357 = .ok (.iconst 0, 1) := by decide +kernel
theorem dL_law_358 : decode cL_law 358 = .ok (.ireturn, 1) := by decide +kernel
theorem dL_law_359 : decode cL_law 359 = .ok (.aload_n 1, 1) := by decide +kernel
theorem dL_law_360 : decode cL_law 360 = .ok (.aload_n 0, 1) := by decide +kernel
theorem dL_law_361 : decode cL_law 361 = .ok (.iload 4, 2) := by decide +kernel
theorem dL_law_363 : decode cL_law 363 = .ok (.iconst 1, 1) := by decide +kernel
theorem dL_law_364 : decode cL_law 364 = .ok (.iadd, 1) := by decide +kernel
theorem dL_law_365 : decode cL_law 365 = .ok (.iaload, 1) := by decide +kernel
theorem dL_law_366 : decode cL_law 366 = .ok (.invokevirtual 43, 3) := by decide +kernel
theorem dL_law_369 : decode cL_law 369 = .ok (.aload_n 2, 1) := by decide +kernel
theorem dL_law_370 : decode cL_law 370 = .ok (.aload_n 0, 1) := by decide +kernel
theorem dL_law_371 : decode cL_law 371 = .ok (.iload 4, 2) := by decide +kernel
theorem dL_law_373 : decode cL_law 373 = .ok (.iconst 1, 1) := by decide +kernel
theorem dL_law_374 : decode cL_law 374 = .ok (.iadd, 1) := by decide +kernel
theorem dL_law_375 : decode cL_law 375 = .ok (.iaload, 1) := by decide +kernel
theorem dL_law_376 : decode cL_law 376 = .ok (.invokevirtual 47, 3) := by decide +kernel
theorem dL_law_379 : decode cL_law 379 = .ok (.if_icmp .eq 483, 3) := by decide +kernel
theorem dL_law_382 : decode cL_law 382 = .ok (.iconst 0, 1) := by decide +kernel
theorem dL_law_383 : decode cL_law 383 = .ok (.ireturn, 1) := by decide +kernel
theorem dL_law_384 : decode cL_law 384 = .ok (.aload_n 1, 1) := by decide +kernel
theorem dL_law_385 : decode cL_law 385 = .ok (.aload_n 0, 1) := by decide +kernel
theorem dL_law_386 : decode cL_law 386 = .ok (.iload 4, 2) := by decide +kernel
theorem dL_law_388 : decode cL_law 388 = .ok (.iconst 1, 1) := by decide +kernel
theorem dL_law_389 : decode cL_law 389 = .ok (.iadd, 1) := by decide +kernel
theorem dL_law_390 : decode cL_law 390 = .ok (.iaload, 1) := by decide +kernel
theorem dL_law_391 : decode cL_law 391 = .ok (.invokevirtual 48, 3) := by decide +kernel
theorem dL_law_394 : decode cL_law 394 = .ok (.aload_n 2, 1) := by decide +kernel
theorem dL_law_395 : decode cL_law 395 = .ok (.aload_n 0, 1) := by decide +kernel
theorem dL_law_396 : decode cL_law 396 = .ok (.iload 4, 2) := by decide +kernel
theorem dL_law_398 : decode cL_law 398 = .ok (.iconst 1, 1) := by decide +kernel
theorem dL_law_399 : decode cL_law 399 = .ok (.iadd, 1) := by decide +kernel
theorem dL_law_400 : decode cL_law 400 = .ok (.iaload, 1) := by decide +kernel
theorem dL_law_401 : decode cL_law 401 = .ok (.invokevirtual 51, 3) := by decide +kernel
theorem dL_law_404 : decode cL_law 404 = .ok (.if_icmp .eq 458, 3) := by decide +kernel
theorem dL_law_407 : decode cL_law 407 = .ok (.iconst 0, 1) := by decide +kernel
theorem dL_law_408 : decode cL_law 408 = .ok (.ireturn, 1) := by decide +kernel
theorem dL_law_409 : decode cL_law 409 = .ok (.aload_n 1, 1) := by decide +kernel
theorem dL_law_410 : decode cL_law 410 = .ok (.aload_n 0, 1) := by decide +kernel
theorem dL_law_411 : decode cL_law 411 = .ok (.iload 4, 2) := by decide +kernel
theorem dL_law_413 : decode cL_law 413 = .ok (.iconst 1, 1) := by decide +kernel
theorem dL_law_414 : decode cL_law 414 = .ok (.iadd, 1) := by decide +kernel
theorem dL_law_415 : decode cL_law 415 = .ok (.iaload, 1) := by decide +kernel
theorem dL_law_416 : decode cL_law 416 = .ok (.aload_n 0, 1) := by decide +kernel
theorem dL_law_417 : decode cL_law 417 = .ok (.iload 4, 2) := by decide +kernel
theorem dL_law_419 : decode cL_law 419 = .ok (.iconst 2, 1) := by decide +kernel
theorem dL_law_420 : decode cL_law 420 = .ok (.iadd, 1) := by decide +kernel
theorem dL_law_421 : decode cL_law 421 = .ok (.iaload, 1) := by decide +kernel
theorem dL_law_422 : decode cL_law 422 = .ok (.aload_n 3, 1) := by decide +kernel
theorem dL_law_423 : decode cL_law 423 = .ok (.invokestatic 52, 3) := by decide +kernel
theorem dL_law_426 : decode cL_law 426 = .ok (.istore 5, 2) := by decide +kernel
theorem dL_law_428 : decode cL_law 428 = .ok (.aload_n 2, 1) := by decide +kernel
theorem dL_law_429 : decode cL_law 429 = .ok (.aload_n 0, 1) := by decide +kernel
theorem dL_law_430 : decode cL_law 430 = .ok (.iload 4, 2) := by decide +kernel
theorem dL_law_432 : decode cL_law 432 = .ok (.iconst 1, 1) := by decide +kernel
theorem dL_law_433 : decode cL_law 433 = .ok (.iadd, 1) := by decide +kernel
theorem dL_law_434 : decode cL_law 434 = .ok (.iaload, 1) := by decide +kernel
theorem dL_law_435 : decode cL_law 435 = .ok (.aload_n 0, 1) := by decide +kernel
theorem dL_law_436 : decode cL_law 436 = .ok (.iload 4, 2) := by decide +kernel
theorem dL_law_438 : decode cL_law 438 = .ok (.iconst 2, 1) := by decide +kernel
theorem dL_law_439 : decode cL_law 439 = .ok (.iadd, 1) := by decide +kernel
theorem dL_law_440 : decode cL_law 440 = .ok (.iaload, 1) := by decide +kernel
theorem dL_law_441 : decode cL_law 441 = .ok (.invokevirtual 57, 3) := by decide +kernel
theorem dL_law_444 : decode cL_law 444 = .ok (.istore 6, 2) := by decide +kernel
theorem dL_law_446 : decode cL_law 446 = .ok (.aload_n 2, 1) := by decide +kernel
theorem dL_law_447 : decode cL_law 447 = .ok (.invokevirtual 58, 3) := by decide +kernel
theorem dL_law_450 : decode cL_law 450 = .ok (.iload 5, 2) := by decide +kernel
theorem dL_law_452 : decode cL_law 452 = .ok (.if_icmp .eq 5, 3) := by decide +kernel
theorem dL_law_455 : decode cL_law 455 = .ok (.iconst 0, 1) := by decide +kernel
theorem dL_law_456 : decode cL_law 456 = .ok (.ireturn, 1) := by decide +kernel
theorem dL_law_457 : decode cL_law 457 = .ok (.iload 5, 2) := by decide +kernel
theorem dL_law_459 : decode cL_law 459 = .ok (.ifCond .ne 15, 3) := by decide +kernel
theorem dL_law_462 : decode cL_law 462 = .ok (.aload_n 3, 1) := by decide +kernel
theorem dL_law_463 : decode cL_law 463 = .ok (.iconst 0, 1) := by decide +kernel
theorem dL_law_464 : decode cL_law 464 = .ok (.laload, 1) := by decide +kernel
theorem dL_law_465 : decode cL_law 465 = .ok (.iload 6, 2) := by decide +kernel
theorem dL_law_467 : decode cL_law 467 = .ok (.i2l, 1) := by decide +kernel
theorem dL_law_468 : decode cL_law 468 = .ok (.lcmp, 1) := by decide +kernel
theorem dL_law_469 : decode cL_law 469 = .ok (.ifCond .eq 5, 3) := by decide +kernel
theorem dL_law_472 : decode cL_law 472 = .ok (.iconst 0, 1) := by decide +kernel
theorem dL_law_473 : decode cL_law 473 = .ok (.ireturn, 1) := by decide +kernel
theorem dL_law_474 : decode cL_law 474 = .ok (.goto 388, 3) := by decide +kernel
theorem dL_law_477 : decode cL_law 477 = .ok (.aload_n 1, 1) := by decide +kernel
theorem dL_law_478 : decode cL_law 478 = .ok (.aload_n 0, 1) := by decide +kernel
theorem dL_law_479 : decode cL_law 479 = .ok (.iload 4, 2) := by decide +kernel
theorem dL_law_481 : decode cL_law 481 = .ok (.iconst 1, 1) := by decide +kernel
theorem dL_law_482 : decode cL_law 482 = .ok (.iadd, 1) := by decide +kernel
theorem dL_law_483 : decode cL_law 483 = .ok (.iaload, 1) := by decide +kernel
theorem dL_law_484 : decode cL_law 484 = .ok (.invokevirtual 61, 3) := by decide +kernel
theorem dL_law_487 : decode cL_law 487 = .ok (.aload_n 2, 1) := by decide +kernel
theorem dL_law_488 : decode cL_law 488 = .ok (.aload_n 0, 1) := by decide +kernel
theorem dL_law_489 : decode cL_law 489 = .ok (.iload 4, 2) := by decide +kernel
theorem dL_law_491 : decode cL_law 491 = .ok (.iconst 1, 1) := by decide +kernel
theorem dL_law_492 : decode cL_law 492 = .ok (.iadd, 1) := by decide +kernel
theorem dL_law_493 : decode cL_law 493 = .ok (.iaload, 1) := by decide +kernel
theorem dL_law_494 : decode cL_law 494 = .ok (.invokevirtual 64, 3) := by decide +kernel
theorem dL_law_497 : decode cL_law 497 = .ok (.if_icmp .eq 365, 3) := by decide +kernel
theorem dL_law_500 : decode cL_law 500 = .ok (.iconst 0, 1) := by decide +kernel
theorem dL_law_501 : decode cL_law 501 = .ok (.ireturn, 1) := by decide +kernel
theorem dL_law_502 : decode cL_law 502 = .ok (.aload_n 1, 1) := by decide +kernel
theorem dL_law_503 : decode cL_law 503 = .ok (.aload_n 0, 1) := by decide +kernel
theorem dL_law_504 : decode cL_law 504 = .ok (.iload 4, 2) := by decide +kernel
theorem dL_law_506 : decode cL_law 506 = .ok (.iconst 1, 1) := by decide +kernel
theorem dL_law_507 : decode cL_law 507 = .ok (.iadd, 1) := by decide +kernel
theorem dL_law_508 : decode cL_law 508 = .ok (.iaload, 1) := by decide +kernel
theorem dL_law_509 : decode cL_law 509 = .ok (.aload_n 0, 1) := by decide +kernel
theorem dL_law_510 : decode cL_law 510 = .ok (.iload 4, 2) := by decide +kernel
theorem dL_law_512 : decode cL_law 512 = .ok (.iconst 2, 1) := by decide +kernel
theorem dL_law_513 : decode cL_law 513 = .ok (.iadd, 1) := by decide +kernel
theorem dL_law_514 : decode cL_law 514 = .ok (.iaload, 1) := by decide +kernel
theorem dL_law_515 : decode cL_law 515 = .ok (.invokevirtual 65, 3) := by decide +kernel
theorem dL_law_518 : decode cL_law 518 = .ok (.aload_n 2, 1) := by decide +kernel
theorem dL_law_519 : decode cL_law 519 = .ok (.aload_n 0, 1) := by decide +kernel
theorem dL_law_520 : decode cL_law 520 = .ok (.iload 4, 2) := by decide +kernel
theorem dL_law_522 : decode cL_law 522 = .ok (.iconst 1, 1) := by decide +kernel
theorem dL_law_523 : decode cL_law 523 = .ok (.iadd, 1) := by decide +kernel
theorem dL_law_524 : decode cL_law 524 = .ok (.iaload, 1) := by decide +kernel
theorem dL_law_525 : decode cL_law 525 = .ok (.aload_n 0, 1) := by decide +kernel
theorem dL_law_526 : decode cL_law 526 = .ok (.iload 4, 2) := by decide +kernel
theorem dL_law_528 : decode cL_law 528 = .ok (.iconst 2, 1) := by decide +kernel
theorem dL_law_529 : decode cL_law 529 = .ok (.iadd, 1) := by decide +kernel
theorem dL_law_530 : decode cL_law 530 = .ok (.iaload, 1) := by decide +kernel
theorem dL_law_531 : decode cL_law 531 = .ok (.invokevirtual 68, 3) := by decide +kernel
theorem dL_law_534 : decode cL_law 534 = .ok (.if_icmp .eq 328, 3) := by decide +kernel
theorem dL_law_537 : decode cL_law 537 = .ok (.iconst 0, 1) := by decide +kernel
theorem dL_law_538 : decode cL_law 538 = .ok (.ireturn, 1) := by decide +kernel
theorem dL_law_539 : decode cL_law 539 = .ok (.aload_n 1, 1) := by decide +kernel
theorem dL_law_540 : decode cL_law 540 = .ok (.aload_n 0, 1) := by decide +kernel
theorem dL_law_541 : decode cL_law 541 = .ok (.iload 4, 2) := by decide +kernel
theorem dL_law_543 : decode cL_law 543 = .ok (.iconst 1, 1) := by decide +kernel
theorem dL_law_544 : decode cL_law 544 = .ok (.iadd, 1) := by decide +kernel
theorem dL_law_545 : decode cL_law 545 = .ok (.iaload, 1) := by decide +kernel
theorem dL_law_546 : decode cL_law 546 = .ok (.invokevirtual 69, 3) := by decide +kernel
theorem dL_law_549 : decode cL_law 549 = .ok (.aload_n 2, 1) := by decide +kernel
theorem dL_law_550 : decode cL_law 550 = .ok (.aload_n 0, 1) := by decide +kernel
theorem dL_law_551 : decode cL_law 551 = .ok (.iload 4, 2) := by decide +kernel
theorem dL_law_553 : decode cL_law 553 = .ok (.iconst 1, 1) := by decide +kernel
theorem dL_law_554 : decode cL_law 554 = .ok (.iadd, 1) := by decide +kernel
theorem dL_law_555 : decode cL_law 555 = .ok (.iaload, 1) := by decide +kernel
theorem dL_law_556 : decode cL_law 556 = .ok (.invokevirtual 72, 3) := by decide +kernel
theorem dL_law_559 : decode cL_law 559 = .ok (.if_icmp .eq 303, 3) := by decide +kernel
theorem dL_law_562 : decode cL_law 562 = .ok (.iconst 0, 1) := by decide +kernel
theorem dL_law_563 : decode cL_law 563 = .ok (.ireturn, 1) := by decide +kernel
theorem dL_law_564 : decode cL_law 564 = .ok (.aload_n 1, 1) := by decide +kernel
theorem dL_law_565 : decode cL_law 565 = .ok (.aload_n 0, 1) := by decide +kernel
theorem dL_law_566 : decode cL_law 566 = .ok (.iload 4, 2) := by decide +kernel
theorem dL_law_568 : decode cL_law 568 = .ok (.iconst 1, 1) := by decide +kernel
theorem dL_law_569 : decode cL_law 569 = .ok (.iadd, 1) := by decide +kernel
theorem dL_law_570 : decode cL_law 570 = .ok (.iaload, 1) := by decide +kernel
theorem dL_law_571 : decode cL_law 571 = .ok (.invokevirtual 73, 3) := by decide +kernel
theorem dL_law_574 : decode cL_law 574 = .ok (.aload_n 2, 1) := by decide +kernel
theorem dL_law_575 : decode cL_law 575 = .ok (.aload_n 0, 1) := by decide +kernel
theorem dL_law_576 : decode cL_law 576 = .ok (.iload 4, 2) := by decide +kernel
theorem dL_law_578 : decode cL_law 578 = .ok (.iconst 1, 1) := by decide +kernel
theorem dL_law_579 : decode cL_law 579 = .ok (.iadd, 1) := by decide +kernel
theorem dL_law_580 : decode cL_law 580 = .ok (.iaload, 1) := by decide +kernel
theorem dL_law_581 : decode cL_law 581 = .ok (.invokevirtual 77, 3) := by decide +kernel
theorem dL_law_584 : decode cL_law 584 = .ok (.lcmp, 1) := by decide +kernel
theorem dL_law_585 : decode cL_law 585 = .ok (.ifCond .eq 277, 3) := by decide +kernel
theorem dL_law_588 : decode cL_law 588 = .ok (.iconst 0, 1) := by decide +kernel
theorem dL_law_589 : decode cL_law 589 = .ok (.ireturn, 1) := by decide +kernel
theorem dL_law_590 : decode cL_law 590 = .ok (.aload_n 1, 1) := by decide +kernel
theorem dL_law_591 : decode cL_law 591 = .ok (.aload_n 0, 1) := by decide +kernel
theorem dL_law_592 : decode cL_law 592 = .ok (.iload 4, 2) := by decide +kernel
theorem dL_law_594 : decode cL_law 594 = .ok (.iconst 1, 1) := by decide +kernel
theorem dL_law_595 : decode cL_law 595 = .ok (.iadd, 1) := by decide +kernel
theorem dL_law_596 : decode cL_law 596 = .ok (.iaload, 1) := by decide +kernel
theorem dL_law_597 : decode cL_law 597 = .ok (.invokevirtual 78, 3) := by decide +kernel
theorem dL_law_600 : decode cL_law 600 = .ok (.aload_n 2, 1) := by decide +kernel
theorem dL_law_601 : decode cL_law 601 = .ok (.aload_n 0, 1) := by decide +kernel
theorem dL_law_602 : decode cL_law 602 = .ok (.iload 4, 2) := by decide +kernel
theorem dL_law_604 : decode cL_law 604 = .ok (.iconst 1, 1) := by decide +kernel
theorem dL_law_605 : decode cL_law 605 = .ok (.iadd, 1) := by decide +kernel
theorem dL_law_606 : decode cL_law 606 = .ok (.iaload, 1) := by decide +kernel
theorem dL_law_607 : decode cL_law 607 = .ok (.invokevirtual 81, 3) := by decide +kernel
theorem dL_law_610 : decode cL_law 610 = .ok (.if_icmp .eq 252, 3) := by decide +kernel
theorem dL_law_613 : decode cL_law 613 = .ok (.iconst 0, 1) := by decide +kernel
theorem dL_law_614 : decode cL_law 614 = .ok (.ireturn, 1) := by decide +kernel
theorem dL_law_615 : decode cL_law 615 = .ok (.aload_n 1, 1) := by decide +kernel
theorem dL_law_616 : decode cL_law 616 = .ok (.aload_n 0, 1) := by decide +kernel
theorem dL_law_617 : decode cL_law 617 = .ok (.iload 4, 2) := by decide +kernel
theorem dL_law_619 : decode cL_law 619 = .ok (.iconst 1, 1) := by decide +kernel
theorem dL_law_620 : decode cL_law 620 = .ok (.iadd, 1) := by decide +kernel
theorem dL_law_621 : decode cL_law 621 = .ok (.iaload, 1) := by decide +kernel
theorem dL_law_622 : decode cL_law 622 = .ok (.aload_n 0, 1) := by decide +kernel
theorem dL_law_623 : decode cL_law 623 = .ok (.iload 4, 2) := by decide +kernel
theorem dL_law_625 : decode cL_law 625 = .ok (.iconst 2, 1) := by decide +kernel
theorem dL_law_626 : decode cL_law 626 = .ok (.iadd, 1) := by decide +kernel
theorem dL_law_627 : decode cL_law 627 = .ok (.iaload, 1) := by decide +kernel
theorem dL_law_628 : decode cL_law 628 = .ok (.aload_n 0, 1) := by decide +kernel
theorem dL_law_629 : decode cL_law 629 = .ok (.iload 4, 2) := by decide +kernel
theorem dL_law_631 : decode cL_law 631 = .ok (.iconst 3, 1) := by decide +kernel
theorem dL_law_632 : decode cL_law 632 = .ok (.iadd, 1) := by decide +kernel
theorem dL_law_633 : decode cL_law 633 = .ok (.iaload, 1) := by decide +kernel
theorem dL_law_634 : decode cL_law 634 = .ok (.invokevirtual 82, 3) := by decide +kernel
theorem dL_law_637 : decode cL_law 637 = .ok (.aload_n 2, 1) := by decide +kernel
theorem dL_law_638 : decode cL_law 638 = .ok (.aload_n 0, 1) := by decide +kernel
theorem dL_law_639 : decode cL_law 639 = .ok (.iload 4, 2) := by decide +kernel
theorem dL_law_641 : decode cL_law 641 = .ok (.iconst 1, 1) := by decide +kernel
theorem dL_law_642 : decode cL_law 642 = .ok (.iadd, 1) := by decide +kernel
theorem dL_law_643 : decode cL_law 643 = .ok (.iaload, 1) := by decide +kernel
theorem dL_law_644 : decode cL_law 644 = .ok (.aload_n 0, 1) := by decide +kernel
theorem dL_law_645 : decode cL_law 645 = .ok (.iload 4, 2) := by decide +kernel
theorem dL_law_647 : decode cL_law 647 = .ok (.iconst 2, 1) := by decide +kernel
theorem dL_law_648 : decode cL_law 648 = .ok (.iadd, 1) := by decide +kernel
theorem dL_law_649 : decode cL_law 649 = .ok (.iaload, 1) := by decide +kernel
theorem dL_law_650 : decode cL_law 650 = .ok (.aload_n 0, 1) := by decide +kernel
theorem dL_law_651 : decode cL_law 651 = .ok (.iload 4, 2) := by decide +kernel
theorem dL_law_653 : decode cL_law 653 = .ok (.iconst 3, 1) := by decide +kernel
theorem dL_law_654 : decode cL_law 654 = .ok (.iadd, 1) := by decide +kernel
theorem dL_law_655 : decode cL_law 655 = .ok (.iaload, 1) := by decide +kernel
theorem dL_law_656 : decode cL_law 656 = .ok (.invokevirtual 85, 3) := by decide +kernel
theorem dL_law_659 : decode cL_law 659 = .ok (.if_icmp .eq 203, 3) := by decide +kernel
theorem dL_law_662 : decode cL_law 662 = .ok (.iconst 0, 1) := by decide +kernel
theorem dL_law_663 : decode cL_law 663 = .ok (.ireturn, 1) := by decide +kernel
theorem dL_law_664 : decode cL_law 664 = .ok (.aload_n 1, 1) := by decide +kernel
theorem dL_law_665 : decode cL_law 665 = .ok (.aload_n 0, 1) := by decide +kernel
theorem dL_law_666 : decode cL_law 666 = .ok (.iload 4, 2) := by decide +kernel
theorem dL_law_668 : decode cL_law 668 = .ok (.iconst 1, 1) := by decide +kernel
theorem dL_law_669 : decode cL_law 669 = .ok (.iadd, 1) := by decide +kernel
theorem dL_law_670 : decode cL_law 670 = .ok (.iaload, 1) := by decide +kernel
theorem dL_law_671 : decode cL_law 671 = .ok (.aload_n 0, 1) := by decide +kernel
theorem dL_law_672 : decode cL_law 672 = .ok (.iload 4, 2) := by decide +kernel
theorem dL_law_674 : decode cL_law 674 = .ok (.iconst 2, 1) := by decide +kernel
theorem dL_law_675 : decode cL_law 675 = .ok (.iadd, 1) := by decide +kernel
theorem dL_law_676 : decode cL_law 676 = .ok (.iaload, 1) := by decide +kernel
theorem dL_law_677 : decode cL_law 677 = .ok (.aload_n 0, 1) := by decide +kernel
theorem dL_law_678 : decode cL_law 678 = .ok (.iload 4, 2) := by decide +kernel
theorem dL_law_680 : decode cL_law 680 = .ok (.iconst 3, 1) := by decide +kernel
theorem dL_law_681 : decode cL_law 681 = .ok (.iadd, 1) := by decide +kernel
theorem dL_law_682 : decode cL_law 682 = .ok (.iaload, 1) := by decide +kernel
theorem dL_law_683 : decode cL_law 683 = .ok (.aload_n 0, 1) := by decide +kernel
theorem dL_law_684 : decode cL_law 684 = .ok (.iload 4, 2) := by decide +kernel
theorem dL_law_686 : decode cL_law 686 = .ok (.iconst 4, 1) := by decide +kernel
theorem dL_law_687 : decode cL_law 687 = .ok (.iadd, 1) := by decide +kernel
theorem dL_law_688 : decode cL_law 688 = .ok (.iaload, 1) := by decide +kernel
theorem dL_law_689 : decode cL_law 689 = .ok (.invokevirtual 86, 3) := by decide +kernel
theorem dL_law_692 : decode cL_law 692 = .ok (.aload_n 2, 1) := by decide +kernel
theorem dL_law_693 : decode cL_law 693 = .ok (.aload_n 0, 1) := by decide +kernel
theorem dL_law_694 : decode cL_law 694 = .ok (.iload 4, 2) := by decide +kernel
theorem dL_law_696 : decode cL_law 696 = .ok (.iconst 1, 1) := by decide +kernel
theorem dL_law_697 : decode cL_law 697 = .ok (.iadd, 1) := by decide +kernel
theorem dL_law_698 : decode cL_law 698 = .ok (.iaload, 1) := by decide +kernel
theorem dL_law_699 : decode cL_law 699 = .ok (.aload_n 0, 1) := by decide +kernel
theorem dL_law_700 : decode cL_law 700 = .ok (.iload 4, 2) := by decide +kernel
theorem dL_law_702 : decode cL_law 702 = .ok (.iconst 2, 1) := by decide +kernel
theorem dL_law_703 : decode cL_law 703 = .ok (.iadd, 1) := by decide +kernel
theorem dL_law_704 : decode cL_law 704 = .ok (.iaload, 1) := by decide +kernel
theorem dL_law_705 : decode cL_law 705 = .ok (.aload_n 0, 1) := by decide +kernel
theorem dL_law_706 : decode cL_law 706 = .ok (.iload 4, 2) := by decide +kernel
theorem dL_law_708 : decode cL_law 708 = .ok (.iconst 3, 1) := by decide +kernel
theorem dL_law_709 : decode cL_law 709 = .ok (.iadd, 1) := by decide +kernel
theorem dL_law_710 : decode cL_law 710 = .ok (.iaload, 1) := by decide +kernel
theorem dL_law_711 : decode cL_law 711 = .ok (.aload_n 0, 1) := by decide +kernel
theorem dL_law_712 : decode cL_law 712 = .ok (.iload 4, 2) := by decide +kernel
theorem dL_law_714 : decode cL_law 714 = .ok (.iconst 4, 1) := by decide +kernel
theorem dL_law_715 : decode cL_law 715 = .ok (.iadd, 1) := by decide +kernel
theorem dL_law_716 : decode cL_law 716 = .ok (.iaload, 1) := by decide +kernel
theorem dL_law_717 : decode cL_law 717 = .ok (.invokevirtual 89, 3) := by decide +kernel
theorem dL_law_720 : decode cL_law 720 = .ok (.if_icmp .eq 142, 3) := by decide +kernel
theorem dL_law_723 : decode cL_law 723 = .ok (.iconst 0, 1) := by decide +kernel
theorem dL_law_724 : decode cL_law 724 = .ok (.ireturn, 1) := by decide +kernel
theorem dL_law_725 : decode cL_law 725 = .ok (.aload_n 1, 1) := by decide +kernel
theorem dL_law_726 : decode cL_law 726 = .ok (.aload_n 0, 1) := by decide +kernel
theorem dL_law_727 : decode cL_law 727 = .ok (.iload 4, 2) := by decide +kernel
theorem dL_law_729 : decode cL_law 729 = .ok (.iconst 1, 1) := by decide +kernel
theorem dL_law_730 : decode cL_law 730 = .ok (.iadd, 1) := by decide +kernel
theorem dL_law_731 : decode cL_law 731 = .ok (.iaload, 1) := by decide +kernel
theorem dL_law_732 : decode cL_law 732 = .ok (.aload_n 0, 1) := by decide +kernel
theorem dL_law_733 : decode cL_law 733 = .ok (.iload 4, 2) := by decide +kernel
theorem dL_law_735 : decode cL_law 735 = .ok (.iconst 2, 1) := by decide +kernel
theorem dL_law_736 : decode cL_law 736 = .ok (.iadd, 1) := by decide +kernel
theorem dL_law_737 : decode cL_law 737 = .ok (.iaload, 1) := by decide +kernel
theorem dL_law_738 : decode cL_law 738 = .ok (.invokevirtual 90, 3) := by decide +kernel
theorem dL_law_741 : decode cL_law 741 = .ok (.aload_n 2, 1) := by decide +kernel
theorem dL_law_742 : decode cL_law 742 = .ok (.aload_n 0, 1) := by decide +kernel
theorem dL_law_743 : decode cL_law 743 = .ok (.iload 4, 2) := by decide +kernel
theorem dL_law_745 : decode cL_law 745 = .ok (.iconst 1, 1) := by decide +kernel
theorem dL_law_746 : decode cL_law 746 = .ok (.iadd, 1) := by decide +kernel
theorem dL_law_747 : decode cL_law 747 = .ok (.iaload, 1) := by decide +kernel
theorem dL_law_748 : decode cL_law 748 = .ok (.aload_n 0, 1) := by decide +kernel
theorem dL_law_749 : decode cL_law 749 = .ok (.iload 4, 2) := by decide +kernel
theorem dL_law_751 : decode cL_law 751 = .ok (.iconst 2, 1) := by decide +kernel
theorem dL_law_752 : decode cL_law 752 = .ok (.iadd, 1) := by decide +kernel
theorem dL_law_753 : decode cL_law 753 = .ok (.iaload, 1) := by decide +kernel
theorem dL_law_754 : decode cL_law 754 = .ok (.invokevirtual 93, 3) := by decide +kernel
theorem dL_law_757 : decode cL_law 757 = .ok (.if_icmp .eq 105, 3) := by decide +kernel
theorem dL_law_760 : decode cL_law 760 = .ok (.iconst 0, 1) := by decide +kernel
theorem dL_law_761 : decode cL_law 761 = .ok (.ireturn, 1) := by decide +kernel
theorem dL_law_762 : decode cL_law 762 = .ok (.aload_n 1, 1) := by decide +kernel
theorem dL_law_763 : decode cL_law 763 = .ok (.invokevirtual 94, 3) := by decide +kernel
theorem dL_law_766 : decode cL_law 766 = .ok (.aload_n 2, 1) := by decide +kernel
theorem dL_law_767 : decode cL_law 767 = .ok (.invokevirtual 97, 3) := by decide +kernel
theorem dL_law_770 : decode cL_law 770 = .ok (.if_icmp .eq 92, 3) := by decide +kernel
theorem dL_law_773 : decode cL_law 773 = .ok (.iconst 0, 1) := by decide +kernel
theorem dL_law_774 : decode cL_law 774 = .ok (.ireturn, 1) := by decide +kernel
theorem dL_law_775 : decode cL_law 775 = .ok (.aload_n 1, 1) := by decide +kernel
theorem dL_law_776 : decode cL_law 776 = .ok (.aload_n 0, 1) := by decide +kernel
theorem dL_law_777 : decode cL_law 777 = .ok (.iload 4, 2) := by decide +kernel
theorem dL_law_779 : decode cL_law 779 = .ok (.iconst 1, 1) := by decide +kernel
theorem dL_law_780 : decode cL_law 780 = .ok (.iadd, 1) := by decide +kernel
theorem dL_law_781 : decode cL_law 781 = .ok (.iaload, 1) := by decide +kernel
theorem dL_law_782 : decode cL_law 782 = .ok (.invokevirtual 98, 3) := by decide +kernel
theorem dL_law_785 : decode cL_law 785 = .ok (.aload_n 2, 1) := by decide +kernel
theorem dL_law_786 : decode cL_law 786 = .ok (.aload_n 0, 1) := by decide +kernel
theorem dL_law_787 : decode cL_law 787 = .ok (.iload 4, 2) := by decide +kernel
theorem dL_law_789 : decode cL_law 789 = .ok (.iconst 1, 1) := by decide +kernel
theorem dL_law_790 : decode cL_law 790 = .ok (.iadd, 1) := by decide +kernel
theorem dL_law_791 : decode cL_law 791 = .ok (.iaload, 1) := by decide +kernel
theorem dL_law_792 : decode cL_law 792 = .ok (.invokevirtual 101, 3) := by decide +kernel
theorem dL_law_795 : decode cL_law 795 = .ok (.if_icmp .eq 67, 3) := by decide +kernel
theorem dL_law_798 : decode cL_law 798 = .ok (.iconst 0, 1) := by decide +kernel
theorem dL_law_799 : decode cL_law 799 = .ok (.ireturn, 1) := by decide +kernel
theorem dL_law_800 : decode cL_law 800 = .ok (.aload_n 1, 1) := by decide +kernel
theorem dL_law_801 : decode cL_law 801 = .ok (.aload_n 0, 1) := by decide +kernel
theorem dL_law_802 : decode cL_law 802 = .ok (.iload 4, 2) := by decide +kernel
theorem dL_law_804 : decode cL_law 804 = .ok (.iconst 1, 1) := by decide +kernel
theorem dL_law_805 : decode cL_law 805 = .ok (.iadd, 1) := by decide +kernel
theorem dL_law_806 : decode cL_law 806 = .ok (.iaload, 1) := by decide +kernel
theorem dL_law_807 : decode cL_law 807 = .ok (.aload_n 0, 1) := by decide +kernel
theorem dL_law_808 : decode cL_law 808 = .ok (.iload 4, 2) := by decide +kernel
theorem dL_law_810 : decode cL_law 810 = .ok (.iconst 2, 1) := by decide +kernel
theorem dL_law_811 : decode cL_law 811 = .ok (.iadd, 1) := by decide +kernel
theorem dL_law_812 : decode cL_law 812 = .ok (.iaload, 1) := by decide +kernel
theorem dL_law_813 : decode cL_law 813 = .ok (.invokevirtual 102, 3) := by decide +kernel
theorem dL_law_816 : decode cL_law 816 = .ok (.aload_n 2, 1) := by decide +kernel
theorem dL_law_817 : decode cL_law 817 = .ok (.aload_n 0, 1) := by decide +kernel
theorem dL_law_818 : decode cL_law 818 = .ok (.iload 4, 2) := by decide +kernel
theorem dL_law_820 : decode cL_law 820 = .ok (.iconst 1, 1) := by decide +kernel
theorem dL_law_821 : decode cL_law 821 = .ok (.iadd, 1) := by decide +kernel
theorem dL_law_822 : decode cL_law 822 = .ok (.iaload, 1) := by decide +kernel
theorem dL_law_823 : decode cL_law 823 = .ok (.aload_n 0, 1) := by decide +kernel
theorem dL_law_824 : decode cL_law 824 = .ok (.iload 4, 2) := by decide +kernel
theorem dL_law_826 : decode cL_law 826 = .ok (.iconst 2, 1) := by decide +kernel
theorem dL_law_827 : decode cL_law 827 = .ok (.iadd, 1) := by decide +kernel
theorem dL_law_828 : decode cL_law 828 = .ok (.iaload, 1) := by decide +kernel
theorem dL_law_829 : decode cL_law 829 = .ok (.invokevirtual 105, 3) := by decide +kernel
theorem dL_law_832 : decode cL_law 832 = .ok (.if_icmp .eq 30, 3) := by decide +kernel
theorem dL_law_835 : decode cL_law 835 = .ok (.iconst 0, 1) := by decide +kernel
theorem dL_law_836 : decode cL_law 836 = .ok (.ireturn, 1) := by decide +kernel
theorem dL_law_837 : decode cL_law 837 = .ok (.aload_n 1, 1) := by decide +kernel
theorem dL_law_838 : decode cL_law 838 = .ok (.aload_n 0, 1) := by decide +kernel
theorem dL_law_839 : decode cL_law 839 = .ok (.iload 4, 2) := by decide +kernel
theorem dL_law_841 : decode cL_law 841 = .ok (.iconst 1, 1) := by decide +kernel
theorem dL_law_842 : decode cL_law 842 = .ok (.iadd, 1) := by decide +kernel
theorem dL_law_843 : decode cL_law 843 = .ok (.iaload, 1) := by decide +kernel
theorem dL_law_844 : decode cL_law 844 = .ok (.invokevirtual 106, 3) := by decide +kernel
theorem dL_law_847 : decode cL_law 847 = .ok (.aload_n 2, 1) := by decide +kernel
theorem dL_law_848 : decode cL_law 848 = .ok (.aload_n 0, 1) := by decide +kernel
theorem dL_law_849 : decode cL_law 849 = .ok (.iload 4, 2) := by decide +kernel
theorem dL_law_851 : decode cL_law 851 = .ok (.iconst 1, 1) := by decide +kernel
theorem dL_law_852 : decode cL_law 852 = .ok (.iadd, 1) := by decide +kernel
theorem dL_law_853 : decode cL_law 853 = .ok (.iaload, 1) := by decide +kernel
theorem dL_law_854 : decode cL_law 854 = .ok (.invokevirtual 109, 3) := by decide +kernel
theorem dL_law_857 : decode cL_law 857 = .ok (.if_icmp .eq 5, 3) := by decide +kernel
theorem dL_law_860 : decode cL_law 860 = .ok (.iconst 0, 1) := by decide +kernel
theorem dL_law_861 : decode cL_law 861 = .ok (.ireturn, 1) := by decide +kernel
theorem dL_law_862 : decode cL_law 862 = .ok (.iinc 4 7, 3) := by decide +kernel
theorem dL_law_865 : decode cL_law 865 = .ok (.goto (-842), 3) := by decide +kernel
theorem dL_law_868 : decode cL_law 868 = .ok (.iconst 1, 1) := by decide +kernel
theorem dL_law_869 : decode cL_law 869 = .ok (.ireturn, 1) := by decide +kernel
end
section
/-! the pure words: guards, bindings, calls, answers of boolean methods -/
abbrev Ar := Nat → Int32
abbrev Al := Nat → Int64
def fuel : Nat := 1000
def ib (i : Int32) (n : Nat) : Bool := decide (¬ (i < 0 ∨ n ≤ i.toNatClampNeg))
theorem ib_in {i : Int32} {n : Nat} (h : ib i n = true) : vp_in i n := of_decide_eq_true h
def nzL (y : Int64) : Bool := decide (¬ y = 0)
theorem nzL_ne {y : Int64} (h : nzL y = true) : ¬ y = 0 := of_decide_eq_true h
def nzI (y : Int32) : Bool := decide (¬ y = 0)
theorem nzI_ne {y : Int32} (h : nzI y = true) : ¬ y = 0 := of_decide_eq_true h
def gd {α : Type} (b : Bool) (k : Option α) : Option α := match b with
  | true => k
  | false => none
theorem gdE {α : Type} {b : Bool} {k : Option α} {o : α} (h : gd b k = some o) : b = true ∧ k = some o := by
  cases b with
  | true => exact ⟨rfl, h⟩
  | false => cases h
theorem gd_t {α : Type} {b : Bool} (k : Option α) (h : b = true) : gd b k = k := by subst h; rfl
def bnd {α β : Type} (a : α) (f : α → β) : β := f a
theorem bndE {α β : Type} {a : α} {f : α → β} {o : β} (h : bnd a f = o) {v : α} (ev : v = a) : f v = o := by subst ev; exact h
theorem bdE {α β : Type} {x : Option α} {f : α → Option β} {o : β} (h : x.bind f = some o) : ∃ a, x = some a ∧ f a = some o := by
  cases x with
  | none => cases h
  | some a => exact ⟨a, rfl, h⟩
theorem ifT {α : Type} {c : Prop} [Decidable c] {a b : α} {o : α} (hc : c) (h : (if c then a else b) = o) : a = o := by rw [if_pos hc] at h; exact h
theorem ifF {α : Type} {c : Prop} [Decidable c] {a b : α} {o : α} (hc : ¬ c) (h : (if c then a else b) = o) : b = o := by rw [if_neg hc] at h; exact h
theorem ifN {α : Type} {c : Prop} [Decidable c] {a b : α} {o : α} (hc : c) (h : (if ¬ c then a else b) = o) : b = o := by rw [if_neg (fun q => q hc)] at h; exact h
def b2i (b : Bool) : Int32 := match b with
  | true => 1
  | false => 0
theorem b2i_nar (b : Bool) : narrow .boolean (.int (b2i b)) = .int (b2i b) := by cases b <;> rfl
/-! worlds -/
def NwW (U : State) : Prop := va_Nw (.methodLinkNest RX1 77 yX2_commonOf RX2) U ∧ va_Nw (.methodLinkNest RX1 117 yX2_packed RX2) U
theorem NwW.warm {s U : State} (hW : s.WarmedH U.vm) (h : NwW s) : NwW U := ⟨va_Nw.warmM hW h.1, va_Nw.warmM hW h.2⟩
theorem NwW.same {s U : State} (hv : s.vm = U.vm) (h : NwW s) : NwW U := ⟨va_Nw.same rfl hv h.1, va_Nw.same rfl hv h.2⟩
/-- the tables: the classes' fields, the array classes, the nest's links -/
def Kw (D : va_G) (cI cJ cZ : ClassId) (U : State) : Prop := va_K D vwCl [(cI, .int), (cJ, .long), (cZ, .boolean)] U ∧ NwW U
theorem Kw.warm {D : va_G} {cI cJ cZ : ClassId} {s U : State} (hW : s.WarmedH U.vm) (h : Kw D cI cJ cZ s) : Kw D cI cJ cZ U := ⟨va_K.moved hW.alike h.1, h.2.warm hW⟩
def PreW (D : va_G) (cI cJ cZ : ClassId) (ws : va_W) (sz : Nat) (U : State) : Prop := U.heap.size = sz ∧ va_P D vwCl ws U.heap ∧ Kw D cI cJ cZ U ∧ va_D (fun _ => True) ws
theorem PreW.blind {D : va_G} {cI cJ cZ : ClassId} {ws : va_W} {sz : Nat} {av : List Value} : FrameBlind (va_Pc av (PreW D cI cJ cZ ws sz)) := fun a U g mk q => ⟨q.1, q.2.1, q.2.2.1, ⟨va_K.moved (u := U) (U := U.calling g mk a) (Vm.Alike.refl U.vm) q.2.2.2.1.1, NwW.same (s := U) (U := U.calling g mk a) rfl q.2.2.2.1.2⟩, q.2.2.2.2⟩
def PostW (D : va_G) (A : Nat → Prop) (ws : va_W) (t : State) : Prop := va_P D vwCl ws t.heap ∧ va_D A ws
abbrev QI (D : va_G) (A : Nat → Prop) (r : Int32) (w : va_W) : Array Value → State → Outcome → State → Prop := va_Qi (fun x (_ : Unit) => x = r) (fun _ t => PostW D A w t) A
abbrev QL (D : va_G) (A : Nat → Prop) (r : Int64) (w : va_W) : Array Value → State → Outcome → State → Prop := va_Ql (fun x (_ : Unit) => x = r) (fun _ t => PostW D A w t) A
abbrev QV (D : va_G) (A : Nat → Prop) (w : va_W) : Array Value → State → Outcome → State → Prop := va_Qv (fun (_ : Unit) => True) (fun _ t => PostW D A w t) A
abbrev QR (D : va_G) (A : Nat → Prop) (r : Nat) (w : va_W) : Array Value → State → Outcome → State → Prop := va_Qr (fun (_ : Unit) => True) (fun _ a t => a = r ∧ PostW D A w t) A
/-- the contracts: an int, a long, nothing, a reference -/
abbrev CtI (l : Launch) (y : MethodName) (ws : List Cond) (rm : Room) (D : va_G) (cI cJ cZ : ClassId) (av : List Value) (w w1 : va_W) (r : Int32) : Prop := ∀ sz : Nat, Met l y ws rm (va_Pc av (PreW D cI cJ cZ w sz)) (QI D (va_A w sz) r w1) rm.cells rm.slots (va_A w sz)
abbrev CtL (l : Launch) (y : MethodName) (ws : List Cond) (rm : Room) (D : va_G) (cI cJ cZ : ClassId) (av : List Value) (w w1 : va_W) (r : Int64) : Prop := ∀ sz : Nat, Met l y ws rm (va_Pc av (PreW D cI cJ cZ w sz)) (QL D (va_A w sz) r w1) rm.cells rm.slots (va_A w sz)
abbrev CtV (l : Launch) (y : MethodName) (ws : List Cond) (rm : Room) (D : va_G) (cI cJ cZ : ClassId) (av : List Value) (w w1 : va_W) : Prop := ∀ sz : Nat, Met l y ws rm (va_Pc av (PreW D cI cJ cZ w sz)) (QV D (va_A w sz) w1) rm.cells rm.slots (va_A w sz)
abbrev CtR (l : Launch) (y : MethodName) (ws : List Cond) (rm : Room) (D : va_G) (cI cJ cZ : ClassId) (av : List Value) (w w1 : va_W) (r : Nat) : Prop := ∀ sz : Nat, Met l y ws rm (va_Pc av (PreW D cI cJ cZ w sz)) (QR D (va_A w sz) r w1) rm.cells rm.slots (va_A w sz)
theorem P_subm {D : va_G} {cl : List vw_C} {ws w2 : va_W} {H : Heap} (h : va_P D cl ws H) (is : List Nat) (hs : is.map (fun i => ws[i]?) = w2.map some) : va_P D cl w2 H := by
  intro k q hk
  have h1 : (is.map (fun i => ws[i]?))[k]? = some (some q) := by rw [hs, List.getElem?_map, hk]; rfl
  rw [List.getElem?_map] at h1
  cases hi : is[k]? with
  | none => rw [hi] at h1; cases h1
  | some i => rw [hi] at h1; exact h i q (Option.some.inj h1)
section XC
variable {p : Program} {l : Launch} {e : Env} {R : Room} {s : State} {m : MethodId} {args : Array Value} {below : List Frame} {meth : Method} {c : Code} {H : Heap} {locs : List Loc} {cells slots : Nat} {Q : State → Prop}
variable {pc : Nat} {ls : Array Slot} {rest st0 : List Value} {a : Array Value} {A0 : Nat → Prop} {H0 : Heap} {mc ms : Nat} {D : va_G} {cI cJ cZ : ClassId} {ws wc wr w1 w2 : va_W}
/-- what is left behind a call: the caller's world, its places anew -/
theorem xW {H1 : Heap} (hP : va_P D vwCl ws H) (hD : va_D A0 ws) (hFc : ∀ q, va_A wc H.size q → A0 q) (isC isR : List Nat) (hC : isC.map (fun i => ws[i]?) = wc.map some) (hR : isR.map (fun i => ws[i]?) = wr.map some) (hn : va_nd isR = true) (hdis : ∀ i ∈ isR, i ∉ isC)
    (isJ : List Nat) (hJ : isJ.map (fun i => (wr ++ w1)[i]?) = w2.map some) (hnJ : va_nd isJ = true) (hk : ∀ q : Nat, q < H.size → ¬ va_A wc H.size q → H1[q]? = H[q]?) (hP1 : va_P D vwCl w1 H1) (hD1 : va_D (va_A wc H.size) w1) : va_P D vwCl w2 H1 ∧ va_D A0 w2 := by
  obtain ⟨h1, h2⟩ := va_join (wr := wr) (w1 := w1) hP hD isC isR hC hR hn hdis hk hFc hP1 hD1
  exact ⟨P_subm h1 isJ hJ, h2.sub isJ hnJ hJ⟩
theorem xI {r : Int32} (hr : va_Run p l e R s m args below meth c H locs cells slots mc ms (F0 m pc ls st0) rest (QI D (va_A wc H.size) r w1 a) (va_A wc H.size)) (hP : va_P D vwCl ws H) (hD : va_D A0 ws) (hS : va_S A0 H0 H locs) (hA : ∀ q, H0.size ≤ q → A0 q)
    (isC isR isJ : List Nat) (hC : isC.map (fun i => ws[i]?) = wc.map some) (hR : isR.map (fun i => ws[i]?) = wr.map some) (hn : va_nd isR = true) (hdis : ∀ i ∈ isR, i ∉ isC) (hJ : isJ.map (fun i => (wr ++ w1)[i]?) = w2.map some) (hnJ : va_nd isJ = true)
    (kk : ∀ (H1 : Heap) (locs1 : List Loc), va_P D vwCl w2 H1 → va_D A0 w2 → va_S A0 H0 H1 locs1 → W p l e R s m args below meth c H1 locs1 (cells + mc) (slots + ms) Q (F0 m (pc + 3) ls (.int r :: rest))) : W p l e R s m args below meth c H locs cells slots Q (F0 m pc ls st0) := by
  have hFc := va_free (wc := wc) hD hS hA isC hC
  refine va_calli hr hS (fun q _ h => hFc q h) hFc (fun r1 u t H1 locs1 ht hvm hw hB hz1 hk1 hS1 => ?_)
  cases hw
  obtain ⟨hP1, hD1⟩ := hB
  rw [ht] at hP1
  obtain ⟨h1, h2⟩ := xW hP hD hFc isC isR hC hR hn hdis isJ hJ hnJ hk1 hP1 hD1
  exact kk H1 locs1 h1 h2 hS1
theorem xL {r : Int64} (hr : va_Run p l e R s m args below meth c H locs cells slots mc ms (F0 m pc ls st0) rest (QL D (va_A wc H.size) r w1 a) (va_A wc H.size)) (hP : va_P D vwCl ws H) (hD : va_D A0 ws) (hS : va_S A0 H0 H locs) (hA : ∀ q, H0.size ≤ q → A0 q)
    (isC isR isJ : List Nat) (hC : isC.map (fun i => ws[i]?) = wc.map some) (hR : isR.map (fun i => ws[i]?) = wr.map some) (hn : va_nd isR = true) (hdis : ∀ i ∈ isR, i ∉ isC) (hJ : isJ.map (fun i => (wr ++ w1)[i]?) = w2.map some) (hnJ : va_nd isJ = true)
    (kk : ∀ (H1 : Heap) (locs1 : List Loc), va_P D vwCl w2 H1 → va_D A0 w2 → va_S A0 H0 H1 locs1 → W p l e R s m args below meth c H1 locs1 (cells + mc) (slots + ms) Q (F0 m (pc + 3) ls (.long r :: rest))) : W p l e R s m args below meth c H locs cells slots Q (F0 m pc ls st0) := by
  have hFc := va_free (wc := wc) hD hS hA isC hC
  refine va_calll hr hS (fun q _ h => hFc q h) hFc (fun r1 u t H1 locs1 ht hvm hw hB hz1 hk1 hS1 => ?_)
  cases hw
  obtain ⟨hP1, hD1⟩ := hB
  rw [ht] at hP1
  obtain ⟨h1, h2⟩ := xW hP hD hFc isC isR hC hR hn hdis isJ hJ hnJ hk1 hP1 hD1
  exact kk H1 locs1 h1 h2 hS1
theorem xV (hr : va_Run p l e R s m args below meth c H locs cells slots mc ms (F0 m pc ls st0) rest (QV D (va_A wc H.size) w1 a) (va_A wc H.size)) (hP : va_P D vwCl ws H) (hD : va_D A0 ws) (hS : va_S A0 H0 H locs) (hA : ∀ q, H0.size ≤ q → A0 q)
    (isC isR isJ : List Nat) (hC : isC.map (fun i => ws[i]?) = wc.map some) (hR : isR.map (fun i => ws[i]?) = wr.map some) (hn : va_nd isR = true) (hdis : ∀ i ∈ isR, i ∉ isC) (hJ : isJ.map (fun i => (wr ++ w1)[i]?) = w2.map some) (hnJ : va_nd isJ = true)
    (kk : ∀ (H1 : Heap) (locs1 : List Loc), va_P D vwCl w2 H1 → va_D A0 w2 → va_S A0 H0 H1 locs1 → W p l e R s m args below meth c H1 locs1 (cells + mc) (slots + ms) Q (F0 m (pc + 3) ls rest)) : W p l e R s m args below meth c H locs cells slots Q (F0 m pc ls st0) := by
  have hFc := va_free (wc := wc) hD hS hA isC hC
  refine va_callv hr hS (fun q _ h => hFc q h) hFc (fun u t H1 locs1 ht hvm hw hB hz1 hk1 hS1 => ?_)
  obtain ⟨hP1, hD1⟩ := hB
  rw [ht] at hP1
  obtain ⟨h1, h2⟩ := xW hP hD hFc isC isR hC hR hn hdis isJ hJ hnJ hk1 hP1 hD1
  exact kk H1 locs1 h1 h2 hS1
theorem xR {r : Nat} (hr : va_Run p l e R s m args below meth c H locs cells slots mc ms (F0 m pc ls st0) rest (QR D (va_A wc H.size) r w1 a) (va_A wc H.size)) (hP : va_P D vwCl ws H) (hD : va_D A0 ws) (hS : va_S A0 H0 H locs) (hA : ∀ q, H0.size ≤ q → A0 q)
    (isC isR isJ : List Nat) (hC : isC.map (fun i => ws[i]?) = wc.map some) (hR : isR.map (fun i => ws[i]?) = wr.map some) (hn : va_nd isR = true) (hdis : ∀ i ∈ isR, i ∉ isC) (hJ : isJ.map (fun i => (wr ++ w1)[i]?) = w2.map some) (hnJ : va_nd isJ = true)
    (kk : ∀ (H1 : Heap) (locs1 : List Loc), va_P D vwCl w2 H1 → va_D A0 w2 → va_S A0 H0 H1 locs1 → W p l e R s m args below meth c H1 locs1 (cells + mc) (slots + ms) Q (F0 m (pc + 3) ls (.ref r :: rest))) : W p l e R s m args below meth c H locs cells slots Q (F0 m pc ls st0) := by
  have hFc := va_free (wc := wc) hD hS hA isC hC
  refine va_callr hr hS (fun q _ h => hFc q h) hFc (fun u ra t H1 locs1 ht hvm hw hB hz1 hk1 hS1 => ?_)
  obtain ⟨hra, hP1, hD1⟩ := hB
  cases hra
  rw [ht] at hP1
  obtain ⟨h1, h2⟩ := xW hP hD hFc isC isR hC hR hn hdis isJ hJ hnJ hk1 hP1 hD1
  exact kk H1 locs1 h1 h2 hS1
/-! calls of a method whose world is the caller's whole world, in its order -/
theorem xIw {r : Int32} (hr : va_Run p l e R s m args below meth c H locs cells slots mc ms (F0 m pc ls st0) rest (QI D (va_A ws H.size) r w1 a) (va_A ws H.size)) (hD : va_D A0 ws) (hS : va_S A0 H0 H locs) (hA : ∀ q, H0.size ≤ q → A0 q)
    (kk : ∀ (H1 : Heap) (locs1 : List Loc), va_P D vwCl w1 H1 → va_D A0 w1 → va_S A0 H0 H1 locs1 → W p l e R s m args below meth c H1 locs1 (cells + mc) (slots + ms) Q (F0 m (pc + 3) ls (.int r :: rest))) : W p l e R s m args below meth c H locs cells slots Q (F0 m pc ls st0) := by
  have hFc : ∀ q, va_A ws H.size q → A0 q := fun q h => h.elim (fun ⟨k, e, h⟩ => hD.2 k (q, e) h) (fun h => hA q (Nat.le_trans hS.1 h))
  refine va_calli hr hS (fun q _ h => hFc q h) hFc (fun r1 u t H1 locs1 ht hvm hw hB hz1 hk1 hS1 => ?_)
  cases hw
  obtain ⟨hP1, hD1⟩ := hB
  rw [ht] at hP1
  exact kk H1 locs1 hP1 (hD1.weaken (fun k q _ h => hFc q.1 h)) hS1
theorem xLw {r : Int64} (hr : va_Run p l e R s m args below meth c H locs cells slots mc ms (F0 m pc ls st0) rest (QL D (va_A ws H.size) r w1 a) (va_A ws H.size)) (hD : va_D A0 ws) (hS : va_S A0 H0 H locs) (hA : ∀ q, H0.size ≤ q → A0 q)
    (kk : ∀ (H1 : Heap) (locs1 : List Loc), va_P D vwCl w1 H1 → va_D A0 w1 → va_S A0 H0 H1 locs1 → W p l e R s m args below meth c H1 locs1 (cells + mc) (slots + ms) Q (F0 m (pc + 3) ls (.long r :: rest))) : W p l e R s m args below meth c H locs cells slots Q (F0 m pc ls st0) := by
  have hFc : ∀ q, va_A ws H.size q → A0 q := fun q h => h.elim (fun ⟨k, e, h⟩ => hD.2 k (q, e) h) (fun h => hA q (Nat.le_trans hS.1 h))
  refine va_calll hr hS (fun q _ h => hFc q h) hFc (fun r1 u t H1 locs1 ht hvm hw hB hz1 hk1 hS1 => ?_)
  cases hw
  obtain ⟨hP1, hD1⟩ := hB
  rw [ht] at hP1
  exact kk H1 locs1 hP1 (hD1.weaken (fun k q _ h => hFc q.1 h)) hS1
theorem xVw (hr : va_Run p l e R s m args below meth c H locs cells slots mc ms (F0 m pc ls st0) rest (QV D (va_A ws H.size) w1 a) (va_A ws H.size)) (hD : va_D A0 ws) (hS : va_S A0 H0 H locs) (hA : ∀ q, H0.size ≤ q → A0 q)
    (kk : ∀ (H1 : Heap) (locs1 : List Loc), va_P D vwCl w1 H1 → va_D A0 w1 → va_S A0 H0 H1 locs1 → W p l e R s m args below meth c H1 locs1 (cells + mc) (slots + ms) Q (F0 m (pc + 3) ls rest)) : W p l e R s m args below meth c H locs cells slots Q (F0 m pc ls st0) := by
  have hFc : ∀ q, va_A ws H.size q → A0 q := fun q h => h.elim (fun ⟨k, e, h⟩ => hD.2 k (q, e) h) (fun h => hA q (Nat.le_trans hS.1 h))
  refine va_callv hr hS (fun q _ h => hFc q h) hFc (fun u t H1 locs1 ht hvm hw hB hz1 hk1 hS1 => ?_)
  obtain ⟨hP1, hD1⟩ := hB
  rw [ht] at hP1
  exact kk H1 locs1 hP1 (hD1.weaken (fun k q _ h => hFc q.1 h)) hS1
/-! calls of a method that has no world -/
theorem xE {H1 : Heap} (hP : va_P D vwCl ws H) (hk : ∀ q : Nat, q < H.size → ¬ va_A [] H.size q → H1[q]? = H[q]?) : va_P D vwCl ws H1 := hP.kept (fun k q h => hk q.1 (hP k q h).lt (fun hz => hz.elim (fun ⟨k, e, h⟩ => by simp at h) (fun h2 => absurd (hP k q h).lt (Nat.not_lt.mpr h2))))
theorem xI0 {r : Int32} (hr : va_Run p l e R s m args below meth c H locs cells slots mc ms (F0 m pc ls st0) rest (QI D (va_A [] H.size) r [] a) (va_A [] H.size)) (hP : va_P D vwCl ws H) (hS : va_S A0 H0 H locs) (hA : ∀ q, H0.size ≤ q → A0 q)
    (kk : ∀ (H1 : Heap) (locs1 : List Loc), va_P D vwCl ws H1 → va_S A0 H0 H1 locs1 → W p l e R s m args below meth c H1 locs1 (cells + mc) (slots + ms) Q (F0 m (pc + 3) ls (.int r :: rest))) : W p l e R s m args below meth c H locs cells slots Q (F0 m pc ls st0) := by
  have hFc : ∀ q, va_A [] H.size q → A0 q := fun q h => h.elim (fun ⟨k, e, h⟩ => by simp at h) (fun h => hA q (Nat.le_trans hS.1 h))
  refine va_calli hr hS (fun q _ h => hFc q h) hFc (fun r1 u t H1 locs1 ht hvm hw hB hz1 hk1 hS1 => ?_)
  cases hw
  exact kk H1 locs1 (xE hP hk1) hS1
theorem xL0 {r : Int64} (hr : va_Run p l e R s m args below meth c H locs cells slots mc ms (F0 m pc ls st0) rest (QL D (va_A [] H.size) r [] a) (va_A [] H.size)) (hP : va_P D vwCl ws H) (hS : va_S A0 H0 H locs) (hA : ∀ q, H0.size ≤ q → A0 q)
    (kk : ∀ (H1 : Heap) (locs1 : List Loc), va_P D vwCl ws H1 → va_S A0 H0 H1 locs1 → W p l e R s m args below meth c H1 locs1 (cells + mc) (slots + ms) Q (F0 m (pc + 3) ls (.long r :: rest))) : W p l e R s m args below meth c H locs cells slots Q (F0 m pc ls st0) := by
  have hFc : ∀ q, va_A [] H.size q → A0 q := fun q h => h.elim (fun ⟨k, e, h⟩ => by simp at h) (fun h => hA q (Nat.le_trans hS.1 h))
  refine va_calll hr hS (fun q _ h => hFc q h) hFc (fun r1 u t H1 locs1 ht hvm hw hB hz1 hk1 hS1 => ?_)
  cases hw
  exact kk H1 locs1 (xE hP hk1) hS1
end XC
section XP
variable {s : State} {H : Heap} {D : va_G} {cI cJ cZ : ClassId} {ws wc : va_W} {A0 : Nat → Prop} {b : Addr} {As : List Value}
/-- the start of a callee whose world is a part of the caller's -/
theorem xPre (hK : Kw D cI cJ cZ s) (hP : va_P D vwCl ws H) (hD : va_D A0 ws) (isC : List Nat) (hC : isC.map (fun i => ws[i]?) = wc.map some) (hn : va_nd isC = true) (av : List Value) : ∀ U : State, U.heap = H → s.WarmedH U.vm → va_Pc av (PreW D cI cJ cZ wc H.size) av.toArray U := fun U hU hW => ⟨rfl, by rw [hU], by rw [hU]; exact P_subm hP isC hC, hK.warm hW, (hD.sub isC hn hC).weaken (fun _ _ _ _ => trivial)⟩
theorem xPrew (hK : Kw D cI cJ cZ s) (hP : va_P D vwCl ws H) (hD : va_D A0 ws) (av : List Value) : ∀ U : State, U.heap = H → s.WarmedH U.vm → va_Pc av (PreW D cI cJ cZ ws H.size) av.toArray U := fun U hU hW => ⟨rfl, by rw [hU], by rw [hU]; exact hP, hK.warm hW, hD.weaken (fun _ _ _ _ => trivial)⟩
theorem xPre0 (hK : Kw D cI cJ cZ s) (av : List Value) : ∀ U : State, U.heap = H → s.WarmedH U.vm → va_Pc av (PreW D cI cJ cZ [] H.size) av.toArray U := fun U hU hW => ⟨rfl, by rw [hU], fun k q h => by simp at h, hK.warm hW, ⟨fun i j p q h => by simp at h, fun k q h => by simp at h⟩⟩
theorem xRecv {C : String} {T : u_T} {N q0 ci : Nat} {fs : List Value} (hK : Kw D cI cJ cZ s) (hP : va_P D vwCl ws H) (he : ws[q0]? = some (b, .inr (ci, fs))) (hc : vwCl[ci]? = some (C, T, N)) : ∃ cell : Cell, H[b]? = some cell ∧ cell.vm.isStatics = false ∧ s.vm.findClass C = some cell.cls := va_recv hK.1 hP hc he
end XP
section XR
variable {p : Program} {l : Launch} {e : Env} {R : Room} {s : State} {m : MethodId} {args : Array Value} {below : List Frame} {meth : Method} {c : Code} {H : Heap} {locs : List Loc} {cells slots : Nat} {cc : ByteArray} {pc : Nat} {ls : Array Slot} {D : va_G} {A : Nat → Prop} {w : va_W}
/-! the ends -/
theorem retI {v : Int32} (hx : p.tables.exec = Jvm.exec) (hb : c.code = cc) (hr : meth.sig.returnType = some .int) (hlocks : meth.locks = false) (hP : va_P D vwCl w H) (hD : va_D A w) (hS : va_S A s.heap H locs) (hdg : decode cc pc = .ok (.ireturn, 1)) : W p l e R s m args below meth c H locs cells slots (MQ below (QI D A v w) args s cells slots A) (F0 m pc ls [.int v]) :=
  W.iret hx hb hr (fun t ht _ => ⟨⟨v, (), rfl, rfl, by rw [ht]; exact hP, hD⟩, hS.F ht⟩) hS.2.2 hdg hlocks
theorem retZ {v : Int32} (b : Bool) (hv : v = b2i b) (hx : p.tables.exec = Jvm.exec) (hb : c.code = cc) (hr : meth.sig.returnType = some .boolean) (hlocks : meth.locks = false) (hP : va_P D vwCl w H) (hD : va_D A w) (hS : va_S A s.heap H locs) (hdg : decode cc pc = .ok (.ireturn, 1)) : W p l e R s m args below meth c H locs cells slots (MQ below (QI D A (b2i b) w) args s cells slots A) (F0 m pc ls [.int v]) := by
  subst hv
  exact W.zret hx hb hr (b2i_nar b) (fun t ht _ => ⟨⟨_, (), rfl, rfl, by rw [ht]; exact hP, hD⟩, hS.F ht⟩) hS.2.2 hdg hlocks
theorem retL {v : Int64} (hx : p.tables.exec = Jvm.exec) (hb : c.code = cc) (hr : meth.sig.returnType = some .long) (hlocks : meth.locks = false) (hP : va_P D vwCl w H) (hD : va_D A w) (hS : va_S A s.heap H locs) (hdg : decode cc pc = .ok (.lreturn, 1)) : W p l e R s m args below meth c H locs cells slots (MQ below (QL D A v w) args s cells slots A) (F0 m pc ls [.long v]) :=
  W.lret hx hb hr (fun t ht _ => ⟨⟨v, (), rfl, rfl, by rw [ht]; exact hP, hD⟩, hS.F ht⟩) hS.2.2 hdg hlocks
theorem retV (hx : p.tables.exec = Jvm.exec) (hb : c.code = cc) (hr : meth.sig.returnType = none) (hlocks : meth.locks = false) (hP : va_P D vwCl w H) (hD : va_D A w) (hS : va_S A s.heap H locs) (hdg : decode cc pc = .ok (.return_, 1)) : W p l e R s m args below meth c H locs cells slots (MQ below (QV D A w) args s cells slots A) (F0 m pc ls []) :=
  W.vret hx hb hr (fun t ht _ => ⟨⟨(), rfl, trivial, by rw [ht]; exact hP, hD⟩, hS.F ht⟩) hS.2.2 hdg hlocks
theorem retR {r : Nat} (hx : p.tables.exec = Jvm.exec) (hb : c.code = cc) {rt : FieldType} (hr : meth.sig.returnType = some rt) (hrt : (∃ n, rt = .object n) ∨ ∃ t, rt = .array t) (hlocks : meth.locks = false) (hP : va_P D vwCl w H) (hD : va_D A w) (hS : va_S A s.heap H locs) (hdg : decode cc pc = .ok (.areturn, 1)) : W p l e R s m args below meth c H locs cells slots (MQ below (QR D A r w) args s cells slots A) (F0 m pc ls [.ref r]) :=
  W.aret hx hb hr hrt (Or.inr ⟨r, rfl⟩) (fun t ht _ => ⟨⟨(), r, rfl, trivial, rfl, by rw [ht]; exact hP, hD⟩, hS.F ht⟩) hS.2.2 hdg hlocks
end XR
end
