section
-- ===== PART A: goes FIRST, ahead of the names: the tables' words, and 'selects' of the private methods out of them =====
/-- a private method of a class that the tables say can be made, by its rows of tables_1 -/
def lw_okq (q : MethodName × Nat) : Prop := (q.1.cls ≠ "java/lang/invoke/MethodHandle" ∧ q.1.cls ≠ "java/lang/invoke/VarHandle") ∧ Cond.instantiable q.1.cls q.2 ∈ tables_1 ∧ Cond.privateMethod q.1 ∈ tables_1 ∧ Cond.instanceMethod q.1 ∈ tables_1
theorem lw_p0 : lw_okq (⟨"SwingCircuits", "startAgain", "()V"⟩, 17) := ⟨⟨by decide +kernel, by decide +kernel⟩, List.mem_of_getElem? (i := 11) (by decide +kernel), List.mem_of_getElem? (i := 193) (by decide +kernel), List.mem_of_getElem? (i := 194) (by decide +kernel)⟩
theorem lw_p1 : lw_okq (⟨"SwingCircuits", "isCell", "(I)Z"⟩, 17) := ⟨⟨by decide +kernel, by decide +kernel⟩, List.mem_of_getElem? (i := 11) (by decide +kernel), List.mem_of_getElem? (i := 205) (by decide +kernel), List.mem_of_getElem? (i := 206) (by decide +kernel)⟩
theorem lw_p2 : lw_okq (⟨"SwingCircuits$Swing", "chooseTurning", "(LSwingCircuits$Circuit;)V"⟩, 10) := ⟨⟨by decide +kernel, by decide +kernel⟩, List.mem_of_getElem? (i := 87) (by decide +kernel), List.mem_of_getElem? (i := 240) (by decide +kernel), List.mem_of_getElem? (i := 241) (by decide +kernel)⟩
theorem lw_p3 : lw_okq (⟨"SwingCircuits$Swing", "letTimePass", "(LSwingCircuits$Circuit;)V"⟩, 10) := ⟨⟨by decide +kernel, by decide +kernel⟩, List.mem_of_getElem? (i := 87) (by decide +kernel), List.mem_of_getElem? (i := 244) (by decide +kernel), List.mem_of_getElem? (i := 245) (by decide +kernel)⟩
theorem lw_p4 : lw_okq (⟨"SwingCircuits$Swing", "passOn", "(LSwingCircuits$Circuit;)V"⟩, 10) := ⟨⟨by decide +kernel, by decide +kernel⟩, List.mem_of_getElem? (i := 87) (by decide +kernel), List.mem_of_getElem? (i := 251) (by decide +kernel), List.mem_of_getElem? (i := 252) (by decide +kernel)⟩
theorem lw_p5 : lw_okq (⟨"SwingCircuits$Swing", "doAct", "(LSwingCircuits$Circuit;I)V"⟩, 10) := ⟨⟨by decide +kernel, by decide +kernel⟩, List.mem_of_getElem? (i := 87) (by decide +kernel), List.mem_of_getElem? (i := 255) (by decide +kernel), List.mem_of_getElem? (i := 256) (by decide +kernel)⟩
theorem lw_p6 : lw_okq (⟨"SwingCircuits$Swing", "keepBetweenBars", "(LSwingCircuits$Circuit;I)V"⟩, 10) := ⟨⟨by decide +kernel, by decide +kernel⟩, List.mem_of_getElem? (i := 87) (by decide +kernel), List.mem_of_getElem? (i := 259) (by decide +kernel), List.mem_of_getElem? (i := 260) (by decide +kernel)⟩
theorem lw_p7 : lw_okq (⟨"SwingCircuits$Swing", "isSpent", "(LSwingCircuits$Circuit;)Z"⟩, 10) := ⟨⟨by decide +kernel, by decide +kernel⟩, List.mem_of_getElem? (i := 87) (by decide +kernel), List.mem_of_getElem? (i := 263) (by decide +kernel), List.mem_of_getElem? (i := 264) (by decide +kernel)⟩
theorem lw_p8 : lw_okq (⟨"SwingCircuits", "noteEvent", "()V"⟩, 17) := ⟨⟨by decide +kernel, by decide +kernel⟩, List.mem_of_getElem? (i := 11) (by decide +kernel), List.mem_of_getElem? (i := 272) (by decide +kernel), List.mem_of_getElem? (i := 273) (by decide +kernel)⟩
theorem lw_p9 : lw_okq (⟨"SwingCircuits", "isNextSpent", "()Z"⟩, 17) := ⟨⟨by decide +kernel, by decide +kernel⟩, List.mem_of_getElem? (i := 11) (by decide +kernel), List.mem_of_getElem? (i := 287) (by decide +kernel), List.mem_of_getElem? (i := 288) (by decide +kernel)⟩
theorem lw_p10 : lw_okq (⟨"SwingCircuits", "writeTrail", "(I)V"⟩, 17) := ⟨⟨by decide +kernel, by decide +kernel⟩, List.mem_of_getElem? (i := 11) (by decide +kernel), List.mem_of_getElem? (i := 316) (by decide +kernel), List.mem_of_getElem? (i := 317) (by decide +kernel)⟩
theorem lw_p11 : lw_okq (⟨"SwingCircuits", "sameAhead", "(I)I"⟩, 17) := ⟨⟨by decide +kernel, by decide +kernel⟩, List.mem_of_getElem? (i := 11) (by decide +kernel), List.mem_of_getElem? (i := 326) (by decide +kernel), List.mem_of_getElem? (i := 327) (by decide +kernel)⟩
theorem lw_p12 : lw_okq (⟨"SwingCircuits", "isSameState", "(II)Z"⟩, 17) := ⟨⟨by decide +kernel, by decide +kernel⟩, List.mem_of_getElem? (i := 11) (by decide +kernel), List.mem_of_getElem? (i := 330) (by decide +kernel), List.mem_of_getElem? (i := 331) (by decide +kernel)⟩
theorem lw_p13 : lw_okq (⟨"SwingCircuits", "keepRing", "(II)V"⟩, 17) := ⟨⟨by decide +kernel, by decide +kernel⟩, List.mem_of_getElem? (i := 11) (by decide +kernel), List.mem_of_getElem? (i := 334) (by decide +kernel), List.mem_of_getElem? (i := 335) (by decide +kernel)⟩
theorem lw_p14 : lw_okq (⟨"SwingCircuits", "eventInRow", "(I)J"⟩, 17) := ⟨⟨by decide +kernel, by decide +kernel⟩, List.mem_of_getElem? (i := 11) (by decide +kernel), List.mem_of_getElem? (i := 338) (by decide +kernel), List.mem_of_getElem? (i := 339) (by decide +kernel)⟩
theorem lw_p15 : lw_okq (⟨"SwingCircuits", "isStocked", "(I)Z"⟩, 17) := ⟨⟨by decide +kernel, by decide +kernel⟩, List.mem_of_getElem? (i := 11) (by decide +kernel), List.mem_of_getElem? (i := 358) (by decide +kernel), List.mem_of_getElem? (i := 359) (by decide +kernel)⟩
def lw_privs_1 : List (MethodName × Nat) := [(⟨"SwingCircuits", "startAgain", "()V"⟩, 17), (⟨"SwingCircuits", "isCell", "(I)Z"⟩, 17), (⟨"SwingCircuits$Swing", "chooseTurning", "(LSwingCircuits$Circuit;)V"⟩, 10), (⟨"SwingCircuits$Swing", "letTimePass", "(LSwingCircuits$Circuit;)V"⟩, 10), (⟨"SwingCircuits$Swing", "passOn", "(LSwingCircuits$Circuit;)V"⟩, 10), (⟨"SwingCircuits$Swing", "doAct", "(LSwingCircuits$Circuit;I)V"⟩, 10), (⟨"SwingCircuits$Swing", "keepBetweenBars", "(LSwingCircuits$Circuit;I)V"⟩, 10), (⟨"SwingCircuits$Swing", "isSpent", "(LSwingCircuits$Circuit;)Z"⟩, 10), (⟨"SwingCircuits", "noteEvent", "()V"⟩, 17), (⟨"SwingCircuits", "isNextSpent", "()Z"⟩, 17), (⟨"SwingCircuits", "writeTrail", "(I)V"⟩, 17), (⟨"SwingCircuits", "sameAhead", "(I)I"⟩, 17), (⟨"SwingCircuits", "isSameState", "(II)Z"⟩, 17), (⟨"SwingCircuits", "keepRing", "(II)V"⟩, 17), (⟨"SwingCircuits", "eventInRow", "(I)J"⟩, 17), (⟨"SwingCircuits", "isStocked", "(I)Z"⟩, 17)]
theorem lw_r1 : ∀ q ∈ lw_privs_1, lw_okq q := List.forall_mem_cons.mpr ⟨lw_p0, List.forall_mem_cons.mpr ⟨lw_p1, List.forall_mem_cons.mpr ⟨lw_p2, List.forall_mem_cons.mpr ⟨lw_p3, List.forall_mem_cons.mpr ⟨lw_p4, List.forall_mem_cons.mpr ⟨lw_p5, List.forall_mem_cons.mpr ⟨lw_p6, List.forall_mem_cons.mpr ⟨lw_p7, List.forall_mem_cons.mpr ⟨lw_p8, List.forall_mem_cons.mpr ⟨lw_p9, List.forall_mem_cons.mpr ⟨lw_p10, List.forall_mem_cons.mpr ⟨lw_p11, List.forall_mem_cons.mpr ⟨lw_p12, List.forall_mem_cons.mpr ⟨lw_p13, List.forall_mem_cons.mpr ⟨lw_p14, List.forall_mem_cons.mpr ⟨lw_p15, fun _ h => absurd h List.not_mem_nil⟩⟩⟩⟩⟩⟩⟩⟩⟩⟩⟩⟩⟩⟩⟩⟩
theorem lw_p16 : lw_okq (⟨"SwingCircuits", "findWays", "(IJJ)I"⟩, 17) := ⟨⟨by decide +kernel, by decide +kernel⟩, List.mem_of_getElem? (i := 11) (by decide +kernel), List.mem_of_getElem? (i := 370) (by decide +kernel), List.mem_of_getElem? (i := 371) (by decide +kernel)⟩
theorem lw_p17 : lw_okq (⟨"SwingCircuits", "findFaults", "(I)I"⟩, 17) := ⟨⟨by decide +kernel, by decide +kernel⟩, List.mem_of_getElem? (i := 11) (by decide +kernel), List.mem_of_getElem? (i := 395) (by decide +kernel), List.mem_of_getElem? (i := 396) (by decide +kernel)⟩
theorem lw_p18 : lw_okq (⟨"SwingCircuits", "isMeasuredSo", "(I)Z"⟩, 17) := ⟨⟨by decide +kernel, by decide +kernel⟩, List.mem_of_getElem? (i := 11) (by decide +kernel), List.mem_of_getElem? (i := 399) (by decide +kernel), List.mem_of_getElem? (i := 400) (by decide +kernel)⟩
theorem lw_p19 : lw_okq (⟨"SwingCircuits", "isMeasure", "(IJJ)Z"⟩, 17) := ⟨⟨by decide +kernel, by decide +kernel⟩, List.mem_of_getElem? (i := 11) (by decide +kernel), List.mem_of_getElem? (i := 403) (by decide +kernel), List.mem_of_getElem? (i := 404) (by decide +kernel)⟩
theorem lw_p20 : lw_okq (⟨"java/lang/Throwable", "fillInStackTrace", "(I)Ljava/lang/Throwable;"⟩, 6) := ⟨⟨by decide +kernel, by decide +kernel⟩, List.mem_of_getElem? (i := 459) (by decide +kernel), List.mem_of_getElem? (i := 457) (by decide +kernel), List.mem_of_getElem? (i := 458) (by decide +kernel)⟩
theorem lw_p21 : lw_okq (⟨"SwingCircuits", "beatTerm", "(IZ)I"⟩, 17) := ⟨⟨by decide +kernel, by decide +kernel⟩, List.mem_of_getElem? (i := 11) (by decide +kernel), List.mem_of_getElem? (i := 489) (by decide +kernel), List.mem_of_getElem? (i := 490) (by decide +kernel)⟩
theorem lw_p22 : lw_okq (⟨"SwingCircuitsModel", "resetAll", "()V"⟩, 28) := ⟨⟨by decide +kernel, by decide +kernel⟩, List.mem_of_getElem? (i := 494) (by decide +kernel), List.mem_of_getElem? (i := 500) (by decide +kernel), List.mem_of_getElem? (i := 501) (by decide +kernel)⟩
theorem lw_p23 : lw_okq (⟨"SwingCircuitsModel", "isCell", "(I)Z"⟩, 28) := ⟨⟨by decide +kernel, by decide +kernel⟩, List.mem_of_getElem? (i := 494) (by decide +kernel), List.mem_of_getElem? (i := 604) (by decide +kernel), List.mem_of_getElem? (i := 605) (by decide +kernel)⟩
theorem lw_p24 : lw_okq (⟨"SwingCircuitsModel", "step", "()Z"⟩, 28) := ⟨⟨by decide +kernel, by decide +kernel⟩, List.mem_of_getElem? (i := 494) (by decide +kernel), List.mem_of_getElem? (i := 624) (by decide +kernel), List.mem_of_getElem? (i := 625) (by decide +kernel)⟩
theorem lw_p25 : lw_okq (⟨"SwingCircuitsModel", "waitOf", "(I)V"⟩, 28) := ⟨⟨by decide +kernel, by decide +kernel⟩, List.mem_of_getElem? (i := 494) (by decide +kernel), List.mem_of_getElem? (i := 631) (by decide +kernel), List.mem_of_getElem? (i := 632) (by decide +kernel)⟩
theorem lw_p26 : lw_okq (⟨"SwingCircuitsModel", "isFilling", "(I)Z"⟩, 28) := ⟨⟨by decide +kernel, by decide +kernel⟩, List.mem_of_getElem? (i := 494) (by decide +kernel), List.mem_of_getElem? (i := 635) (by decide +kernel), List.mem_of_getElem? (i := 636) (by decide +kernel)⟩
theorem lw_p27 : lw_okq (⟨"SwingCircuitsModel", "make", "(JJ)V"⟩, 28) := ⟨⟨by decide +kernel, by decide +kernel⟩, List.mem_of_getElem? (i := 494) (by decide +kernel), List.mem_of_getElem? (i := 639) (by decide +kernel), List.mem_of_getElem? (i := 640) (by decide +kernel)⟩
theorem lw_p28 : lw_okq (⟨"SwingCircuitsModel", "store", "(I)V"⟩, 28) := ⟨⟨by decide +kernel, by decide +kernel⟩, List.mem_of_getElem? (i := 494) (by decide +kernel), List.mem_of_getElem? (i := 649) (by decide +kernel), List.mem_of_getElem? (i := 650) (by decide +kernel)⟩
theorem lw_p29 : lw_okq (⟨"SwingCircuitsModel", "act", "(I)V"⟩, 28) := ⟨⟨by decide +kernel, by decide +kernel⟩, List.mem_of_getElem? (i := 494) (by decide +kernel), List.mem_of_getElem? (i := 653) (by decide +kernel), List.mem_of_getElem? (i := 654) (by decide +kernel)⟩
theorem lw_p30 : lw_okq (⟨"SwingCircuitsModel", "isSpent", "()Z"⟩, 28) := ⟨⟨by decide +kernel, by decide +kernel⟩, List.mem_of_getElem? (i := 494) (by decide +kernel), List.mem_of_getElem? (i := 657) (by decide +kernel), List.mem_of_getElem? (i := 658) (by decide +kernel)⟩
theorem lw_p31 : lw_okq (⟨"SwingCircuitsModel", "wouldBeSpent", "()Z"⟩, 28) := ⟨⟨by decide +kernel, by decide +kernel⟩, List.mem_of_getElem? (i := 494) (by decide +kernel), List.mem_of_getElem? (i := 670) (by decide +kernel), List.mem_of_getElem? (i := 671) (by decide +kernel)⟩
def lw_privs_2 : List (MethodName × Nat) := [(⟨"SwingCircuits", "findWays", "(IJJ)I"⟩, 17), (⟨"SwingCircuits", "findFaults", "(I)I"⟩, 17), (⟨"SwingCircuits", "isMeasuredSo", "(I)Z"⟩, 17), (⟨"SwingCircuits", "isMeasure", "(IJJ)Z"⟩, 17), (⟨"java/lang/Throwable", "fillInStackTrace", "(I)Ljava/lang/Throwable;"⟩, 6), (⟨"SwingCircuits", "beatTerm", "(IZ)I"⟩, 17), (⟨"SwingCircuitsModel", "resetAll", "()V"⟩, 28), (⟨"SwingCircuitsModel", "isCell", "(I)Z"⟩, 28), (⟨"SwingCircuitsModel", "step", "()Z"⟩, 28), (⟨"SwingCircuitsModel", "waitOf", "(I)V"⟩, 28), (⟨"SwingCircuitsModel", "isFilling", "(I)Z"⟩, 28), (⟨"SwingCircuitsModel", "make", "(JJ)V"⟩, 28), (⟨"SwingCircuitsModel", "store", "(I)V"⟩, 28), (⟨"SwingCircuitsModel", "act", "(I)V"⟩, 28), (⟨"SwingCircuitsModel", "isSpent", "()Z"⟩, 28), (⟨"SwingCircuitsModel", "wouldBeSpent", "()Z"⟩, 28)]
theorem lw_r2 : ∀ q ∈ lw_privs_2, lw_okq q := List.forall_mem_cons.mpr ⟨lw_p16, List.forall_mem_cons.mpr ⟨lw_p17, List.forall_mem_cons.mpr ⟨lw_p18, List.forall_mem_cons.mpr ⟨lw_p19, List.forall_mem_cons.mpr ⟨lw_p20, List.forall_mem_cons.mpr ⟨lw_p21, List.forall_mem_cons.mpr ⟨lw_p22, List.forall_mem_cons.mpr ⟨lw_p23, List.forall_mem_cons.mpr ⟨lw_p24, List.forall_mem_cons.mpr ⟨lw_p25, List.forall_mem_cons.mpr ⟨lw_p26, List.forall_mem_cons.mpr ⟨lw_p27, List.forall_mem_cons.mpr ⟨lw_p28, List.forall_mem_cons.mpr ⟨lw_p29, List.forall_mem_cons.mpr ⟨lw_p30, List.forall_mem_cons.mpr ⟨lw_p31, fun _ h => absurd h List.not_mem_nil⟩⟩⟩⟩⟩⟩⟩⟩⟩⟩⟩⟩⟩⟩⟩⟩
theorem lw_p32 : lw_okq (⟨"SwingCircuitsModel", "beat", "(III)V"⟩, 28) := ⟨⟨by decide +kernel, by decide +kernel⟩, List.mem_of_getElem? (i := 494) (by decide +kernel), List.mem_of_getElem? (i := 678) (by decide +kernel), List.mem_of_getElem? (i := 679) (by decide +kernel)⟩
theorem lw_p33 : lw_okq (⟨"SwingCircuitsModel", "seek", "(I)I"⟩, 28) := ⟨⟨by decide +kernel, by decide +kernel⟩, List.mem_of_getElem? (i := 494) (by decide +kernel), List.mem_of_getElem? (i := 694) (by decide +kernel), List.mem_of_getElem? (i := 695) (by decide +kernel)⟩
theorem lw_p34 : lw_okq (⟨"SwingCircuitsModel", "keep", "(I)V"⟩, 28) := ⟨⟨by decide +kernel, by decide +kernel⟩, List.mem_of_getElem? (i := 494) (by decide +kernel), List.mem_of_getElem? (i := 698) (by decide +kernel), List.mem_of_getElem? (i := 699) (by decide +kernel)⟩
theorem lw_p35 : lw_okq (⟨"SwingCircuitsModel", "areAlike", "(II)Z"⟩, 28) := ⟨⟨by decide +kernel, by decide +kernel⟩, List.mem_of_getElem? (i := 494) (by decide +kernel), List.mem_of_getElem? (i := 702) (by decide +kernel), List.mem_of_getElem? (i := 703) (by decide +kernel)⟩
theorem lw_p36 : lw_okq (⟨"SwingCircuitsModel", "tell", "(II)V"⟩, 28) := ⟨⟨by decide +kernel, by decide +kernel⟩, List.mem_of_getElem? (i := 494) (by decide +kernel), List.mem_of_getElem? (i := 706) (by decide +kernel), List.mem_of_getElem? (i := 707) (by decide +kernel)⟩
theorem lw_p37 : lw_okq (⟨"SwingCircuitsModel", "ways", "(IIII)I"⟩, 28) := ⟨⟨by decide +kernel, by decide +kernel⟩, List.mem_of_getElem? (i := 494) (by decide +kernel), List.mem_of_getElem? (i := 727) (by decide +kernel), List.mem_of_getElem? (i := 728) (by decide +kernel)⟩
theorem lw_p38 : lw_okq (⟨"SwingCircuitsModel", "explaining", "(II)I"⟩, 28) := ⟨⟨by decide +kernel, by decide +kernel⟩, List.mem_of_getElem? (i := 494) (by decide +kernel), List.mem_of_getElem? (i := 747) (by decide +kernel), List.mem_of_getElem? (i := 748) (by decide +kernel)⟩
theorem lw_p39 : lw_okq (⟨"SwingCircuitsModel", "explains", "(IIII)Z"⟩, 28) := ⟨⟨by decide +kernel, by decide +kernel⟩, List.mem_of_getElem? (i := 494) (by decide +kernel), List.mem_of_getElem? (i := 751) (by decide +kernel), List.mem_of_getElem? (i := 752) (by decide +kernel)⟩
theorem lw_p40 : lw_okq (⟨"SwingCircuitsModel", "isSo", "(I)Z"⟩, 28) := ⟨⟨by decide +kernel, by decide +kernel⟩, List.mem_of_getElem? (i := 494) (by decide +kernel), List.mem_of_getElem? (i := 755) (by decide +kernel), List.mem_of_getElem? (i := 756) (by decide +kernel)⟩
def lw_privs_3 : List (MethodName × Nat) := [(⟨"SwingCircuitsModel", "beat", "(III)V"⟩, 28), (⟨"SwingCircuitsModel", "seek", "(I)I"⟩, 28), (⟨"SwingCircuitsModel", "keep", "(I)V"⟩, 28), (⟨"SwingCircuitsModel", "areAlike", "(II)Z"⟩, 28), (⟨"SwingCircuitsModel", "tell", "(II)V"⟩, 28), (⟨"SwingCircuitsModel", "ways", "(IIII)I"⟩, 28), (⟨"SwingCircuitsModel", "explaining", "(II)I"⟩, 28), (⟨"SwingCircuitsModel", "explains", "(IIII)Z"⟩, 28), (⟨"SwingCircuitsModel", "isSo", "(I)Z"⟩, 28)]
theorem lw_r3 : ∀ q ∈ lw_privs_3, lw_okq q := List.forall_mem_cons.mpr ⟨lw_p32, List.forall_mem_cons.mpr ⟨lw_p33, List.forall_mem_cons.mpr ⟨lw_p34, List.forall_mem_cons.mpr ⟨lw_p35, List.forall_mem_cons.mpr ⟨lw_p36, List.forall_mem_cons.mpr ⟨lw_p37, List.forall_mem_cons.mpr ⟨lw_p38, List.forall_mem_cons.mpr ⟨lw_p39, List.forall_mem_cons.mpr ⟨lw_p40, fun _ h => absurd h List.not_mem_nil⟩⟩⟩⟩⟩⟩⟩⟩⟩
def lw_privs : List (MethodName × Nat) := lw_privs_1 ++ (lw_privs_2 ++ (lw_privs_3))
def lw_tbl : List Cond := k2_sels lw_privs ++ tables_1
theorem lw_privs_ok : ∀ q ∈ lw_privs, lw_okq q := by
  show ∀ q ∈ lw_privs_1 ++ (lw_privs_2 ++ (lw_privs_3)), lw_okq q
  exact List.forall_mem_append.mpr ⟨lw_r1, List.forall_mem_append.mpr ⟨lw_r2, lw_r3⟩⟩
end
section
/-! ===== BEGIN words of one list among another's, by their places ===== -/
theorem goodIn_r {big : List Cond} (ws : List Cond) (ps : List Nat) (hp : ws = ps.filterMap (fun i => big[i]?)) (h : ws.all goodWord = true) : GoodIn big ws := by
  intro w hw
  have h1 := List.all_eq_true.mp h w hw
  rw [hp] at hw
  obtain ⟨i, -, hi⟩ := List.mem_filterMap.mp hw
  have hm : w ∈ big := by first | exact List.mem_of_getElem? hi | exact List.getElem?_mem hi
  exact ⟨hm, good_of_word h1⟩
theorem goodIn_app {big a b : List Cond} (ha : GoodIn big a) (hb : GoodIn big b) : GoodIn big (a ++ b) := fun w h => (List.mem_append.mp h).elim (ha w) (hb w)
theorem goodIn_ca {big a b : List Cond} {c : Cond} (ha : GoodIn big (c :: a)) (hb : GoodIn big b) : GoodIn big (c :: (a ++ b)) := fun w h => (List.mem_cons.mp h).elim (fun e => ha w (List.mem_cons.mpr (Or.inl e))) (fun h => (List.mem_append.mp h).elim (fun h => ha w (List.mem_cons.mpr (Or.inr h))) (hb w))
theorem goodIn_sub {big ws : List Cond} (hm : ∀ w ∈ ws, w ∈ big) (h : ws.all goodWord = true) : GoodIn big ws := fun w hw => ⟨hm w hw, good_of_word (List.all_eq_true.mp h w hw)⟩
/-! ===== END ===== -/

/-! ===== BEGIN exceptions that leave a method, and their catching by the caller (launches without stack traces) ===== -/
/-! own: a throw that the table's first row takes (the printed vx_catch calls a law that the rounds' library lacks) -/
section OWNCATCH
variable {Q : Handler → Pre} {E : CtlPost} {e : Env} {d : Bool} {acts : List Action} {f : JFrame} {a : Addr}
theorem oc_go {s : State} {x : ExceptionTableEntry} {t : List ExceptionTableEntry} {c : ClassId} {cell : Cell} (hx : covers x f.pc = true) (h0 : x.catchType ≠ 0)
    (hl : s.vm.ClassLinks e.platform f.method.cls x.catchType c) (hcell : s.heap[a]? = some cell) (hobj : ∀ k, cell.vm ≠ .statics k)
    (hk : ∃ k, s.vm.classes[cell.cls]? = some k) (hc : ∃ k, s.vm.classes[c]? = some k) (hfit : s.vm.assignable cell.cls c = true) :
    wp (findHandler.go f a (x :: t)) Q E e d acts s ↔ Q (.found x.handlerPc) d acts (s.setVm (s.vm.noted f.method.cls x.catchType (.cls c))) := by
  have hx2 : (decide (x.startPc ≤ f.pc) && decide (f.pc < x.endPc)) = true := hx
  obtain ⟨ha, ht⟩ := (resolveClass_links e.toSetting hl).op (op := VmOp.resolveClass f.method.cls x.catchType) rfl
  have hal : s.vm.Alike (s.vm.noted f.method.cls x.catchType (.cls c)) := (Vm.Alike.refl s.vm).noted _ _ _
  obtain ⟨k1, hk1⟩ := hk
  obtain ⟨k2, hk2⟩ := hc
  obtain ⟨k3, hk3, -⟩ := hal.2.2 _ _ hk1
  obtain ⟨k4, hk4, -⟩ := hal.2.2 _ _ hk2
  have hfit2 : (s.vm.noted f.method.cls x.catchType (.cls c)).assignable cell.cls c = true := by rw [hal.assignable]; exact hfit
  simp [findHandler.go, hx2, h0, ha, ht, hcell, hobj, hk3, hk4, hfit2, VmOp.dirties, VmOp.acts]
theorem oc_step {s : State} {r : List Frame} {pc : Nat} {vm2 : Vm} (hfind : ∀ (Q : Handler → Pre) (E : CtlPost) (d : Bool) (acts : List Action), wp (findHandler f a) Q E e d acts s ↔ Q (.found pc) d acts (s.setVm vm2)) :
    (stepThrowing e s a (.java f :: r)).Is ((s.setVm vm2).setFrames (.java { f with pc := pc, stack := [.ref a] } :: r)) [] := by
  simp only [stepThrowing, searchFrame, vmDo]
  generalize hr : Sem.go _ e false [] s = res
  obtain ⟨as, rfl, ha⟩ := Sem.eq_ok_of hr (a := Handler.found pc) (s' := s.setVm vm2) (acts' := []) (by simp [hfind _ _ _ _])
  exact ⟨rfl, ha⟩
theorem oc_frames (u : State) (vm2 : Vm) (F G : List Frame) : ((u.setFrames F).setVm vm2).setFrames G = (u.setVm vm2).setFrames G := by
  rw [show (u.setFrames F).setVm vm2 = (u.setVm vm2).setFrames F from rfl, State.setFrames_setFrames]
theorem oc_to {tb : Tables} {s target : State} {g : JFrame} {c : Code} {below : List Frame} (h : At s g.method c below) {pc : Nat} {vm2 : Vm}
    (hfind : ∀ (Q : Handler → Pre) (E : CtlPost) (d : Bool) (acts : List Action), wp (findHandler g a) Q E e d acts ((s.setTop g).pushFrame (.throwing a)) ↔ Q (.found pc) d acts (((s.setTop g).pushFrame (.throwing a)).setVm vm2))
    (hrest : Steps tb e below ((s.setVm vm2).setTop { g with pc := pc, stack := [.ref a] }) target) :
    Steps tb e below ((s.setTop g).pushFrame (.throwing a)) target := by
  obtain ⟨hgo, hw⟩ := h.throwing a
  refine Steps.head hgo hw ?_
  rw [stepThread_throwing (frames_entered h.top _), (oc_step (s := (s.setTop g).pushFrame (.throwing a)) hfind).1]
  obtain ⟨g₀, hg⟩ := Option.isSome_iff_exists.mp h.top
  obtain ⟨r, hr⟩ := State.topJava?_eq_some.mp hg
  have hr2 : (s.setVm vm2).frames = .java g₀ :: r := hr
  rw [State.setTop_of_frames _ hr2] at hrest
  rw [hr, List.tail_cons, State.pushFrame, oc_frames, State.setTop_of_frames _ hr, oc_frames]
  exact hrest
end OWNCATCH
section VXA
/-! The laws vx_back, vx_callV, vx_callS, vx_callSW, vx_throw0, vx_throwS follow proofs of the library, with one case more: JvmDerived/Free/Laws.lean (Back.of_free), Shelf42/LK1.lean (callV, callS), Shelf/KitTraced.lean (throwNew0V, throwNewS). -/
/-- where a method has thrown q: the class by its name, the cell, what was written, the world -/
def vx_T (XC : String → State → State → Prop) (st : State) (q : Addr) (t : State) (mc ms : Nat) (free : Addr → Prop) : Prop :=
  ∃ (E : String) (ce : Cell) (L : List Loc), XC E st t ∧ t.heap[q]? = some ce ∧ ce.vm = .none ∧ st.vm.findClass E = some ce.cls ∧ st.WarmedH t.vm ∧ st.sameButNew ({ t with vm := st.vm } : State) L mc ms ∧ ∀ z ∈ L, free z.base
def vx_Q (Qc : Array Value → State → Outcome → State → Prop) (XC : String → State → State → Prop) (mc ms : Nat) (free : Addr → Prop) : Array Value → State → Outcome → State → Prop := fun a st o t =>
  (Qc a st o t ∧ ∃ L, FrameEnd st o t L mc ms ∧ ∀ q ∈ L, free q.base) ∨ ∃ q, o = .threw q ∧ vx_T XC st q t mc ms free
/-- a callee that returns or throws -/
def vx_Met (l : Launch) (y : MethodName) (ws : List Cond) (rm : Room) (Pc : Array Value → State → Prop) (Qc : Array Value → State → Outcome → State → Prop) (XC : String → State → State → Prop) (mc ms : Nat) (free : Addr → Prop) : Prop :=
  MetFree l y (headSpec ws rm) Pc (fun _ _ _ _ _ => True) (vx_Q Qc XC mc ms free)
def vx_Post (XC : String → State → State → Prop) (mc ms : Nat) (free : Addr → Prop) : Pt → Array Value → Addr → Pt → Prop := fun A a q B =>
  ∃ (g : JFrame) (mk : MethodId) (t : State) (L : List Loc) (E : String) (ce : Cell), B.U.heap = t.heap ∧ B.U.vm = t.vm ∧ XC E (A.U.calling g mk a) t ∧ t.heap[q]? = some ce ∧ ce.vm = .none ∧ A.U.vm.findClass E = some ce.cls ∧ B.locs = A.locs ++ L ∧ (∀ z ∈ L, free z.base) ∧ B.cells = A.cells + mc ∧ B.slots = A.slots + ms
def vx_Back (l : Launch) (R : Room) (p : Program) (e : Env) (below : List Frame) (s : State) (sargs : Array Value) (y : MethodName) (len W9 : Nat)
    (Pre : Pt → Array Value → Prop) (Post : Pt → Array Value → Option Value → Pt → Prop) (PostX : Pt → Array Value → Addr → Pt → Prop) : Prop :=
  ∀ (m : MethodId) (meth : Method) (c : Code) (A : Pt) (g : JFrame) (ig : Instr) (mk : MethodId) (a : Array Value),
    Stand p l e R s m sargs below meth c A.U A.locs A.cells A.slots → g.method = m → g.locals.size = c.maxLocals → decode c.code g.pc = .ok (ig, len) →
    2 * g.monitorRoom + (g.stack.map fun v => v.category).sum ≤ W9 → A.U.methodNamed? y = some mk → Pre A a →
    (∃ (v : Option Value) (B : Pt), Stand p l e R s m sargs below meth c B.U B.locs B.cells B.slots ∧ Post A a v B ∧
      Steps p.tables e below (doInvoke e (A.U.setTop g) [] mk a).1 (B.U.setTop { g with pc := g.pc + len, stack := v.toList ++ g.stack })) ∨
    (∃ (q : Addr) (B : Pt), Stand p l e R s m sargs below meth c B.U B.locs B.cells B.slots ∧ PostX A a q B ∧
      Steps p.tables e below (doInvoke e (A.U.setTop g) [] mk a).1 ((B.U.setTop g).pushFrame (.throwing q)))
section Payer
variable {l : Launch} {R : Room} {p : Program} {e : Env} {below : List Frame} {s : State} {sargs : Array Value} {y : MethodName} {len W9 : Nat}
theorem vx_back {ws : List Cond} {rm : Room} {Pc : Array Value → State → Prop} {Qc : Array Value → State → Outcome → State → Prop} {XC : String → State → State → Prop} {mc ms : Nat} {free : Addr → Prop} {bytes : ByteArray} {maxL : Nat} {ret : Option FieldType}
    (hM : vx_Met l y ws rm Pc Qc XC mc ms free) (hblind : FrameBlind Pc) (hrc : rm.cells = mc) (hrs : rm.slots = ms)
    (hframes : rm.frames + 1 ≤ R.frames) (hlocals : W9 + (maxL + 11) + rm.locals ≤ R.locals)
    (hws : ∀ w ∈ ws, ∀ a' U, s.WarmedH U.vm → w.before a' U = true) (hcode : Cond.code y bytes maxL ret ∈ ws) (hinit : ∀ a' U, s.WarmedH U.vm → (Cond.initialized y.cls).before a' U = true) :
    vx_Back l R p e below s sargs y len W9 (PreOf R mc ms Pc) (PostOf Qc mc ms free) (vx_Post XC mc ms free) := by
  intro m meth c A g ig mk a X hg hsize hdg hW hn hp
  have h1 : (headSpec ws rm).pre.before a A.U = true := atoms_intro fun w hw => hws w hw _ _ X.warmed
  have h2 : (Cond.code y bytes maxL ret).before a A.U = true := hws _ hcode _ _ X.warmed
  have h3 : (Cond.initialized y.cls).before a A.U = true := hinit _ _ X.warmed
  have h4 : A.cells + (headSpec ws rm).room.cells ≤ R.cells := by rw [show (headSpec ws rm).room.cells = mc from hrc]; exact hp.1
  have h5 : A.slots + (headSpec ws rm).room.slots ≤ R.slots := by rw [show (headSpec ws rm).room.slots = ms from hrs]; exact hp.2.1
  have hPc : Pc a (A.U.calling g mk a) := hblind _ _ _ _ hp.2.2
  obtain ⟨U, Ls, c0, s0⟩ := A
  dsimp only [Pt.U, Pt.locs, Pt.cells, Pt.slots] at h1 h2 h3 h4 h5 X hn hPc ⊢
  obtain ⟨methY, cY, hmY, hcY, -, hlY, -, -, -, -⟩ := Cond.code_spec hn h2
  obtain ⟨kY, hkY, -⟩ := className_of_methodNamed hn
  have hinitY : kY.init = .initialized := Cond.initialized_spec (findClass_of_methodNamed hn) hkY h3
  have h : At U g.method c below := by rw [hg]; exact X.here
  have hlocals9 : W9 + (maxL + 11) + (headSpec ws rm).room.locals ≤ R.locals := hlocals
  have happ : (headSpec ws rm).appliesLoose y e.platform (U.calling g mk a) = true :=
    Spec.appliesLoose_calling (g := g) h hdg hn hkY hinitY
      (X.room_calling (g := g) (R' := (headSpec ws rm).room) hsize hmY hcY hframes (by rw [hlY]; omega) h4 h5) h1
  obtain ⟨mid, hmid⟩ := h.above
  have hfr : (U.setTop g).frames = (.java g :: mid) ++ below := by rw [State.frames_setTop' g h.top, hmid]; rfl
  obtain ⟨o, s₂, hsteps, -, hend, hq⟩ := Steps.callFree hM p X.admits X.cas X.clock (acts := []) hfr happ hPc trivial
  have hq' : vx_Q Qc XC mc ms free a (U.calling g mk a) o s₂ := hq
  rw [State.frames_setTop' g h.top] at hend
  obtain ⟨g₀, hg0⟩ := Option.isSome_iff_exists.mp h.top
  obtain ⟨r, hr⟩ := State.topJava?_eq_some.mp hg0
  have hr' : (({ U with heap := s₂.heap, slotsUsed := s₂.slotsUsed } : State).setVm s₂.vm).frames = .java g₀ :: r := hr
  rcases hq' with ⟨hqc, L, hfe, hL⟩ | ⟨q, rfl, E, ce, L, hx, hce, hcv, hcl, hW₂, hsm, hL⟩
  · obtain ⟨⟨v, rfl⟩, hW₂, e2, q2, q3, q4, q5, q6⟩ := id hfe
    have e3 : s₂ = ({ (U.calling g mk a).setFrames s₂.frames with heap := s₂.heap, slotsUsed := s₂.slotsUsed } : State).setVm s₂.vm := by
      have : s₂ = ({ s₂ with vm := (U.calling g mk a).vm } : State).setVm s₂.vm := rfl
      rw [e2] at this
      exact this
    obtain ⟨c₂, i₂, len₂, hc₂, hd₂, hf₂⟩ := hend
    have hW' : U.WarmedH s₂.vm := hW₂
    have hcc : c₂ = c := by
      have h1 : s₂.code? g.method = U.code? g.method := by
        rw [State.code?_eq, State.code?_eq, hW'.alike.method?]
      exact Option.some.inj (hc₂.symm.trans (h1.trans h.code))
    subst hcc
    have hlen : len₂ = len := by rw [hdg] at hd₂; cases hd₂; rfl
    subst hlen
    have hs₂ : s₂ = (({ U with heap := s₂.heap, slotsUsed := s₂.slotsUsed } : State).setVm s₂.vm).setTop { g with pc := g.pc + len₂, stack := v.toList ++ g.stack } := by
      refine e3.trans ?_
      rw [hf₂, State.calling_eq h.top, State.setFrames_setFrames, State.setTop_of_frames _ hr', hr]
      rfl
    have hsame : U.sameButNew ({ U with heap := s₂.heap, slotsUsed := s₂.slotsUsed } : State) L mc ms := by
      refine ⟨?_, q2, q3, q4, q5, q6⟩
      obtain ⟨t, ht, -⟩ := State.frames_cons hr
      show ({ U with heap := s₂.heap, slotsUsed := s₂.slotsUsed } : State) = { U.setFrames U.frames with heap := s₂.heap, slotsUsed := s₂.slotsUsed }
      rw [State.setFrames_self ht]
    subst hg
    refine Or.inl ⟨v, ⟨(({ U with heap := s₂.heap, slotsUsed := s₂.slotsUsed } : State).setVm s₂.vm), Ls ++ L, c0 + mc, s0 + ms⟩,
      ⟨X.admits, X.cas, X.clock, X.frames, X.room, X.hears, X.method, X.code, (X.here.setHeapUsed s₂.heap s₂.slotsUsed).setVm hW'.alike, X.tail, State.WarmedH.trans X.warmed hW', X.limits, X.bytes, X.same.trans (hsame.setVm s.vm)⟩,
      ⟨g, mk, s₂, L, rfl, rfl, hqc, rfl, hL, rfl, rfl⟩, ?_⟩
    show Steps p.tables e below _ ((({ U with heap := s₂.heap, slotsUsed := s₂.slotsUsed } : State).setVm s₂.vm).setTop { g with pc := g.pc + len₂, stack := v.toList ++ g.stack })
    rw [← hs₂]
    exact hsteps
  · obtain ⟨e2, q2, q3, q4, q5, q6⟩ := id hsm
    have e3 : s₂ = ({ (U.calling g mk a).setFrames s₂.frames with heap := s₂.heap, slotsUsed := s₂.slotsUsed } : State).setVm s₂.vm := by
      have : s₂ = ({ s₂ with vm := (U.calling g mk a).vm } : State).setVm s₂.vm := rfl
      rw [e2] at this
      exact this
    have hf₂ : s₂.frames = .throwing q :: .java g :: U.frames.tail := hend
    have hW' : U.WarmedH s₂.vm := hW₂
    have hs₂ : s₂ = ((({ U with heap := s₂.heap, slotsUsed := s₂.slotsUsed } : State).setVm s₂.vm).setTop g).pushFrame (.throwing q) := by
      refine e3.trans ?_
      rw [hf₂, State.calling_eq h.top, State.setFrames_setFrames, State.pushFrame, State.frames_setTop _ hr', State.setTop_of_frames _ hr', State.setFrames_setFrames, hr]
      rfl
    have hsame : U.sameButNew ({ U with heap := s₂.heap, slotsUsed := s₂.slotsUsed } : State) L mc ms := by
      refine ⟨?_, q2, q3, q4, q5, q6⟩
      obtain ⟨t, ht, -⟩ := State.frames_cons hr
      show ({ U with heap := s₂.heap, slotsUsed := s₂.slotsUsed } : State) = { U.setFrames U.frames with heap := s₂.heap, slotsUsed := s₂.slotsUsed }
      rw [State.setFrames_self ht]
    subst hg
    refine Or.inr ⟨q, ⟨(({ U with heap := s₂.heap, slotsUsed := s₂.slotsUsed } : State).setVm s₂.vm), Ls ++ L, c0 + mc, s0 + ms⟩,
      ⟨X.admits, X.cas, X.clock, X.frames, X.room, X.hears, X.method, X.code, (X.here.setHeapUsed s₂.heap s₂.slotsUsed).setVm hW'.alike, X.tail, State.WarmedH.trans X.warmed hW', X.limits, X.bytes, X.same.trans (hsame.setVm s.vm)⟩,
      ⟨g, mk, s₂, L, E, ce, rfl, rfl, hx, hce, hcv, hcl, rfl, hL, rfl, rfl⟩, ?_⟩
    show Steps p.tables e below _ (((({ U with heap := s₂.heap, slotsUsed := s₂.slotsUsed } : State).setVm s₂.vm).setTop g).pushFrame (.throwing q))
    rw [← hs₂]
    exact hsteps
end Payer
section Calls
variable {p : Program} {l : Launch} {e : Env} {R : Room} {s : State} {m : MethodId} {args : Array Value} {below : List Frame} {meth : Method} {c : Code} {T : State} {locs : List Loc} {cells slots : Nat}
theorem vx_callV (X : Stand p l e R s m args below meth c T locs cells slots) (hexec : p.tables.exec = Jvm.exec) {own C : String} {index : Nat} {y : MethodName} {bytes : ByteArray} {maxL : Nat} {ret : Option FieldType}
    (hown : s.vm.findClass own = some m.cls) (hlink : (Cond.methodLink own index y).before args s = true) (hinst : (Cond.instanceMethod y).before args s = true) (hsel : (Cond.selects C y y).before args s = true)
    (hcode : (Cond.code y bytes maxL ret).before args s = true) (hy : y.cls ≠ "java/lang/invoke/MethodHandle" ∧ y.cls ≠ "java/lang/invoke/VarHandle")
    {W9 : Nat} {Pre : Pt → Array Value → Prop} {Post : Pt → Array Value → Option Value → Pt → Prop} {PostX : Pt → Array Value → Addr → Pt → Prop} (hK : vx_Back l R p e below s args y 3 W9 Pre Post PostX)
    {b : Addr} {cellB : Cell} (hcell : T.heap[b]? = some cellB) (hobj : cellB.vm.isStatics = false) (hcls : s.vm.findClass C = some cellB.cls)
    {g : JFrame} (hg : g.method = m) (hsize : g.locals.size = c.maxLocals) {argsL rest : List Value} (hlen : ∀ sig, parseMethodDescriptor y.desc = some sig → argsL.length = sig.parameters.length)
    (hstack : g.stack = argsL.reverse ++ .ref b :: rest) (hW : 2 * g.monitorRoom + (rest.map fun v => v.category).sum ≤ W9) (hdg : decode c.code g.pc = .ok (.invokevirtual index, 3))
    (hpre : ∀ vm₁, s.WarmedH vm₁ → Pre ⟨T.setVm vm₁, locs, cells, slots⟩ (Value.ref b :: argsL).toArray) :
    (∃ (v : Option Value) (vm₁ : Vm) (B : Pt), s.WarmedH vm₁ ∧ Stand p l e R s m args below meth c B.U B.locs B.cells B.slots ∧ Post ⟨T.setVm vm₁, locs, cells, slots⟩ (Value.ref b :: argsL).toArray v B ∧
      ∀ target, Steps p.tables e below (B.U.setTop { g with pc := g.pc + 3, stack := v.toList ++ rest }) target → Steps p.tables e below (T.setTop g) target) ∨
    (∃ (q : Addr) (vm₁ : Vm) (B : Pt), s.WarmedH vm₁ ∧ Stand p l e R s m args below meth c B.U B.locs B.cells B.slots ∧ PostX ⟨T.setVm vm₁, locs, cells, slots⟩ (Value.ref b :: argsL).toArray q B ∧
      Steps p.tables e below (T.setTop g) ((B.U.setTop { g with stack := rest }).pushFrame (.throwing q))) := by
  obtain ⟨mk, methM, hnamed, hmethM, hstM, habM⟩ := Cond.instanceMethod_spec hinst
  obtain ⟨methM', cM, hmethM', -, -, -, -, -, -, hsigM⟩ := Cond.code_spec hnamed hcode
  cases hmethM.symm.trans hmethM'
  obtain ⟨c2, r2, m2, q1, q2, q3, q4, kP, hkP, hkPi⟩ := Cond.selects_spec hsel
  cases hcls.symm.trans q1
  cases (State.methodFound?_of_named hnamed hy).symm.trans q2
  cases hnamed.symm.trans q3
  have hselP : selectMethod e.platform s.vm cellB.cls mk = .method mk := by rw [Launch.admits_selectMethod X.admits]; exact q4
  obtain ⟨vm₁, X₁, hstep₁⟩ := X.invokevirtual hexec hown hlink hnamed hmethM hstM hkP hkPi hy (a := b) (cell := cellB) hcell
    (fun z h => by rw [h] at hobj; cases hobj) hselP hmethM habM hkP hkPi (g := g) hg (argsL := argsL) (rest := rest) (hlen _ hsigM) hstack hdg
  rcases hK m meth c ⟨T.setVm vm₁, locs, cells, slots⟩ { g with stack := rest } (.invokevirtual index) mk (Value.ref b :: argsL).toArray X₁ hg hsize hdg hW (X₁.named hnamed) (hpre vm₁ X₁.warmed) with ⟨v, B, X', hpost, hsteps⟩ | ⟨q, B, X', hpost, hsteps⟩
  · exact Or.inl ⟨v, vm₁, B, X₁.warmed, X', hpost, fun target h => hstep₁ _ fun acts => by rw [doInvoke_state]; exact hsteps.trans h⟩
  · exact Or.inr ⟨q, vm₁, B, X₁.warmed, X', hpost, hstep₁ _ fun acts => by rw [doInvoke_state]; exact hsteps⟩
theorem vx_callS (X : Stand p l e R s m args below meth c T locs cells slots) (hexec : p.tables.exec = Jvm.exec) {own : String} {index : Nat} {y : MethodName} {bytes : ByteArray} {maxL : Nat} {ret : Option FieldType}
    (hown : s.vm.findClass own = some m.cls) (hlink : (Cond.methodLink own index y).before args s = true) (hstat : (Cond.static y).before args s = true) (hinit : (Cond.initialized y.cls).before args s = true)
    (hcode : (Cond.code y bytes maxL ret).before args s = true) (hy : y.cls ≠ "java/lang/invoke/MethodHandle" ∧ y.cls ≠ "java/lang/invoke/VarHandle")
    {W9 : Nat} {Pre : Pt → Array Value → Prop} {Post : Pt → Array Value → Option Value → Pt → Prop} {PostX : Pt → Array Value → Addr → Pt → Prop} (hK : vx_Back l R p e below s args y 3 W9 Pre Post PostX)
    {g : JFrame} (hg : g.method = m) (hsize : g.locals.size = c.maxLocals) {argsL rest : List Value} (hlen : ∀ sig, parseMethodDescriptor y.desc = some sig → argsL.length = sig.parameters.length)
    (hstack : g.stack = argsL.reverse ++ rest) (hW : 2 * g.monitorRoom + (rest.map fun v => v.category).sum ≤ W9) (hdg : decode c.code g.pc = .ok (.invokestatic index, 3))
    (hpre : ∀ vm₁, s.WarmedH vm₁ → Pre ⟨T.setVm vm₁, locs, cells, slots⟩ argsL.toArray) :
    (∃ (v : Option Value) (vm₁ : Vm) (B : Pt), s.WarmedH vm₁ ∧ Stand p l e R s m args below meth c B.U B.locs B.cells B.slots ∧ Post ⟨T.setVm vm₁, locs, cells, slots⟩ argsL.toArray v B ∧
      ∀ target, Steps p.tables e below (B.U.setTop { g with pc := g.pc + 3, stack := v.toList ++ rest }) target → Steps p.tables e below (T.setTop g) target) ∨
    (∃ (q : Addr) (vm₁ : Vm) (B : Pt), s.WarmedH vm₁ ∧ Stand p l e R s m args below meth c B.U B.locs B.cells B.slots ∧ PostX ⟨T.setVm vm₁, locs, cells, slots⟩ argsL.toArray q B ∧
      Steps p.tables e below (T.setTop g) ((B.U.setTop { g with stack := rest }).pushFrame (.throwing q))) := by
  obtain ⟨mk, hnamed⟩ := Cond.code_named hcode
  obtain ⟨methM, cM, hmethM, -, -, -, -, -, -, hsigM⟩ := Cond.code_spec hnamed hcode
  have hstatic : methM.isStatic = true := Cond.static_spec hnamed hmethM hstat
  obtain ⟨kP, hkP, -⟩ := className_of_methodNamed hnamed
  have hinitP : kP.init = .initialized := Cond.initialized_spec (findClass_of_methodNamed hnamed) hkP hinit
  obtain ⟨vm₁, X₁, hstep₁⟩ := X.invokestatic hexec hown hlink hnamed hmethM hstatic hkP hinitP hy (g := g) hg (argsL := argsL) (rest := rest) (hlen _ hsigM) hstack hdg
  rcases hK m meth c ⟨T.setVm vm₁, locs, cells, slots⟩ { g with stack := rest } (.invokestatic index) mk argsL.toArray X₁ hg hsize hdg hW (X₁.named hnamed) (hpre vm₁ X₁.warmed) with ⟨v, B, X', hpost, hsteps⟩ | ⟨q, B, X', hpost, hsteps⟩
  · exact Or.inl ⟨v, vm₁, B, X₁.warmed, X', hpost, fun target h => hstep₁ _ fun acts => by rw [doInvoke_state]; exact hsteps.trans h⟩
  · exact Or.inr ⟨q, vm₁, B, X₁.warmed, X', hpost, hstep₁ _ fun acts => by rw [doInvoke_state]; exact hsteps⟩
end Calls
theorem vx_cls {s : State} {T : State} {vm₁ : Vm} {E : String} {k : ClassId} (hW : s.WarmedH vm₁) (h : (T.setVm vm₁).vm.findClass E = some k) : s.vm.findClass E = some k := by
  have h1 : vm₁.findClass E = some k := h
  rw [hW.alike.findClass] at h1
  exact h1
/-- the method's frame g, with q thrown over it -/
def vx_W (p : Program) (l : Launch) (e : Env) (R : Room) (s : State) (m : MethodId) (args : Array Value) (below : List Frame) (meth : Method) (c : Code) (H : Heap) (locs : List Loc) (cells slots : Nat) (Q : State → Prop) (g : JFrame) (q : Addr) : Prop :=
  ∀ T : State, T.heap = H → Stand p l e R s m args below meth c T locs cells slots → ∃ t, Steps p.tables e below ((T.setTop g).pushFrame (.throwing q)) t ∧ Q t
def vx_Run (p : Program) (l : Launch) (e : Env) (R : Room) (s : State) (m : MethodId) (args : Array Value) (below : List Frame) (meth : Method) (c : Code) (H : Heap) (locs : List Loc) (cells slots mc ms : Nat) (g : JFrame) (rest : List Value) (Qa : State → Outcome → State → Prop) (XC : String → State → State → Prop) (free : Addr → Prop) : Prop :=
  ∀ T : State, T.heap = H → Stand p l e R s m args below meth c T locs cells slots →
    (∃ (v : Option Value) (st₀ t T' : State) (L : List Loc), st₀.heap = H ∧ Stand p l e R s m args below meth c T' (locs ++ L) (cells + mc) (slots + ms) ∧ (∀ q ∈ L, free q.base) ∧ T'.heap = t.heap ∧ T'.vm = t.vm ∧ Qa st₀ (.returned v) t ∧
      Goes p e below T g T' { g with pc := g.pc + 3, stack := v.toList ++ rest }) ∨
    (∃ (q : Addr) (st₀ t T' : State) (L : List Loc) (E : String) (ce : Cell), st₀.heap = H ∧ Stand p l e R s m args below meth c T' (locs ++ L) (cells + mc) (slots + ms) ∧ (∀ z ∈ L, free z.base) ∧ T'.heap = t.heap ∧ T'.vm = t.vm ∧ XC E st₀ t ∧ t.heap[q]? = some ce ∧ ce.vm = .none ∧ s.vm.findClass E = some ce.cls ∧
      Steps p.tables e below (T.setTop g) ((T'.setTop { g with stack := rest }).pushFrame (.throwing q)))
def vx_X {S : Type} (px : S → Prop) (B : String → S → State → Prop) (A : Nat → Prop) : String → State → State → Prop := fun E st t => ∃ u : S, px u ∧ B E u t ∧ va_F A st t
section Runs
variable {p : Program} {l : Launch} {e : Env} {R : Room} {s : State} {m : MethodId} {args : Array Value} {below : List Frame} {meth : Method} {c : Code} {H : Heap} {locs : List Loc} {cells slots : Nat}
variable {y : MethodName} {bytes cc : ByteArray} {maxL nL mc ms n index : Nat} {ret : Option FieldType} {ws : List Cond} {rm : Room} {Pc : Array Value → State → Prop} {Qc : Array Value → State → Outcome → State → Prop} {XC : String → State → State → Prop} {free : Addr → Prop} {Ts : List Cond} {own C : String} {b : Addr} {As rest : List Value} {g : JFrame}
theorem vx_callBack (cb : CallB R s args own index y bytes maxL ret ws rm mc ms n) (hM : vx_Met l y ws rm Pc Qc XC mc ms free) (hbl : FrameBlind Pc) : vx_Back l R p e below s args y 3 8 (PreOf R mc ms Pc) (PostOf Qc mc ms free) (vx_Post XC mc ms free) := by
  obtain ⟨hrc, hrs, hfr, hlo, hws, hcw, -, hini, -⟩ := cb
  exact vx_back (bytes := bytes) (maxL := maxL) (ret := ret) hM hbl hrc hrs hfr hlo hws hcw (fun a' U hW => word_at hW (Or.inl (by first | rfl | simp [Cond.onTables, Cond.keeps, Cond.steady])) hini)
theorem vx_runV (S : CallFix p m c cc nL s args Ts own) (hM : vx_Met l y ws rm Pc Qc XC mc ms free) (cw : CallW R s args own C index y bytes maxL ret ws rm mc ms n) (hp : PreV s H C b Pc As)
    (hg : g.method = m) (hn : As.length = n) (hsize : g.locals.size = nL) (hstack : g.stack = As.reverse ++ .ref b :: rest) (hW : 2 * g.monitorRoom + (rest.map fun v => v.category).sum ≤ 8) (hdg : decode cc g.pc = .ok (.invokevirtual index, 3)) (hf : cells + mc ≤ R.cells ∧ slots + ms ≤ R.slots) :
    vx_Run p l e R s m args below meth c H locs cells slots mc ms g rest (Qc (Value.ref b :: As).toArray) XC free := by
  have hK : vx_Back l R p e below s args y 3 8 (PreOf R mc ms Pc) (PostOf Qc mc ms free) (vx_Post XC mc ms free) := vx_callBack cw.1 hM hp.1
  obtain ⟨⟨-, -, -, -, -, -, hcode, -, hy, hlen, hl⟩, hin, hse⟩ := cw
  obtain ⟨hx, hb, hml, ho, -⟩ := S
  obtain ⟨-, ⟨cellB, hcB, hoB, hclB⟩, hPc⟩ := hp
  intro T hT X
  rcases vx_callV X hx (C := C) (bytes := bytes) (maxL := maxL) (ret := ret) ho hl hin hse hcode hy hK (by rw [hT]; exact hcB) hoB hclB hg (hsize.trans hml.symm) (argsL := As) (rest := rest) (fun sig h => hn.trans (hlen sig h)) hstack hW (by rw [hb]; exact hdg)
    (fun vm₁ hW₁ => ⟨hf.1, hf.2, hPc (T.setVm vm₁) hT hW₁⟩) with ⟨v, vm₁, ⟨U', l2, c2, s2⟩, hW₁, X', ⟨g', mk, t, L, e1, e2, hq, h1, hL, h2, h3⟩, st⟩ | ⟨q, vm₁, ⟨U', l2, c2, s2⟩, hW₁, X', ⟨g', mk, t, L, E, ce, e1, e2, hq, hce, hcv, hcl, h1, hL, h2, h3⟩, st⟩
  · dsimp only [Pt.U, Pt.locs, Pt.cells, Pt.slots] at X' e1 e2 h1 h2 h3 st
    subst h1; subst h2; subst h3
    exact Or.inl ⟨v, (T.setVm vm₁).calling g' mk (Value.ref b :: As).toArray, t, U', L, hT, X', hL, e1, e2, hq, st⟩
  · dsimp only [Pt.U, Pt.locs, Pt.cells, Pt.slots] at X' e1 e2 h1 h2 h3 st hcl
    subst h1; subst h2; subst h3
    exact Or.inr ⟨q, (T.setVm vm₁).calling g' mk (Value.ref b :: As).toArray, t, U', L, E, ce, hT, X', hL, e1, e2, hq, hce, hcv, vx_cls hW₁ hcl, st⟩
theorem vx_runS (S : CallFix p m c cc nL s args Ts own) (hM : vx_Met l y ws rm Pc Qc XC mc ms free) (cw : CallB R s args own index y bytes maxL ret ws rm mc ms n ∧ (Cond.static y).before args s = true) (hp : PreS s H Pc As)
    (hg : g.method = m) (hn : As.length = n) (hsize : g.locals.size = nL) (hstack : g.stack = As.reverse ++ rest) (hW : 2 * g.monitorRoom + (rest.map fun v => v.category).sum ≤ 8) (hdg : decode cc g.pc = .ok (.invokestatic index, 3)) (hf : cells + mc ≤ R.cells ∧ slots + ms ≤ R.slots) :
    vx_Run p l e R s m args below meth c H locs cells slots mc ms g rest (Qc As.toArray) XC free := by
  have hK : vx_Back l R p e below s args y 3 8 (PreOf R mc ms Pc) (PostOf Qc mc ms free) (vx_Post XC mc ms free) := vx_callBack cw.1 hM hp.1
  obtain ⟨⟨-, -, -, -, -, -, hcode, hini, hy, hlen, hl⟩, hstt⟩ := cw
  obtain ⟨hx, hb, hml, ho, -⟩ := S
  intro T hT X
  rcases vx_callS X hx (bytes := bytes) (maxL := maxL) (ret := ret) ho hl hstt hini hcode hy hK hg (hsize.trans hml.symm) (argsL := As) (rest := rest) (fun sig h => hn.trans (hlen sig h)) hstack hW (by rw [hb]; exact hdg)
    (fun vm₁ hW₁ => ⟨hf.1, hf.2, hp.2 (T.setVm vm₁) hT hW₁⟩) with ⟨v, vm₁, ⟨U', l2, c2, s2⟩, hW₁, X', ⟨g', mk, t, L, e1, e2, hq, h1, hL, h2, h3⟩, st⟩ | ⟨q, vm₁, ⟨U', l2, c2, s2⟩, hW₁, X', ⟨g', mk, t, L, E, ce, e1, e2, hq, hce, hcv, hcl, h1, hL, h2, h3⟩, st⟩
  · dsimp only [Pt.U, Pt.locs, Pt.cells, Pt.slots] at X' e1 e2 h1 h2 h3 st
    subst h1; subst h2; subst h3
    exact Or.inl ⟨v, (T.setVm vm₁).calling g' mk As.toArray, t, U', L, hT, X', hL, e1, e2, hq, st⟩
  · dsimp only [Pt.U, Pt.locs, Pt.cells, Pt.slots] at X' e1 e2 h1 h2 h3 st hcl
    subst h1; subst h2; subst h3
    exact Or.inr ⟨q, (T.setVm vm₁).calling g' mk As.toArray, t, U', L, E, ce, hT, X', hL, e1, e2, hq, hce, hcv, vx_cls hW₁ hcl, st⟩
end Runs
section Rows
variable {p : Program} {l : Launch} {e : Env} {R : Room} {s : State} {m : MethodId} {args : Array Value} {below : List Frame} {meth : Method} {c : Code} {H : Heap} {locs : List Loc} {cells slots : Nat} {Q : State → Prop}
variable {mc ms : Nat} {free : Addr → Prop} {A0 A1 : Nat → Prop} {H0 : Heap} {a : Array Value} {pc : Nat} {ls : Array Slot} {st0 rest : List Value}
theorem vx_keep {st₀ t T' : State} {L : List Loc} (h0 : st₀.heap = H) (e1 : T'.heap = t.heap) (hS : va_S A0 H0 H locs) (hA : ∀ q, q < H.size → A1 q → A0 q) (hf : ∀ q, free q → A0 q) (hL : ∀ q ∈ L, free q.base) (hF : va_F A1 st₀ t) :
    H.size ≤ T'.heap.size ∧ (∀ q : Nat, q < H.size → ¬ A1 q → T'.heap[q]? = H[q]?) ∧ va_S A0 H0 T'.heap (locs ++ L) := by
  obtain ⟨hz, hk⟩ := hF
  rw [h0] at hz hk
  exact ⟨by rw [e1]; exact hz, fun q h1 h2 => by rw [e1]; exact hk q h1 h2,
    ⟨Nat.le_trans hS.1 (by rw [e1]; exact hz), fun q h1 h2 => by rw [e1, hk q (Nat.lt_of_lt_of_le h1 hS.1) (fun z => h2 (hA q (Nat.lt_of_lt_of_le h1 hS.1) z))]; exact hS.2.1 q h1 h2, fun q hq => by
      rcases List.mem_append.mp hq with h | h
      · exact hS.2.2 q h
      · exact hf _ (hL q h)⟩⟩
theorem vx_calli {S SX : Type} {post : Int32 → S → Prop} {px : SX → Prop} {B : S → State → Prop} {BX : String → SX → State → Prop} {AX : Nat → Prop} (hr : vx_Run p l e R s m args below meth c H locs cells slots mc ms (F0 m pc ls st0) rest (va_Qi post B A1 a) (vx_X px BX AX) free) (hS : va_S A0 H0 H locs) (hA : ∀ q, q < H.size → A1 q → A0 q) (hf : ∀ q, free q → A0 q) (hAX : ∀ q, q < H.size → AX q → A0 q)
    (kx : ∀ (E : String) (ce : Cell) (q9 : Addr) (u : SX) (t : State) (H1 : Heap) (locs1 : List Loc), t.heap = H1 → s.vm.Alike t.vm → px u → BX E u t → H.size ≤ H1.size → (∀ q : Nat, q < H.size → ¬ AX q → H1[q]? = H[q]?) → va_S A0 H0 H1 locs1 → H1[q9]? = some ce → ce.vm = .none → s.vm.findClass E = some ce.cls → vx_W p l e R s m args below meth c H1 locs1 (cells + mc) (slots + ms) Q (F0 m pc ls rest) q9)
    (kk : ∀ (r : Int32) (u : S) (t : State) (H1 : Heap) (locs1 : List Loc), t.heap = H1 → s.vm.Alike t.vm → post r u → B u t → H.size ≤ H1.size → (∀ q : Nat, q < H.size → ¬ A1 q → H1[q]? = H[q]?) → va_S A0 H0 H1 locs1 → W p l e R s m args below meth c H1 locs1 (cells + mc) (slots + ms) Q (F0 m (pc + 3) ls (.int r :: rest))) : W p l e R s m args below meth c H locs cells slots Q (F0 m pc ls st0) := by
  intro T hT X
  rcases hr T hT X with ⟨v, st₀, t, T', L, h0, X', hL, e1, e2, ⟨⟨r, u, hv, hp, hb⟩, hF⟩, st⟩ | ⟨q, st₀, t, T', L, E, ce, h0, X', hL, e1, e2, ⟨u, hp, hb, hF⟩, hce, hcv, hcl, st⟩
  · cases hv
    obtain ⟨k1, k2, k3⟩ := vx_keep h0 e1 hS hA hf hL hF
    obtain ⟨t2, a1, b1⟩ := kk r u t T'.heap (locs ++ L) e1.symm (by rw [← e2]; exact X'.warmed.alike) hp hb k1 k2 k3 T' rfl X'
    exact ⟨t2, st t2 a1, b1⟩
  · obtain ⟨k1, k2, k3⟩ := vx_keep h0 e1 hS hAX hf hL hF
    obtain ⟨t2, a1, b1⟩ := kx E ce q u t T'.heap (locs ++ L) e1.symm (by rw [← e2]; exact X'.warmed.alike) hp hb k1 k2 k3 (by rw [e1]; exact hce) hcv hcl T' rfl X'
    exact ⟨t2, st.trans a1, b1⟩
theorem vx_calll {S SX : Type} {post : Int64 → S → Prop} {px : SX → Prop} {B : S → State → Prop} {BX : String → SX → State → Prop} {AX : Nat → Prop} (hr : vx_Run p l e R s m args below meth c H locs cells slots mc ms (F0 m pc ls st0) rest (va_Ql post B A1 a) (vx_X px BX AX) free) (hS : va_S A0 H0 H locs) (hA : ∀ q, q < H.size → A1 q → A0 q) (hf : ∀ q, free q → A0 q) (hAX : ∀ q, q < H.size → AX q → A0 q)
    (kx : ∀ (E : String) (ce : Cell) (q9 : Addr) (u : SX) (t : State) (H1 : Heap) (locs1 : List Loc), t.heap = H1 → s.vm.Alike t.vm → px u → BX E u t → H.size ≤ H1.size → (∀ q : Nat, q < H.size → ¬ AX q → H1[q]? = H[q]?) → va_S A0 H0 H1 locs1 → H1[q9]? = some ce → ce.vm = .none → s.vm.findClass E = some ce.cls → vx_W p l e R s m args below meth c H1 locs1 (cells + mc) (slots + ms) Q (F0 m pc ls rest) q9)
    (kk : ∀ (r : Int64) (u : S) (t : State) (H1 : Heap) (locs1 : List Loc), t.heap = H1 → s.vm.Alike t.vm → post r u → B u t → H.size ≤ H1.size → (∀ q : Nat, q < H.size → ¬ A1 q → H1[q]? = H[q]?) → va_S A0 H0 H1 locs1 → W p l e R s m args below meth c H1 locs1 (cells + mc) (slots + ms) Q (F0 m (pc + 3) ls (.long r :: rest))) : W p l e R s m args below meth c H locs cells slots Q (F0 m pc ls st0) := by
  intro T hT X
  rcases hr T hT X with ⟨v, st₀, t, T', L, h0, X', hL, e1, e2, ⟨⟨r, u, hv, hp, hb⟩, hF⟩, st⟩ | ⟨q, st₀, t, T', L, E, ce, h0, X', hL, e1, e2, ⟨u, hp, hb, hF⟩, hce, hcv, hcl, st⟩
  · cases hv
    obtain ⟨k1, k2, k3⟩ := vx_keep h0 e1 hS hA hf hL hF
    obtain ⟨t2, a1, b1⟩ := kk r u t T'.heap (locs ++ L) e1.symm (by rw [← e2]; exact X'.warmed.alike) hp hb k1 k2 k3 T' rfl X'
    exact ⟨t2, st t2 a1, b1⟩
  · obtain ⟨k1, k2, k3⟩ := vx_keep h0 e1 hS hAX hf hL hF
    obtain ⟨t2, a1, b1⟩ := kx E ce q u t T'.heap (locs ++ L) e1.symm (by rw [← e2]; exact X'.warmed.alike) hp hb k1 k2 k3 (by rw [e1]; exact hce) hcv hcl T' rfl X'
    exact ⟨t2, st.trans a1, b1⟩
theorem vx_callf {S SX : Type} {post : UInt32 → S → Prop} {px : SX → Prop} {B : S → State → Prop} {BX : String → SX → State → Prop} {AX : Nat → Prop} (hr : vx_Run p l e R s m args below meth c H locs cells slots mc ms (F0 m pc ls st0) rest (va_Qf post B A1 a) (vx_X px BX AX) free) (hS : va_S A0 H0 H locs) (hA : ∀ q, q < H.size → A1 q → A0 q) (hf : ∀ q, free q → A0 q) (hAX : ∀ q, q < H.size → AX q → A0 q)
    (kx : ∀ (E : String) (ce : Cell) (q9 : Addr) (u : SX) (t : State) (H1 : Heap) (locs1 : List Loc), t.heap = H1 → s.vm.Alike t.vm → px u → BX E u t → H.size ≤ H1.size → (∀ q : Nat, q < H.size → ¬ AX q → H1[q]? = H[q]?) → va_S A0 H0 H1 locs1 → H1[q9]? = some ce → ce.vm = .none → s.vm.findClass E = some ce.cls → vx_W p l e R s m args below meth c H1 locs1 (cells + mc) (slots + ms) Q (F0 m pc ls rest) q9)
    (kk : ∀ (r : UInt32) (u : S) (t : State) (H1 : Heap) (locs1 : List Loc), t.heap = H1 → s.vm.Alike t.vm → post r u → B u t → H.size ≤ H1.size → (∀ q : Nat, q < H.size → ¬ A1 q → H1[q]? = H[q]?) → va_S A0 H0 H1 locs1 → W p l e R s m args below meth c H1 locs1 (cells + mc) (slots + ms) Q (F0 m (pc + 3) ls (.float r :: rest))) : W p l e R s m args below meth c H locs cells slots Q (F0 m pc ls st0) := by
  intro T hT X
  rcases hr T hT X with ⟨v, st₀, t, T', L, h0, X', hL, e1, e2, ⟨⟨r, u, hv, hp, hb⟩, hF⟩, st⟩ | ⟨q, st₀, t, T', L, E, ce, h0, X', hL, e1, e2, ⟨u, hp, hb, hF⟩, hce, hcv, hcl, st⟩
  · cases hv
    obtain ⟨k1, k2, k3⟩ := vx_keep h0 e1 hS hA hf hL hF
    obtain ⟨t2, a1, b1⟩ := kk r u t T'.heap (locs ++ L) e1.symm (by rw [← e2]; exact X'.warmed.alike) hp hb k1 k2 k3 T' rfl X'
    exact ⟨t2, st t2 a1, b1⟩
  · obtain ⟨k1, k2, k3⟩ := vx_keep h0 e1 hS hAX hf hL hF
    obtain ⟨t2, a1, b1⟩ := kx E ce q u t T'.heap (locs ++ L) e1.symm (by rw [← e2]; exact X'.warmed.alike) hp hb k1 k2 k3 (by rw [e1]; exact hce) hcv hcl T' rfl X'
    exact ⟨t2, st.trans a1, b1⟩
theorem vx_calld {S SX : Type} {post : UInt64 → S → Prop} {px : SX → Prop} {B : S → State → Prop} {BX : String → SX → State → Prop} {AX : Nat → Prop} (hr : vx_Run p l e R s m args below meth c H locs cells slots mc ms (F0 m pc ls st0) rest (va_Qd post B A1 a) (vx_X px BX AX) free) (hS : va_S A0 H0 H locs) (hA : ∀ q, q < H.size → A1 q → A0 q) (hf : ∀ q, free q → A0 q) (hAX : ∀ q, q < H.size → AX q → A0 q)
    (kx : ∀ (E : String) (ce : Cell) (q9 : Addr) (u : SX) (t : State) (H1 : Heap) (locs1 : List Loc), t.heap = H1 → s.vm.Alike t.vm → px u → BX E u t → H.size ≤ H1.size → (∀ q : Nat, q < H.size → ¬ AX q → H1[q]? = H[q]?) → va_S A0 H0 H1 locs1 → H1[q9]? = some ce → ce.vm = .none → s.vm.findClass E = some ce.cls → vx_W p l e R s m args below meth c H1 locs1 (cells + mc) (slots + ms) Q (F0 m pc ls rest) q9)
    (kk : ∀ (r : UInt64) (u : S) (t : State) (H1 : Heap) (locs1 : List Loc), t.heap = H1 → s.vm.Alike t.vm → post r u → B u t → H.size ≤ H1.size → (∀ q : Nat, q < H.size → ¬ A1 q → H1[q]? = H[q]?) → va_S A0 H0 H1 locs1 → W p l e R s m args below meth c H1 locs1 (cells + mc) (slots + ms) Q (F0 m (pc + 3) ls (.double r :: rest))) : W p l e R s m args below meth c H locs cells slots Q (F0 m pc ls st0) := by
  intro T hT X
  rcases hr T hT X with ⟨v, st₀, t, T', L, h0, X', hL, e1, e2, ⟨⟨r, u, hv, hp, hb⟩, hF⟩, st⟩ | ⟨q, st₀, t, T', L, E, ce, h0, X', hL, e1, e2, ⟨u, hp, hb, hF⟩, hce, hcv, hcl, st⟩
  · cases hv
    obtain ⟨k1, k2, k3⟩ := vx_keep h0 e1 hS hA hf hL hF
    obtain ⟨t2, a1, b1⟩ := kk r u t T'.heap (locs ++ L) e1.symm (by rw [← e2]; exact X'.warmed.alike) hp hb k1 k2 k3 T' rfl X'
    exact ⟨t2, st t2 a1, b1⟩
  · obtain ⟨k1, k2, k3⟩ := vx_keep h0 e1 hS hAX hf hL hF
    obtain ⟨t2, a1, b1⟩ := kx E ce q u t T'.heap (locs ++ L) e1.symm (by rw [← e2]; exact X'.warmed.alike) hp hb k1 k2 k3 (by rw [e1]; exact hce) hcv hcl T' rfl X'
    exact ⟨t2, st.trans a1, b1⟩
theorem vx_callv {S SX : Type} {post : S → Prop} {px : SX → Prop} {B : S → State → Prop} {BX : String → SX → State → Prop} {AX : Nat → Prop} (hr : vx_Run p l e R s m args below meth c H locs cells slots mc ms (F0 m pc ls st0) rest (va_Qv post B A1 a) (vx_X px BX AX) free) (hS : va_S A0 H0 H locs) (hA : ∀ q, q < H.size → A1 q → A0 q) (hf : ∀ q, free q → A0 q) (hAX : ∀ q, q < H.size → AX q → A0 q)
    (kx : ∀ (E : String) (ce : Cell) (q9 : Addr) (u : SX) (t : State) (H1 : Heap) (locs1 : List Loc), t.heap = H1 → s.vm.Alike t.vm → px u → BX E u t → H.size ≤ H1.size → (∀ q : Nat, q < H.size → ¬ AX q → H1[q]? = H[q]?) → va_S A0 H0 H1 locs1 → H1[q9]? = some ce → ce.vm = .none → s.vm.findClass E = some ce.cls → vx_W p l e R s m args below meth c H1 locs1 (cells + mc) (slots + ms) Q (F0 m pc ls rest) q9)
    (kk : ∀ (u : S) (t : State) (H1 : Heap) (locs1 : List Loc), t.heap = H1 → s.vm.Alike t.vm → post u → B u t → H.size ≤ H1.size → (∀ q : Nat, q < H.size → ¬ A1 q → H1[q]? = H[q]?) → va_S A0 H0 H1 locs1 → W p l e R s m args below meth c H1 locs1 (cells + mc) (slots + ms) Q (F0 m (pc + 3) ls (rest))) : W p l e R s m args below meth c H locs cells slots Q (F0 m pc ls st0) := by
  intro T hT X
  rcases hr T hT X with ⟨v, st₀, t, T', L, h0, X', hL, e1, e2, ⟨⟨u, hv, hp, hb⟩, hF⟩, st⟩ | ⟨q, st₀, t, T', L, E, ce, h0, X', hL, e1, e2, ⟨u, hp, hb, hF⟩, hce, hcv, hcl, st⟩
  · cases hv
    obtain ⟨k1, k2, k3⟩ := vx_keep h0 e1 hS hA hf hL hF
    obtain ⟨t2, a1, b1⟩ := kk u t T'.heap (locs ++ L) e1.symm (by rw [← e2]; exact X'.warmed.alike) hp hb k1 k2 k3 T' rfl X'
    exact ⟨t2, st t2 a1, b1⟩
  · obtain ⟨k1, k2, k3⟩ := vx_keep h0 e1 hS hAX hf hL hF
    obtain ⟨t2, a1, b1⟩ := kx E ce q u t T'.heap (locs ++ L) e1.symm (by rw [← e2]; exact X'.warmed.alike) hp hb k1 k2 k3 (by rw [e1]; exact hce) hcv hcl T' rfl X'
    exact ⟨t2, st.trans a1, b1⟩
/-- caught by the first row x of this method's table -/
theorem vx_catch {own name : String} {E : String} {ce : Cell} {q : Addr} (hown : s.vm.findClass own = some m.cls) (x : ExceptionTableEntry) (suf : List ExceptionTableEntry) (hsplit : c.exceptionTable.toList = x :: suf)
    (hx : covers x pc = true) (h0 : x.catchType ≠ 0)
    (hlink : (Cond.classLink own x.catchType name).before args s = true) (hcast : (Cond.castable E name).before args s = true) (hcell : H[q]? = some ce) (hv : ce.vm = .none) (hcl : s.vm.findClass E = some ce.cls)
    (kk : W p l e R s m args below meth c H locs cells slots Q (F0 m x.handlerPc ls [.ref q])) : vx_W p l e R s m args below meth c H locs cells slots Q (F0 m pc ls rest) q := by
  intro T hT X
  have hpl : e.platform.magicAccessors = ({} : Platform).magicAccessors := by rw [X.admits.platform]
  obtain ⟨c3, c4, hc3, hc4, hasg⟩ := Cond.castable_spec hcast
  cases Option.some.inj (hc3.symm.trans hcl)
  obtain ⟨c5, hc5, hcl5⟩ := Cond.classLink_spec hown hlink e.platform hpl
  cases Option.some.inj (hc4.symm.trans hc5)
  obtain ⟨k9, h9, -⟩ := Vm.findClass_spec hcl
  have hW := X.warmed
  obtain ⟨k0, hk0, -⟩ := hW.alike.2.2 _ _ h9
  obtain ⟨dk, _, _, kt, hd, _, _, _, _, hkt, _, hopen⟩ := hcl5.here
  obtain ⟨kt2, hkt2, -⟩ := hW.alike.2.2 _ _ hkt
  have hW2 := hW.noted hd hopen (State.rightAt_cls hcl5)
  have X2 := X.noted hW2
  obtain ⟨t, a1, b1⟩ := kk (T.setVm (T.vm.noted m.cls x.catchType (.cls c4))) hT X2
  refine ⟨t, ?_, b1⟩
  refine oc_to (g := F0 m pc ls rest) X.here (pc := x.handlerPc) (vm2 := T.vm.noted m.cls x.catchType (.cls c4)) (fun Q2 E2 d2 acts2 => ?_) a1
  rw [W.findHandler_eq (s := ((T.setTop (F0 m pc ls rest)).pushFrame (.throwing q))) (f := F0 m pc ls rest) (meth := meth) (code := c) X.method' X.code, hsplit]
  exact oc_go (f := F0 m pc ls rest) (cell := ce) hx h0 (hW.classLinks hcl5) (by show T.heap[q]? = some ce; rw [hT]; exact hcell) (fun k => by rw [hv]; intro h; cases h) ⟨k0, hk0⟩ ⟨kt2, hkt2⟩ (by show T.vm.assignable _ _ = true; rw [hW.alike.assignable]; exact hasg)
end Rows
section Ends
variable {p : Program} {l : Launch} {e : Env} {R : Room} {s : State} {m : MethodId} {args : Array Value} {below : List Frame} {meth : Method} {c : Code} {H : Heap} {locs : List Loc} {cells slots : Nat} {Q : State → Prop}
variable {mc ms : Nat} {free : Addr → Prop} {A0 A1 : Nat → Prop} {H0 : Heap} {a : Array Value} {ls : Array Slot} {st0 rest : List Value}
variable {Qc : Array Value → State → Outcome → State → Prop} {XC : String → State → State → Prop}
/-- what a body that may throw owes at its end -/
def vx_MQ (below : List Frame) (Qc : Array Value → State → Outcome → State → Prop) (XC : String → State → State → Prop) (a : Array Value) (s : State) (mc ms : Nat) (free : Addr → Prop) : State → Prop := fun t =>
  ∃ o, t.status = .running ∧ Ended t below o ∧ vx_Q Qc XC mc ms free a s o t
theorem vx_ret {g : JFrame} {mc ms : Nat} (k : W p l e R s m args below meth c H locs cells slots (MQ below Qc args s mc ms free) g) : W p l e R s m args below meth c H locs cells slots (vx_MQ below Qc XC args s mc ms free) g := by
  intro T hT X
  obtain ⟨t, a1, o, b1, b2, b3, b4⟩ := k T hT X
  exact ⟨t, a1, o, b1, b2, Or.inl ⟨b3, b4⟩⟩
/-- not caught here: it goes on to the caller -/
theorem vx_widen {g : JFrame} {q : Addr} {k n : Nat} (h1 : cells ≤ k) (h2 : slots ≤ n) (kk : vx_W p l e R s m args below meth c H locs k n Q g q) : vx_W p l e R s m args below meth c H locs cells slots Q g q := fun T hT X => kk T hT (stand_widen X h1 h2)
theorem vx_out {pc : Nat} {E : String} {ce : Cell} {q : Addr} {mc ms : Nat} (hout : ∀ x ∈ c.exceptionTable.toList, covers x pc = false) (hlocks : meth.locks = false) (hcell : H[q]? = some ce) (hv : ce.vm = .none) (hcl : s.vm.findClass E = some ce.cls)
    (hx : ∀ t : State, t.heap = H → s.vm.Alike t.vm → XC E s t) (hf : ∀ z ∈ locs, free z.base) (hc : cells ≤ mc) (hs : slots ≤ ms) :
    vx_W p l e R s m args below meth c H locs cells slots (vx_MQ below Qc XC args s mc ms free) (F0 m pc ls rest) q := by
  intro T hT X
  obtain ⟨st1, hrun, hend, hW, hsm⟩ := X.leaveThrown q (g := F0 m pc ls rest) rfl rfl rfl hout hlocks
  have hcell9 : (T.setFrames (.throwing q :: below)).heap[q]? = some ce := by
    show T.heap[q]? = some ce
    rw [hT]; exact hcell
  exact ⟨_, st1, .threw q, hrun, hend, Or.inr ⟨q, rfl, E, ce, locs, hx _ hT hW.alike, hcell9, hv, hcl, hW, hsm.mono hc hs, hf⟩⟩
theorem vx_frame {U : State} {k n : Nat} (h : s.sameButNew ({ U with vm := s.vm } : State) locs k n) : s.heap.size ≤ U.heap.size ∧ ∀ q : Nat, q < s.heap.size → (∀ z ∈ locs, z.base ≠ q) → U.heap[q]? = s.heap[q]? := by
  obtain ⟨-, h2, -, -, -, h6⟩ := h
  refine ⟨h2, fun q hq hz => ?_⟩
  obtain ⟨c9, e1, e2, e3, e4⟩ := h6 q _ (Array.getElem?_eq_getElem hq)
  have hs : c9.slots = (s.heap[q]).slots := Array.ext_getElem? fun i => e4 i fun hm => hz _ hm rfl
  have h9 : c9 = s.heap[q] := by
    rw [hs] at e2
    exact e2
  have e5 : U.heap[q]? = some c9 := e1
  rw [e5, h9, Array.getElem?_eq_getElem hq]
/-- the words of a throw but the four that speak of the heap -/
def vx_no (w : Cond) : Bool := decide (w ≠ .isRef (.static Bundle.tN "UNASSIGNED_STACK" Bundle.steD)) && decide (w ≠ .isRef (.static Bundle.tN "SUPPRESSED_SENTINEL" Bundle.listD)) && decide (w ≠ .laysStatic Bundle.tN "UNASSIGNED_STACK" Bundle.steD) && decide (w ≠ .laysStatic Bundle.tN "SUPPRESSED_SENTINEL" Bundle.listD)
def vx_at0 (own : String) (ic : Nat) (X : String) (names : List String) : List Cond := (Bundle.ownAtoms0 own ic X names).filter vx_no
def vx_atS (own : String) (ic : Nat) (X : String) (names : List String) : List Cond := (Bundle.ownAtoms own ic X names).filter vx_no
/-- a word that the tables alone decide, or a good one -/
def vx_ot (w : Cond) : Bool := w.onTables || goodWord w
theorem vx_ot_at {args a' : Array Value} {s U : State} {w : Cond} (hW : s.WarmedH U.vm) (hvm : s.vm = U.vm) (hg : vx_ot w = true) (h : w.before args s = true) : w.before a' U = true := by
  simp only [vx_ot, Bool.or_eq_true] at hg
  rcases hg with hg | hg
  · exact va_tabs hg hvm h
  · exact word_at hW (good_of_word hg) h
/-- a list's words: the good ones out of the method's own list, the others by premises of their own -/
theorem vx_hat {args : Array Value} {s : State} {L B : List Cond} (h1 : ∀ w ∈ L.filter goodWord, w.before args s = true) (h2 : ∀ w ∈ L.filter (fun w => !goodWord w), w ∈ B) (h3 : ∀ w ∈ B, w.before args s = true) : ∀ w ∈ L, w.before args s = true := by
  intro w hw
  by_cases g : goodWord w = true
  · exact h1 w (List.mem_filter.mpr ⟨hw, g⟩)
  · refine h3 w (h2 w (List.mem_filter.mpr ⟨hw, ?_⟩))
    show (!goodWord w) = true
    cases hgw : goodWord w
    · rfl
    · exact absurd hgw g
theorem vx_c {args : Array Value} {s : State} {w : Cond} {B : List Cond} (h : w.before args s = true) (t : ∀ w ∈ B, w.before args s = true) : ∀ w' ∈ w :: B, w'.before args s = true := fun w' h' => (List.mem_cons.mp h').elim (fun e => by rw [e]; exact h) (t w')
theorem vx_n {args : Array Value} {s : State} : ∀ w ∈ ([] : List Cond), w.before args s = true := fun _ h => nomatch h
theorem vx_own {args : Array Value} {s : State} {L : List Cond} (h1 : ∀ w ∈ L.filter vx_no, w.before args s = true)
    (hU : (Cond.isRef (.static Bundle.tN "UNASSIGNED_STACK" Bundle.steD)).before args s = true) (hN : (Cond.isRef (.static Bundle.tN "SUPPRESSED_SENTINEL" Bundle.listD)).before args s = true)
    (lU : (Cond.laysStatic Bundle.tN "UNASSIGNED_STACK" Bundle.steD).before args s = true) (lN : (Cond.laysStatic Bundle.tN "SUPPRESSED_SENTINEL" Bundle.listD).before args s = true) : ∀ w ∈ L, w.before args s = true := by
  intro w hw
  by_cases e1 : w = .isRef (.static Bundle.tN "UNASSIGNED_STACK" Bundle.steD)
  · rw [e1]; exact hU
  · by_cases e2 : w = .isRef (.static Bundle.tN "SUPPRESSED_SENTINEL" Bundle.listD)
    · rw [e2]; exact hN
    · by_cases e3 : w = .laysStatic Bundle.tN "UNASSIGNED_STACK" Bundle.steD
      · rw [e3]; exact lU
      · by_cases e4 : w = .laysStatic Bundle.tN "SUPPRESSED_SENTINEL" Bundle.listD
        · rw [e4]; exact lN
        · exact h1 w (List.mem_filter.mpr ⟨hw, by unfold vx_no; rw [decide_eq_true e1, decide_eq_true e2, decide_eq_true e3, decide_eq_true e4]; rfl⟩)
/-- where a static field lies, its class's statics cell in H -/
def vx_L (C n d : String) (A : Nat → Prop) (U : State) (H : Heap) : Prop := ∃ (c : ClassId) (k : Class) (i : Nat) (f : Field) (a : Nat) (cell : Cell), U.vm.findClass C = some c ∧ U.fieldFound? C n d = some (c, k, i, f) ∧ f.isStatic = true ∧ k.statics = some a ∧ H[a]? = some cell ∧ cell.vm.isStatics = true ∧ cell.cls = c ∧ f.slot < cell.slots.size ∧ k.staticTypes[f.slot]? = some f.type ∧ ¬ A a
theorem vx_L.moved {C n d : String} {A : Nat → Prop} {u U : State} {H : Heap} (hvm : u.vm.Alike U.vm) (h : vx_L C n d A u H) : vx_L C n d A U H := by
  obtain ⟨c, k, i, f, a, cell, h1, h2, h3, h4, h5, h6, h7, h8, h9, h10⟩ := h
  obtain ⟨k', hi', he⟩ := State.fieldFound?_setVm hvm h2
  exact ⟨c, k', i, f, a, cell, by rw [hvm.findClass]; exact h1, hi', h3, by rw [he]; exact h4, h5, h6, h7, h8, by rw [he]; exact h9, h10⟩
theorem vx_L.kept {C n d : String} {A : Nat → Prop} {U : State} {H H1 : Heap} (h : vx_L C n d A U H) (hq : ∀ a : Nat, a < H.size → ¬ A a → H1[a]? = H[a]?) : vx_L C n d A U H1 := by
  obtain ⟨c, k, i, f, a, cell, h1, h2, h3, h4, h5, h6, h7, h8, h9, h10⟩ := h
  exact ⟨c, k, i, f, a, cell, h1, h2, h3, h4, by rw [hq a (Array.getElem?_eq_some_iff.mp h5).1 h10]; exact h5, h6, h7, h8, h9, h10⟩
theorem vx_L.narrow {C n d : String} {A B : Nat → Prop} {U : State} {H : Heap} (h : vx_L C n d A U H) (hAB : ∀ q, B q → A q) : vx_L C n d B U H := by
  obtain ⟨c, k, i, f, a, cell, h1, h2, h3, h4, h5, h6, h7, h8, h9, h10⟩ := h
  exact ⟨c, k, i, f, a, cell, h1, h2, h3, h4, h5, h6, h7, h8, h9, fun z => h10 (hAB _ z)⟩
theorem vx_L.word {C n d : String} {A : Nat → Prop} {s : State} {args : Array Value} (h : vx_L C n d A s s.heap) : (Cond.laysStatic C n d).before args s = true := by
  obtain ⟨c, k, i, f, a, cell, h1, h2, h3, h4, h5, h6, h7, h8, h9, -⟩ := h
  show (Cond.laysStatic C n d).holds args s none s [] = true
  exact Cond.laysStatic_of h1 h2 h3 h4 h5 h6 h7 h8 h9
/-- .. and what it holds: null or some reference -/
def vx_Zq (C n d : String) (A : Nat → Prop) (U : State) (H : Heap) : Prop := va_Zq C n d A U H ∧ vx_L C n d A U H
theorem vx_Zq.moved {C n d : String} {A : Nat → Prop} {u U : State} {H : Heap} (hvm : u.vm.Alike U.vm) (h : vx_Zq C n d A u H) : vx_Zq C n d A U H := ⟨va_Zq.moved hvm h.1, vx_L.moved hvm h.2⟩
theorem vx_Zq.kept {C n d : String} {A : Nat → Prop} {U : State} {H H1 : Heap} (h : vx_Zq C n d A U H) (hq : ∀ a : Nat, a < H.size → ¬ A a → H1[a]? = H[a]?) : vx_Zq C n d A U H1 := ⟨va_Zq.kept h.1 hq, vx_L.kept h.2 hq⟩
theorem vx_Zq.narrow {C n d : String} {A B : Nat → Prop} {U : State} {H : Heap} (h : vx_Zq C n d A U H) (hAB : ∀ q, B q → A q) : vx_Zq C n d B U H := ⟨va_Zq.narrow h.1 hAB, vx_L.narrow h.2 hAB⟩
theorem vx_Zqof {args : Array Value} {s : State} {C n d : String} {A : Nat → Prop} (hl : (Cond.laysStatic C n d).before args s = true) (hini : (Cond.initialized C).before args s = true) (h : (Cond.isRef (.static C n d)).before args s = true) (hA : ∀ a : Nat, a < s.heap.size → ¬ A a) : vx_Zq C n d A s s.heap := by
  refine ⟨va_Zqof hl hini h hA, ?_⟩
  obtain ⟨c, k, i, f, a, cell, h1, h2, h3, h4, h5, h6, h7, h8, h9⟩ := Cond.laysStatic_spec hl
  exact ⟨c, k, i, f, a, cell, h1, h2, h3, h4, h5, h6, h7, h8, h9, hA a (Array.getElem?_eq_some_iff.mp h5).1⟩
theorem vx_isRef {C n d : String} {v : Value} {A : Nat → Prop} {s : State} {args : Array Value} (h : va_Z C n d v A s s.heap) (hv : v.isRef = true) : (Cond.isRef (.static C n d)).before args s = true := by
  obtain ⟨cf, kf, fi, f, a, cell, h1, h2, h3, h4, h5, h6, h7, -⟩ := h
  have he : (Term.static C n d).eval args s none [] s = some v := by
    simp [Term.eval, State.fieldNamed?, h1, h2, h4, h5, h6, h7]
  simp only [Cond.before, Cond.holds, Cond.value, he]
  cases v <;> simp_all [Value.isRef]
theorem vx_isRefq {C n d : String} {A : Nat → Prop} {s : State} {args : Array Value} (h : va_Zq C n d A s s.heap) : (Cond.isRef (.static C n d)).before args s = true := by
  rcases h with h | ⟨t, h⟩
  · exact vx_isRef h rfl
  · exact vx_isRef h rfl
/-- the same frame, seen from here: as if the method were called anew in this heap -/
theorem vx_rebase {T : State} (X : Stand p l e R s m args below meth c T locs cells slots) {R' : Room} (hf : R'.frames ≤ R.frames) (hl : R'.locals ≤ R.locals) (hc : cells + R'.cells ≤ R.cells) (hs : slots + R'.slots ≤ R.slots) :
    Stand p l e R' ((T.setVm s.vm).setFrames (.invoking m args :: below)) m args below meth c T [] 0 0 := by
  have htop : (T.setVm s.vm).topJava?.isSome := X.here.top
  have hF : ((T.setVm s.vm).setFrames (.invoking m args :: below)).frames = .invoking m args :: below := State.frames_setFrames _ (State.cur_lt_of_top htop)
  obtain ⟨g₀, hg0⟩ := Option.isSome_iff_exists.mp htop
  obtain ⟨r, hr⟩ := State.topJava?_eq_some.mp hg0
  have hl9 : e.platform.stackLimits (T.setVm s.vm).me = e.platform.stackLimits s.me := X.limits
  have hb9 : (T.setVm s.vm).me.stackBytes = s.me.stackBytes := X.bytes
  refine ⟨X.admits, X.cas, X.clock, hF, ?_, X.hears, X.method, X.code, X.here, X.tail, X.warmed, ?_, ?_, ?_⟩
  · have h := X.room
    have hU : ((T.setVm s.vm).setFrames (.invoking m args :: below)).localsInUse = s.localsInUse := by
      rw [State.localsInUse_invoking hF (meth := meth) (c := c) X.method X.code, State.localsInUse_invoking X.frames X.method X.code]
    simp only [State.hasRoom, Bool.and_eq_true, decide_eq_true_eq] at h ⊢
    obtain ⟨⟨⟨⟨h1, h2, h3, h4, h5, h6⟩, h7⟩, h8⟩, h9⟩ := h
    rw [X.frames, List.length_cons] at h2 h3
    have q1 := X.heapSize
    have q2 := X.used
    simp only [hF, hU, List.length_cons, State.stackLimits_setFrames, State.stackBytes_setFrames, hl9, hb9]
    refine ⟨⟨⟨⟨by omega, by omega, by omega, by omega, by omega, h6⟩, ?_⟩, ?_⟩, X.book⟩
    · show T.heap.size + R'.cells ≤ e.platform.maxCells
      omega
    · show T.slotsUsed + R'.slots ≤ e.platform.maxSlots
      omega
  · rw [State.stackLimits_setFrames]; rfl
  · rw [State.stackBytes_setFrames]; rfl
  · refine ⟨?_, Nat.le_refl _, Nat.le_refl _, ?_, ?_, fun a c9 h9 => ⟨c9, h9, rfl, rfl, fun _ _ => rfl⟩⟩
    · obtain ⟨t, ht, -⟩ := State.frames_cons hr
      show T.setVm s.vm = { ((T.setVm s.vm).setFrames (.invoking m args :: below)).setFrames (T.setVm s.vm).frames with heap := T.heap, slotsUsed := T.slotsUsed }
      rw [State.setFrames_setFrames, State.setFrames_self ht]
      rfl
    · show T.slotsUsed = T.slotsUsed + ((T.heap.toList.drop T.heap.size).map (·.slots.size)).sum
      rw [List.drop_eq_nil_of_le (Nat.le_of_eq Array.length_toList)]
      rfl
    · show ((T.heap.toList.drop T.heap.size).map (·.slots.size)).sum ≤ 0
      rw [List.drop_eq_nil_of_le (Nat.le_of_eq Array.length_toList)]
      exact Nat.le_refl _
/-- 'throw new E()': new; dup; invokespecial; athrow -/
theorem vx_throw0 {cc : ByteArray} {pc : Nat} (hexec : p.tables.exec = Jvm.exec) (hb : c.code = cc) (hl : l.stackTraces = false) {own cls : String} {names : List String} {ik ic mc ms : Nat} {A : Nat → Prop}
    (hown : s.vm.findClass own = some m.cls) (hcls : Bundle.fit cls = true) (hnames : ∀ n ∈ names, Bundle.fit n = true)
    (hk : (Cond.classLink own ik cls).before args s = true) (hini : (Cond.initialized cls).before args s = true) (hat : ∀ w ∈ vx_at0 own ic cls names, w.before args s = true)
    (hgood : ∀ w ∈ Cond.classLink own ik cls :: Cond.initialized cls :: vx_at0 own ic cls names, vx_ot w = true)
    (hU : vx_Zq Bundle.tN "UNASSIGNED_STACK" Bundle.steD A s s.heap) (hN : vx_Zq Bundle.tN "SUPPRESSED_SENTINEL" Bundle.listD A s s.heap) (hS : va_S A s.heap H locs) (hsize : ls.size = c.maxLocals)
    (d0 : decode cc pc = .ok (.new ik, 3)) (d3 : decode cc (pc + 3) = .ok (.dup, 1)) (d4 : decode cc (pc + 4) = .ok (.invokespecial ic, 3)) (d7 : decode cc (pc + 7) = .ok (.athrow, 1))
    (hout : ∀ x ∈ c.exceptionTable.toList, covers x (pc + 7) = false)
    (hRframes : names.length + 3 < R.frames) (hRlocals : (rest.map fun v => v.category).sum + (13 * (names.length + 1) + 42) ≤ R.locals) (hRcells : cells + 1 ≤ R.cells) (hRslots : slots + 6 ≤ R.slots) (hlocks : meth.locks = false)
    (hx : ∀ t : State, s.vm.Alike t.vm → H.size ≤ t.heap.size → (∀ q : Nat, q < H.size → t.heap[q]? = H[q]?) → XC cls s t)
    (hf : ∀ z ∈ locs, free z.base) (hc : cells + 1 ≤ mc) (hs : slots + 6 ≤ ms) :
    W p l e R s m args below meth c H locs cells slots (vx_MQ below Qc XC args s mc ms free) (F0 m pc ls rest) := by
  intro T hT X
  have htr : e.platform.stackTraces = false := (show e.platform.stackTraces = l.stackTraces by rw [X.admits.platform]).trans hl
  have Y := vx_rebase X (R' := { frames := R.frames, locals := R.locals, cells := 1, slots := 6 }) (Nat.le_refl _) (Nat.le_refl _) hRcells hRslots
  obtain ⟨s', hA⟩ : ∃ z, z = (T.setVm s.vm).setFrames (.invoking m args :: below) := ⟨_, rfl⟩
  rw [← hA] at Y
  have hvm : s'.vm = s.vm := by rw [hA]; rfl
  have hhp : s'.heap = H := by rw [hA]; exact hT
  have hW0 : s.WarmedH s'.vm := by rw [hvm]; exact State.WarmedH.refl s
  have hat' : ∀ w ∈ vx_at0 own ic cls names, w.before args s' = true := fun w hw => vx_ot_at hW0 hvm.symm (hgood w (List.mem_cons_of_mem _ (List.mem_cons_of_mem _ hw))) (hat w hw)
  have hk' : (Cond.classLink own ik cls).before args s' = true := vx_ot_at hW0 hvm.symm (hgood _ List.mem_cons_self) hk
  have hini' : (Cond.initialized cls).before args s' = true := vx_ot_at hW0 hvm.symm (hgood _ (List.mem_cons_of_mem _ List.mem_cons_self)) hini
  have hU' : vx_Zq Bundle.tN "UNASSIGNED_STACK" Bundle.steD A s' s'.heap := by rw [hhp]; exact vx_Zq.moved hW0.alike (hU.kept hS.2.1)
  have hN' : vx_Zq Bundle.tN "SUPPRESSED_SENTINEL" Bundle.listD A s' s'.heap := by rw [hhp]; exact vx_Zq.moved hW0.alike (hN.kept hS.2.1)
  have h : ∀ w ∈ Bundle.ownAtoms0 own ic cls names, w.before args s' = true := vx_own hat' (vx_isRefq hU'.1) (vx_isRefq hN'.1) hU'.2.word hN'.2.word
  have hown' : s'.vm.findClass own = some m.cls := by rw [hvm]; exact hown
  have hins : (Cond.instantiable cls 6).before args s' = true := h _ (by simp [Bundle.ownAtoms0])
  obtain ⟨vm₁, cX, kX, hfX, hkX, -, -, X₁, st1⟩ := Y.newCold hexec (own := own) (C := cls) (index := ik) (n := 6) hown' hk' hins hini'
    (g := F0 m pc ls rest) rfl (by rw [hb]; exact d0) (Nat.le_refl _) (Nat.le_refl _)
  generalize hT1 : (T.setVm vm₁).pushCell { cls := cX, slots := kX.instanceTypes.map defaultValue, vm := .none } = T1 at X₁ st1
  have hcat : (Value.ref T.heap.size).category = 1 := rfl
  have hcellA : T1.heap[T.heap.size]? = some (freshCell cX kX) := by rw [← hT1]; exact State.heap_pushCell_size _ _
  have d3' : decode c.code (pc + 3) = .ok (.dup, 1) := by rw [hb]; exact d3
  obtain ⟨U, hsteps, hrun, hend, hW, hsame, ce, hce, hO⟩ := X₁.ctorThrow0 hexec htr (own := own) (cls := cls) (names := names) (ic := ic) hown' hcls hnames h (fun x hx => nomatch hx) hfX hkX hcellA (by rw [hhp, hT]; exact Nat.le_refl _)
    (g := { method := m, pc := pc + 4, locals := ls, stack := .ref T.heap.size :: .ref T.heap.size :: rest, locked := none }) rfl hsize rfl rfl (rest := rest) rfl
    (by rw [hb]; exact d4) (by rw [hb]; exact d7) hout hRframes (by simp only [List.map_cons, List.sum_cons, hcat]; omega) hlocks
  obtain ⟨f1, f2⟩ := vx_frame hsame
  rw [hhp] at f1 f2
  have hWs : s.WarmedH U.vm := State.WarmedH.trans hW0 hW
  have hcl : s.vm.findClass cls = some ce.cls := by
    have h9 := hO.cls
    rw [hvm] at h9
    exact h9
  have hall : s.sameButNew ({ U with vm := s.vm } : State) locs mc ms := by
    subst hA
    obtain ⟨e1, e2⟩ := hsame
    rw [State.setFrames_setFrames] at e1
    have h2 : (T.setVm s.vm).sameButNew ({ U with vm := s.vm } : State) [] (0 + 1) (0 + 6) := ⟨e1, e2⟩
    have h3 := X.same.trans h2
    rw [List.append_nil] at h3
    exact h3.mono hc hs
  refine ⟨U, ?_, .threw T.heap.size, hrun, hend, Or.inr ⟨T.heap.size, rfl, cls, ce, locs, hx U hWs.alike f1 (fun q hq => f2 q hq (fun z hz => nomatch hz)), hce, hO.vm, hcl, hWs, hall, hf⟩⟩
  refine st1 _ ?_
  show Steps p.tables e below (T1.setTop { method := m, pc := pc + 3, locals := ls, stack := .ref T.heap.size :: rest, locked := none }) _
  jvm_step X₁.here [X₁.here.top, hexec, d3', Value.category]
  exact hsteps
/-- 'throw new E("text")': new; dup; ldc; invokespecial; athrow -/
theorem vx_throwS {cc : ByteArray} {pc : Nat} (hexec : p.tables.exec = Jvm.exec) (hb : c.code = cc) (hl : l.stackTraces = false) {own cls text : String} {names : List String} {ik is ic mc ms sa : Nat} {A : Nat → Prop}
    (hown : s.vm.findClass own = some m.cls) (hcls : Bundle.fit cls = true) (hnames : ∀ n ∈ names, Bundle.fit n = true)
    (hk : (Cond.classLink own ik cls).before args s = true) (hini : (Cond.initialized cls).before args s = true) (hstr : vk_R own is text sa s) (hat : ∀ w ∈ vx_atS own ic cls names, w.before args s = true)
    (hgood : ∀ w ∈ Cond.classLink own ik cls :: Cond.initialized cls :: vx_atS own ic cls names, vx_ot w = true)
    (hU : vx_Zq Bundle.tN "UNASSIGNED_STACK" Bundle.steD A s s.heap) (hN : vx_Zq Bundle.tN "SUPPRESSED_SENTINEL" Bundle.listD A s s.heap) (hS : va_S A s.heap H locs) (hsize : ls.size = c.maxLocals)
    (d0 : decode cc pc = .ok (.new ik, 3)) (d3 : decode cc (pc + 3) = .ok (.dup, 1)) (d4 : decode cc (pc + 4) = .ok (.ldc is, 2)) (d6 : decode cc (pc + 6) = .ok (.invokespecial ic, 3)) (d9 : decode cc (pc + 9) = .ok (.athrow, 1))
    (hout : ∀ x ∈ c.exceptionTable.toList, covers x (pc + 9) = false)
    (hRframes : names.length + 3 < R.frames) (hRlocals : (rest.map fun v => v.category).sum + (13 * (names.length + 1) + 43) ≤ R.locals) (hRcells : cells + 1 ≤ R.cells) (hRslots : slots + 6 ≤ R.slots) (hlocks : meth.locks = false)
    (hx : ∀ t : State, s.vm.Alike t.vm → H.size ≤ t.heap.size → (∀ q : Nat, q < H.size → t.heap[q]? = H[q]?) → XC cls s t)
    (hf : ∀ z ∈ locs, free z.base) (hc : cells + 1 ≤ mc) (hs : slots + 6 ≤ ms) :
    W p l e R s m args below meth c H locs cells slots (vx_MQ below Qc XC args s mc ms free) (F0 m pc ls rest) := by
  intro T hT X
  have htr : e.platform.stackTraces = false := (show e.platform.stackTraces = l.stackTraces by rw [X.admits.platform]).trans hl
  have Y := vx_rebase X (R' := { frames := R.frames, locals := R.locals, cells := 1, slots := 6 }) (Nat.le_refl _) (Nat.le_refl _) hRcells hRslots
  obtain ⟨s', hA⟩ : ∃ z, z = (T.setVm s.vm).setFrames (.invoking m args :: below) := ⟨_, rfl⟩
  rw [← hA] at Y
  have hvm : s'.vm = s.vm := by rw [hA]; rfl
  have hhp : s'.heap = H := by rw [hA]; exact hT
  have hW0 : s.WarmedH s'.vm := by rw [hvm]; exact State.WarmedH.refl s
  have hat' : ∀ w ∈ vx_atS own ic cls names, w.before args s' = true := fun w hw => vx_ot_at hW0 hvm.symm (hgood w (List.mem_cons_of_mem _ (List.mem_cons_of_mem _ hw))) (hat w hw)
  have hk' : (Cond.classLink own ik cls).before args s' = true := vx_ot_at hW0 hvm.symm (hgood _ List.mem_cons_self) hk
  have hini' : (Cond.initialized cls).before args s' = true := vx_ot_at hW0 hvm.symm (hgood _ (List.mem_cons_of_mem _ List.mem_cons_self)) hini
  have hU' : vx_Zq Bundle.tN "UNASSIGNED_STACK" Bundle.steD A s' s'.heap := by rw [hhp]; exact vx_Zq.moved hW0.alike (hU.kept hS.2.1)
  have hN' : vx_Zq Bundle.tN "SUPPRESSED_SENTINEL" Bundle.listD A s' s'.heap := by rw [hhp]; exact vx_Zq.moved hW0.alike (hN.kept hS.2.1)
  have h : ∀ w ∈ Bundle.ownAtoms own ic cls names, w.before args s' = true := vx_own hat' (vx_isRefq hU'.1) (vx_isRefq hN'.1) hU'.2.word hN'.2.word
  have hown' : s'.vm.findClass own = some m.cls := by rw [hvm]; exact hown
  have hins : (Cond.instantiable cls 6).before args s' = true := h _ (by simp [Bundle.ownAtoms])
  obtain ⟨vm₁, cX, kX, hfX, hkX, -, -, X₁, st1⟩ := Y.newCold hexec (own := own) (C := cls) (index := ik) (n := 6) hown' hk' hins hini'
    (g := F0 m pc ls rest) rfl (by rw [hb]; exact d0) (Nat.le_refl _) (Nat.le_refl _)
  generalize hT1 : (T.setVm vm₁).pushCell { cls := cX, slots := kX.instanceTypes.map defaultValue, vm := .none } = T1 at X₁ st1
  have hcat : (Value.ref T.heap.size).category = 1 := rfl
  have hcellA : T1.heap[T.heap.size]? = some (freshCell cX kX) := by rw [← hT1]; exact State.heap_pushCell_size _ _
  have d3' : decode c.code (pc + 3) = .ok (.dup, 1) := by rw [hb]; exact d3
  have d4' : decode c.code (pc + 4) = .ok (.ldc is, 2) := by rw [hb]; exact d4
  have hstr' : vk_R own is text sa s' := vk_R.warm hW0 hstr
  obtain ⟨U, hsteps, hrun, hend, hW, hsame, ce, hce, hO⟩ := X₁.ctorThrowS hexec htr (own := own) (cls := cls) (names := names) (ic := ic) hown' hcls hnames h (fun x hx => nomatch hx) hfX hkX hcellA (by rw [hhp, hT]; exact Nat.le_refl _) (msg := .ref sa) rfl
    (g := { method := m, pc := pc + 6, locals := ls, stack := .ref sa :: .ref T.heap.size :: .ref T.heap.size :: rest, locked := none }) rfl hsize rfl rfl (rest := rest) rfl
    (by rw [hb]; exact d6) (by rw [hb]; exact d9) hout hRframes (by simp only [List.map_cons, List.sum_cons, hcat]; omega) hlocks
  obtain ⟨f1, f2⟩ := vx_frame hsame
  rw [hhp] at f1 f2
  have hWs : s.WarmedH U.vm := State.WarmedH.trans hW0 hW
  have hcl : s.vm.findClass cls = some ce.cls := by
    have h9 := hO.cls
    rw [hvm] at h9
    exact h9
  have hall : s.sameButNew ({ U with vm := s.vm } : State) locs mc ms := by
    subst hA
    obtain ⟨e1, e2⟩ := hsame
    rw [State.setFrames_setFrames] at e1
    have h2 : (T.setVm s.vm).sameButNew ({ U with vm := s.vm } : State) [] (0 + 1) (0 + 6) := ⟨e1, e2⟩
    have h3 := X.same.trans h2
    rw [List.append_nil] at h3
    exact h3.mono hc hs
  refine ⟨U, ?_, .threw T.heap.size, hrun, hend, Or.inr ⟨T.heap.size, rfl, cls, ce, locs, hx U hWs.alike f1 (fun q hq => f2 q hq (fun z hz => nomatch hz)), hce, hO.vm, hcl, hWs, hall, hf⟩⟩
  refine st1 _ ?_
  show Steps p.tables e below (T1.setTop { method := m, pc := pc + 3, locals := ls, stack := .ref T.heap.size :: rest, locked := none }) _
  jvm_step X₁.here [X₁.here.top, hexec, d3', Value.category]
  exact X₁.ldcString hexec (own := own) (text := text) (index := is) (a := sa) hown' hstr'.1 hstr'.2
    (g := { method := m, pc := pc + 4, locals := ls, stack := .ref T.heap.size :: .ref T.heap.size :: rest, locked := none }) rfl d4' _ hsteps
/-- 'throw new E("text")', the text by a wide index -/
theorem vx_throwSW {cc : ByteArray} {pc : Nat} (hexec : p.tables.exec = Jvm.exec) (hb : c.code = cc) (hl : l.stackTraces = false) {own cls text : String} {names : List String} {ik is ic mc ms sa : Nat} {A : Nat → Prop}
    (hown : s.vm.findClass own = some m.cls) (hcls : Bundle.fit cls = true) (hnames : ∀ n ∈ names, Bundle.fit n = true)
    (hk : (Cond.classLink own ik cls).before args s = true) (hini : (Cond.initialized cls).before args s = true) (hstr : vk_R own is text sa s) (hat : ∀ w ∈ vx_atS own ic cls names, w.before args s = true)
    (hgood : ∀ w ∈ Cond.classLink own ik cls :: Cond.initialized cls :: vx_atS own ic cls names, vx_ot w = true)
    (hU : vx_Zq Bundle.tN "UNASSIGNED_STACK" Bundle.steD A s s.heap) (hN : vx_Zq Bundle.tN "SUPPRESSED_SENTINEL" Bundle.listD A s s.heap) (hS : va_S A s.heap H locs) (hsize : ls.size = c.maxLocals)
    (d0 : decode cc pc = .ok (.new ik, 3)) (d3 : decode cc (pc + 3) = .ok (.dup, 1)) (d4 : decode cc (pc + 4) = .ok (.ldc_w is, 3)) (d7 : decode cc (pc + 7) = .ok (.invokespecial ic, 3)) (d10 : decode cc (pc + 10) = .ok (.athrow, 1))
    (hout : ∀ x ∈ c.exceptionTable.toList, covers x (pc + 10) = false)
    (hRframes : names.length + 3 < R.frames) (hRlocals : (rest.map fun v => v.category).sum + (13 * (names.length + 1) + 43) ≤ R.locals) (hRcells : cells + 1 ≤ R.cells) (hRslots : slots + 6 ≤ R.slots) (hlocks : meth.locks = false)
    (hx : ∀ t : State, s.vm.Alike t.vm → H.size ≤ t.heap.size → (∀ q : Nat, q < H.size → t.heap[q]? = H[q]?) → XC cls s t)
    (hf : ∀ z ∈ locs, free z.base) (hc : cells + 1 ≤ mc) (hs : slots + 6 ≤ ms) :
    W p l e R s m args below meth c H locs cells slots (vx_MQ below Qc XC args s mc ms free) (F0 m pc ls rest) := by
  intro T hT X
  have htr : e.platform.stackTraces = false := (show e.platform.stackTraces = l.stackTraces by rw [X.admits.platform]).trans hl
  have Y := vx_rebase X (R' := { frames := R.frames, locals := R.locals, cells := 1, slots := 6 }) (Nat.le_refl _) (Nat.le_refl _) hRcells hRslots
  obtain ⟨s', hA⟩ : ∃ z, z = (T.setVm s.vm).setFrames (.invoking m args :: below) := ⟨_, rfl⟩
  rw [← hA] at Y
  have hvm : s'.vm = s.vm := by rw [hA]; rfl
  have hhp : s'.heap = H := by rw [hA]; exact hT
  have hW0 : s.WarmedH s'.vm := by rw [hvm]; exact State.WarmedH.refl s
  have hat' : ∀ w ∈ vx_atS own ic cls names, w.before args s' = true := fun w hw => vx_ot_at hW0 hvm.symm (hgood w (List.mem_cons_of_mem _ (List.mem_cons_of_mem _ hw))) (hat w hw)
  have hk' : (Cond.classLink own ik cls).before args s' = true := vx_ot_at hW0 hvm.symm (hgood _ List.mem_cons_self) hk
  have hini' : (Cond.initialized cls).before args s' = true := vx_ot_at hW0 hvm.symm (hgood _ (List.mem_cons_of_mem _ List.mem_cons_self)) hini
  have hU' : vx_Zq Bundle.tN "UNASSIGNED_STACK" Bundle.steD A s' s'.heap := by rw [hhp]; exact vx_Zq.moved hW0.alike (hU.kept hS.2.1)
  have hN' : vx_Zq Bundle.tN "SUPPRESSED_SENTINEL" Bundle.listD A s' s'.heap := by rw [hhp]; exact vx_Zq.moved hW0.alike (hN.kept hS.2.1)
  have h : ∀ w ∈ Bundle.ownAtoms own ic cls names, w.before args s' = true := vx_own hat' (vx_isRefq hU'.1) (vx_isRefq hN'.1) hU'.2.word hN'.2.word
  have hown' : s'.vm.findClass own = some m.cls := by rw [hvm]; exact hown
  have hins : (Cond.instantiable cls 6).before args s' = true := h _ (by simp [Bundle.ownAtoms])
  obtain ⟨vm₁, cX, kX, hfX, hkX, -, -, X₁, st1⟩ := Y.newCold hexec (own := own) (C := cls) (index := ik) (n := 6) hown' hk' hins hini'
    (g := F0 m pc ls rest) rfl (by rw [hb]; exact d0) (Nat.le_refl _) (Nat.le_refl _)
  generalize hT1 : (T.setVm vm₁).pushCell { cls := cX, slots := kX.instanceTypes.map defaultValue, vm := .none } = T1 at X₁ st1
  have hcat : (Value.ref T.heap.size).category = 1 := rfl
  have hcellA : T1.heap[T.heap.size]? = some (freshCell cX kX) := by rw [← hT1]; exact State.heap_pushCell_size _ _
  have d3' : decode c.code (pc + 3) = .ok (.dup, 1) := by rw [hb]; exact d3
  have d4' : decode c.code (pc + 4) = .ok (.ldc_w is, 3) := by rw [hb]; exact d4
  have hstr' : vk_R own is text sa s' := vk_R.warm hW0 hstr
  obtain ⟨U, hsteps, hrun, hend, hW, hsame, ce, hce, hO⟩ := X₁.ctorThrowS hexec htr (own := own) (cls := cls) (names := names) (ic := ic) hown' hcls hnames h (fun x hx => nomatch hx) hfX hkX hcellA (by rw [hhp, hT]; exact Nat.le_refl _) (msg := .ref sa) rfl
    (g := { method := m, pc := pc + 7, locals := ls, stack := .ref sa :: .ref T.heap.size :: .ref T.heap.size :: rest, locked := none }) rfl hsize rfl rfl (rest := rest) rfl
    (by rw [hb]; exact d7) (by rw [hb]; exact d10) hout hRframes (by simp only [List.map_cons, List.sum_cons, hcat]; omega) hlocks
  obtain ⟨f1, f2⟩ := vx_frame hsame
  rw [hhp] at f1 f2
  have hWs : s.WarmedH U.vm := State.WarmedH.trans hW0 hW
  have hcl : s.vm.findClass cls = some ce.cls := by
    have h9 := hO.cls
    rw [hvm] at h9
    exact h9
  have hall : s.sameButNew ({ U with vm := s.vm } : State) locs mc ms := by
    subst hA
    obtain ⟨e1, e2⟩ := hsame
    rw [State.setFrames_setFrames] at e1
    have h2 : (T.setVm s.vm).sameButNew ({ U with vm := s.vm } : State) [] (0 + 1) (0 + 6) := ⟨e1, e2⟩
    have h3 := X.same.trans h2
    rw [List.append_nil] at h3
    exact h3.mono hc hs
  refine ⟨U, ?_, .threw T.heap.size, hrun, hend, Or.inr ⟨T.heap.size, rfl, cls, ce, locs, hx U hWs.alike f1 (fun q hq => f2 q hq (fun z hz => nomatch hz)), hce, hO.vm, hcl, hWs, hall, hf⟩⟩
  refine st1 _ ?_
  show Steps p.tables e below (T1.setTop { method := m, pc := pc + 3, locals := ls, stack := .ref T.heap.size :: rest, locked := none }) _
  jvm_step X₁.here [X₁.here.top, hexec, d3', Value.category]
  exact X₁.ldcStringW hexec (own := own) (text := text) (index := is) (a := sa) hown' hstr'.1 hstr'.2
    (g := { method := m, pc := pc + 4, locals := ls, stack := .ref T.heap.size :: .ref T.heap.size :: rest, locked := none }) rfl d4' _ hsteps
end Ends
section Bodies
variable {l : Launch}
theorem vx_ofW {y : MethodName} {ws ws' : List Cond} {rm : Room} {Pc : Array Value → State → Prop} {Qc : Array Value → State → Outcome → State → Prop} {XC : String → State → State → Prop} {mc ms : Nat} {free : Addr → Prop} {cc : ByteArray} {maxL : Nat} {ret : Option FieldType}
    (hy : plainName y.cls = true) (hw : ws = Cond.code y cc maxL ret :: ws')
    (body : ∀ p e s m args below meth c s₁, BodyLoose p l y (headSpec ws rm) cc maxL ret e s m args below meth c s₁ → c.maxLocals = maxL → (∀ x ∈ c.exceptionTable.toList, False) → Pc args s →
      W p l e (headSpec ws rm).room s m args below meth c s.heap [] 0 0 (vx_MQ below Qc XC args s mc ms free) (entryFrame m args maxL)) : vx_Met l y ws rm Pc Qc XC mc ms free := by
  refine MetFree.of_bodyS (code := cc) (maxLocals := maxL) (ret := ret) hy ?_ ?_
  · intro args s m h hn
    obtain ⟨meth, c, h1, h2, h3, h4, h5, h6, -, -⟩ := Cond.code_spec hn (atoms_spec (ws := ws) h _ (by rw [hw]; exact List.mem_cons_self))
    exact ⟨meth, c, h1, h2, h3, h4, h5, h6⟩
  · intro p e s m args below meth c s₁ B hml hP _
    have hh0 : s₁.heap = s.heap := by rw [B.state]; rfl
    have ht : ∀ x ∈ c.exceptionTable.toList, False := by
      obtain ⟨meth9, c9, h1, h2, -, -, -, -, h7, -⟩ := Cond.code_spec B.named (atoms_spec (ws := ws) B.pre _ (by rw [hw]; exact List.mem_cons_self))
      cases Option.some.inj (h1.symm.trans B.method)
      cases Option.some.inj (h2.symm.trans (Stand.of_body B).code)
      intro x hx
      rw [Array.isEmpty_iff.mp h7] at hx
      cases hx
    obtain ⟨t, a1, o, b1, b2, b3⟩ := body p e s m args below meth c s₁ B hml ht hP s₁ hh0 (Stand.of_body B)
    exact ⟨t, o, a1, b1, b2, b3⟩
/-- the table of a body with handlers -/
theorem vx_table {p : Program} {x y : MethodName} {S : Spec} {cc bytes : ByteArray} {maxL maxL' : Nat} {ret ret' : Option FieldType} {e : Env} {s s₁ : State} {m : MethodId} {args : Array Value} {below : List Frame} {meth : Method} {c : Code} {hh : List (Nat × Nat × Nat × Nat)}
    (B : BodyLoose p l y S cc maxL ret e s m args below meth c s₁) (h : (Cond.codeWith y bytes maxL' ret' hh).before args s = true) : c.exceptionTable.toList = tableOf hh := by
  obtain ⟨m9, meth9, c9, hn9, h1, h2, -, -, h6, -⟩ := Cond.codeWith_spec h
  cases Option.some.inj (hn9.symm.trans B.named)
  cases Option.some.inj (h1.symm.trans B.method)
  cases Option.some.inj (h2.symm.trans (Stand.of_body B).code)
  rw [← h6, table_eq]
end Bodies
end VXA
/-! ===== END ===== -/
/-! ===== BEGIN a static call of a method with an exception table ===== -/
section VXS
variable {p : Program} {l : Launch} {e : Env} {R : Room} {s : State} {m : MethodId} {args : Array Value} {below : List Frame} {meth : Method} {c : Code} {T : State} {H : Heap} {locs : List Loc} {cells slots : Nat}
abbrev vx_CSW (R : Room) (s : State) (args : Array Value) (own : String) (index : Nat) (y : MethodName) (bytes : ByteArray) (maxL : Nat) (ret : Option FieldType) (hh : List (Nat × Nat × Nat × Nat)) (ws : List Cond) (rm : Room) (mc ms n : Nat) : Prop :=
  (rm.cells = mc ∧ rm.slots = ms ∧ rm.frames + 1 ≤ R.frames ∧ 8 + (maxL + 11) + rm.locals ≤ R.locals ∧ (∀ w ∈ ws, ∀ (a' : Array Value) (U : State), s.WarmedH U.vm → w.before a' U = true) ∧ Cond.codeWith y bytes maxL ret hh ∈ ws) ∧
  (Cond.codeWith y bytes maxL ret hh).before args s = true ∧ (Cond.initialized y.cls).before args s = true ∧ (y.cls ≠ "java/lang/invoke/MethodHandle" ∧ y.cls ≠ "java/lang/invoke/VarHandle") ∧
  (∀ sig, parseMethodDescriptor y.desc = some sig → n = sig.parameters.length) ∧ (Cond.methodLink own index y).before args s = true ∧ (Cond.static y).before args s = true
theorem vx_cwSW {own : String} {index maxL mc ms : Nat} {y : MethodName} {bytes : ByteArray} {ret : Option FieldType} {hh : List (Nat × Nat × Nat × Nat)} {Ts ws ws' : List Cond} {rm : Room} (n : Nat) (ht : ∀ w ∈ Ts, w.before args s = true) (hT : GoodIn Ts (va_wsS own index y ws)) (hw : ws = Cond.codeWith y bytes maxL ret hh :: ws') (hrc : rm.cells = mc) (hrs : rm.slots = ms)
    (hd : y.cls ≠ "java/lang/invoke/MethodHandle" ∧ y.cls ≠ "java/lang/invoke/VarHandle" ∧ (parseMethodDescriptor y.desc).map (fun d => d.parameters.length) = some n) (hR : rm.frames + 1 ≤ R.frames ∧ 8 + (maxL + 11) + rm.locals ≤ R.locals) :
    vx_CSW R s args own index y bytes maxL ret hh ws rm mc ms n := by
  have ok : ∀ w ∈ va_wsS own index y ws, w.before args s = true := fun w h => ht w (hT w h).1
  have hG : GoodIn Ts ws := fun w h => hT w (by unfold va_wsS; exact List.mem_append_right _ h)
  have hc : Cond.codeWith y bytes maxL ret hh ∈ ws := by rw [hw]; exact List.mem_cons_self
  refine ⟨⟨hrc, hrs, hR.1, hR.2, pay_in ht hG, hc⟩, ht _ (hG _ hc).1, ok _ (by simp [va_wsS]), ⟨hd.1, hd.2.1⟩, fun sig h => ?_, ok _ (by simp [va_wsS]), ok _ (by simp [va_wsS])⟩
  have h2 := hd.2.2
  rw [h] at h2
  exact (Option.some.inj h2).symm
theorem vx_callSW (X : Stand p l e R s m args below meth c T locs cells slots) (hexec : p.tables.exec = Jvm.exec) {own : String} {index : Nat} {y : MethodName} {bytes : ByteArray} {maxL : Nat} {ret : Option FieldType} {hh : List (Nat × Nat × Nat × Nat)}
    (hown : s.vm.findClass own = some m.cls) (hlink : (Cond.methodLink own index y).before args s = true) (hstat : (Cond.static y).before args s = true) (hinit : (Cond.initialized y.cls).before args s = true)
    (hcode : (Cond.codeWith y bytes maxL ret hh).before args s = true) (hy : y.cls ≠ "java/lang/invoke/MethodHandle" ∧ y.cls ≠ "java/lang/invoke/VarHandle")
    {W9 : Nat} {Pre : Pt → Array Value → Prop} {Post : Pt → Array Value → Option Value → Pt → Prop} (hK : Back l R p e below s args y 3 W9 Pre Post)
    {g : JFrame} (hg : g.method = m) (hsize : g.locals.size = c.maxLocals) {argsL rest : List Value} (hlen : ∀ sig, parseMethodDescriptor y.desc = some sig → argsL.length = sig.parameters.length)
    (hstack : g.stack = argsL.reverse ++ rest) (hW : 2 * g.monitorRoom + (rest.map fun v => v.category).sum ≤ W9) (hdg : decode c.code g.pc = .ok (.invokestatic index, 3))
    (hpre : ∀ vm₁, s.WarmedH vm₁ → Pre ⟨T.setVm vm₁, locs, cells, slots⟩ argsL.toArray) :
    ∃ (v : Option Value) (vm₁ : Vm) (B : Pt), s.WarmedH vm₁ ∧ Stand p l e R s m args below meth c B.U B.locs B.cells B.slots ∧ Post ⟨T.setVm vm₁, locs, cells, slots⟩ argsL.toArray v B ∧
      ∀ target, Steps p.tables e below (B.U.setTop { g with pc := g.pc + 3, stack := v.toList ++ rest }) target → Steps p.tables e below (T.setTop g) target := by
  obtain ⟨mk, methM, cM, hnamed, hmethM, -, -, -, -, -, -, hsigM⟩ := Cond.codeWith_spec hcode
  have hstatic : methM.isStatic = true := Cond.static_spec hnamed hmethM hstat
  obtain ⟨kP, hkP, -⟩ := className_of_methodNamed hnamed
  have hinitP : kP.init = .initialized := Cond.initialized_spec (findClass_of_methodNamed hnamed) hkP hinit
  obtain ⟨vm₁, X₁, hstep₁⟩ := X.invokestatic hexec hown hlink hnamed hmethM hstatic hkP hinitP hy (g := g) hg (argsL := argsL) (rest := rest) (hlen _ hsigM) hstack hdg
  obtain ⟨v, B, X', hpost, hsteps⟩ := hK m meth c ⟨T.setVm vm₁, locs, cells, slots⟩ { g with stack := rest } (.invokestatic index) mk argsL.toArray X₁ hg hsize hdg hW (X₁.named hnamed) (hpre vm₁ X₁.warmed)
  exact ⟨v, vm₁, B, X₁.warmed, X', hpost, fun target h => hstep₁ _ fun acts => by rw [doInvoke_state]; exact hsteps.trans h⟩
theorem vx_runSW {y : MethodName} {bytes cc : ByteArray} {maxL nL mc ms n index : Nat} {ret : Option FieldType} {hh : List (Nat × Nat × Nat × Nat)} {ws : List Cond} {rm : Room} {Pc : Array Value → State → Prop} {Qc : Array Value → State → Outcome → State → Prop} {free : Addr → Prop} {Ts : List Cond} {own : String} {As rest : List Value} {g : JFrame}
    (S : CallFix p m c cc nL s args Ts own) (hM : Met l y ws rm Pc Qc mc ms free) (cw : vx_CSW R s args own index y bytes maxL ret hh ws rm mc ms n) (hp : PreS s H Pc As)
    (hg : g.method = m) (hn : As.length = n) (hsize : g.locals.size = nL) (hstack : g.stack = As.reverse ++ rest) (hW : 2 * g.monitorRoom + (rest.map fun v => v.category).sum ≤ 8) (hdg : decode cc g.pc = .ok (.invokestatic index, 3)) (hf : cells + mc ≤ R.cells ∧ slots + ms ≤ R.slots) :
    va_Run p l e R s m args below meth c H locs cells slots mc ms g rest (Qc As.toArray) (free) := by
  obtain ⟨⟨hrc, hrs, hfr, hlo, hws, hcw⟩, hcode, hini, hy, hlen, hl, hstt⟩ := cw
  have hK : Back l R p e below s args y 3 8 (PreOf R mc ms Pc) (PostOf Qc mc ms free) := va_backW (hh := hh) (bytes := bytes) (maxL := maxL) (ret := ret) hM hp.1 hrc hrs hfr hlo hws hcw (fun a' U hW => word_at hW (Or.inl (by first | rfl | simp [Cond.onTables, Cond.keeps, Cond.steady])) hini)
  obtain ⟨hx, hb, hml, ho, -⟩ := S
  intro T hT X
  obtain ⟨v, vm₁, ⟨U', l2, c2, s2⟩, hW₁, X', ⟨g', mk, t, L, e1, e2, hq, h1, hL, h2, h3⟩, st⟩ := vx_callSW X hx (hh := hh) (bytes := bytes) (maxL := maxL) (ret := ret) ho hl hstt hini hcode hy hK hg (hsize.trans hml.symm) (argsL := As) (rest := rest) (fun sig h => hn.trans (hlen sig h)) hstack hW (by rw [hb]; exact hdg)
    (fun vm₁ hW₁ => ⟨hf.1, hf.2, hp.2 (T.setVm vm₁) hT hW₁⟩)
  dsimp only [Pt.U, Pt.locs, Pt.cells, Pt.slots] at X' e1 e2 h1 h2 h3 st
  subst h1; subst h2; subst h3
  exact ⟨v, (T.setVm vm₁).calling g' mk As.toArray, t, U', L, hT, X', hL, e1, e2, hq, st⟩
/-- a thing of a world lies in the heap -/
theorem vx_lt {D : va_G} {cl : List vw_C} {ws : va_W} {H1 : Heap} (h : va_P D cl ws H1) {k : Nat} {q : Nat × va_E} (hk : ws[k]? = some q) : q.1 < H1.size := (h k q hk).lt
end VXS
/-! ===== END ===== -/
/-! ===== BEGIN methods with a table of their own: called by a name, returning or throwing ===== -/
section VXH
/-! vx_backW, vx_callVX, vx_callSX, vx_callVW, vx_runVW, vx_runVX, vx_runSX, vx_ofWH follow the same proofs as their sisters above (Free/Laws.lean, Shelf42/LK1.lean); vx_outP calls Shelf42/NT130.lean (outThrough). -/
section
variable {l : Launch} {R : Room} {p : Program} {e : Env} {below : List Frame} {s : State} {sargs : Array Value} {y : MethodName} {len W9 : Nat}
theorem vx_backW {ws : List Cond} {rm : Room} {Pc : Array Value → State → Prop} {Qc : Array Value → State → Outcome → State → Prop} {XC : String → State → State → Prop} {mc ms : Nat} {free : Addr → Prop} {bytes : ByteArray} {maxL : Nat} {ret : Option FieldType} {hh : List (Nat × Nat × Nat × Nat)}
    (hM : vx_Met l y ws rm Pc Qc XC mc ms free) (hblind : FrameBlind Pc) (hrc : rm.cells = mc) (hrs : rm.slots = ms)
    (hframes : rm.frames + 1 ≤ R.frames) (hlocals : W9 + (maxL + 11) + rm.locals ≤ R.locals)
    (hws : ∀ w ∈ ws, ∀ a' U, s.WarmedH U.vm → w.before a' U = true) (hcode : Cond.codeWith y bytes maxL ret hh ∈ ws) (hinit : ∀ a' U, s.WarmedH U.vm → (Cond.initialized y.cls).before a' U = true) :
    vx_Back l R p e below s sargs y len W9 (PreOf R mc ms Pc) (PostOf Qc mc ms free) (vx_Post XC mc ms free) := by
  intro m meth c A g ig mk a X hg hsize hdg hW hn hp
  have h1 : (headSpec ws rm).pre.before a A.U = true := atoms_intro fun w hw => hws w hw _ _ X.warmed
  have h2 : (Cond.codeWith y bytes maxL ret hh).before a A.U = true := hws _ hcode _ _ X.warmed
  have h3 : (Cond.initialized y.cls).before a A.U = true := hinit _ _ X.warmed
  have h4 : A.cells + (headSpec ws rm).room.cells ≤ R.cells := by rw [show (headSpec ws rm).room.cells = mc from hrc]; exact hp.1
  have h5 : A.slots + (headSpec ws rm).room.slots ≤ R.slots := by rw [show (headSpec ws rm).room.slots = ms from hrs]; exact hp.2.1
  have hPc : Pc a (A.U.calling g mk a) := hblind _ _ _ _ hp.2.2
  obtain ⟨U, Ls, c0, s0⟩ := A
  dsimp only [Pt.U, Pt.locs, Pt.cells, Pt.slots] at h1 h2 h3 h4 h5 X hn hPc ⊢
  obtain ⟨m9, methY, cY, hn9, hmY, hcY, -, hlY, -⟩ := Cond.codeWith_spec h2
  cases Option.some.inj (hn9.symm.trans hn)
  obtain ⟨kY, hkY, -⟩ := className_of_methodNamed hn
  have hinitY : kY.init = .initialized := Cond.initialized_spec (findClass_of_methodNamed hn) hkY h3
  have h : At U g.method c below := by rw [hg]; exact X.here
  have hlocals9 : W9 + (maxL + 11) + (headSpec ws rm).room.locals ≤ R.locals := hlocals
  have happ : (headSpec ws rm).appliesLoose y e.platform (U.calling g mk a) = true :=
    Spec.appliesLoose_calling (g := g) h hdg hn hkY hinitY
      (X.room_calling (g := g) (R' := (headSpec ws rm).room) hsize hmY hcY hframes (by rw [hlY]; omega) h4 h5) h1
  obtain ⟨mid, hmid⟩ := h.above
  have hfr : (U.setTop g).frames = (.java g :: mid) ++ below := by rw [State.frames_setTop' g h.top, hmid]; rfl
  obtain ⟨o, s₂, hsteps, -, hend, hq⟩ := Steps.callFree hM p X.admits X.cas X.clock (acts := []) hfr happ hPc trivial
  have hq' : vx_Q Qc XC mc ms free a (U.calling g mk a) o s₂ := hq
  rw [State.frames_setTop' g h.top] at hend
  obtain ⟨g₀, hg0⟩ := Option.isSome_iff_exists.mp h.top
  obtain ⟨r, hr⟩ := State.topJava?_eq_some.mp hg0
  have hr' : (({ U with heap := s₂.heap, slotsUsed := s₂.slotsUsed } : State).setVm s₂.vm).frames = .java g₀ :: r := hr
  rcases hq' with ⟨hqc, L, hfe, hL⟩ | ⟨q, rfl, E, ce, L, hx, hce, hcv, hcl, hW₂, hsm, hL⟩
  · obtain ⟨⟨v, rfl⟩, hW₂, e2, q2, q3, q4, q5, q6⟩ := id hfe
    have e3 : s₂ = ({ (U.calling g mk a).setFrames s₂.frames with heap := s₂.heap, slotsUsed := s₂.slotsUsed } : State).setVm s₂.vm := by
      have : s₂ = ({ s₂ with vm := (U.calling g mk a).vm } : State).setVm s₂.vm := rfl
      rw [e2] at this
      exact this
    obtain ⟨c₂, i₂, len₂, hc₂, hd₂, hf₂⟩ := hend
    have hW' : U.WarmedH s₂.vm := hW₂
    have hcc : c₂ = c := by
      have h1 : s₂.code? g.method = U.code? g.method := by
        rw [State.code?_eq, State.code?_eq, hW'.alike.method?]
      exact Option.some.inj (hc₂.symm.trans (h1.trans h.code))
    subst hcc
    have hlen : len₂ = len := by rw [hdg] at hd₂; cases hd₂; rfl
    subst hlen
    have hs₂ : s₂ = (({ U with heap := s₂.heap, slotsUsed := s₂.slotsUsed } : State).setVm s₂.vm).setTop { g with pc := g.pc + len₂, stack := v.toList ++ g.stack } := by
      refine e3.trans ?_
      rw [hf₂, State.calling_eq h.top, State.setFrames_setFrames, State.setTop_of_frames _ hr', hr]
      rfl
    have hsame : U.sameButNew ({ U with heap := s₂.heap, slotsUsed := s₂.slotsUsed } : State) L mc ms := by
      refine ⟨?_, q2, q3, q4, q5, q6⟩
      obtain ⟨t, ht, -⟩ := State.frames_cons hr
      show ({ U with heap := s₂.heap, slotsUsed := s₂.slotsUsed } : State) = { U.setFrames U.frames with heap := s₂.heap, slotsUsed := s₂.slotsUsed }
      rw [State.setFrames_self ht]
    subst hg
    refine Or.inl ⟨v, ⟨(({ U with heap := s₂.heap, slotsUsed := s₂.slotsUsed } : State).setVm s₂.vm), Ls ++ L, c0 + mc, s0 + ms⟩,
      ⟨X.admits, X.cas, X.clock, X.frames, X.room, X.hears, X.method, X.code, (X.here.setHeapUsed s₂.heap s₂.slotsUsed).setVm hW'.alike, X.tail, State.WarmedH.trans X.warmed hW', X.limits, X.bytes, X.same.trans (hsame.setVm s.vm)⟩,
      ⟨g, mk, s₂, L, rfl, rfl, hqc, rfl, hL, rfl, rfl⟩, ?_⟩
    show Steps p.tables e below _ ((({ U with heap := s₂.heap, slotsUsed := s₂.slotsUsed } : State).setVm s₂.vm).setTop { g with pc := g.pc + len₂, stack := v.toList ++ g.stack })
    rw [← hs₂]
    exact hsteps
  · obtain ⟨e2, q2, q3, q4, q5, q6⟩ := id hsm
    have e3 : s₂ = ({ (U.calling g mk a).setFrames s₂.frames with heap := s₂.heap, slotsUsed := s₂.slotsUsed } : State).setVm s₂.vm := by
      have : s₂ = ({ s₂ with vm := (U.calling g mk a).vm } : State).setVm s₂.vm := rfl
      rw [e2] at this
      exact this
    have hf₂ : s₂.frames = .throwing q :: .java g :: U.frames.tail := hend
    have hW' : U.WarmedH s₂.vm := hW₂
    have hs₂ : s₂ = ((({ U with heap := s₂.heap, slotsUsed := s₂.slotsUsed } : State).setVm s₂.vm).setTop g).pushFrame (.throwing q) := by
      refine e3.trans ?_
      rw [hf₂, State.calling_eq h.top, State.setFrames_setFrames, State.pushFrame, State.frames_setTop _ hr', State.setTop_of_frames _ hr', State.setFrames_setFrames, hr]
      rfl
    have hsame : U.sameButNew ({ U with heap := s₂.heap, slotsUsed := s₂.slotsUsed } : State) L mc ms := by
      refine ⟨?_, q2, q3, q4, q5, q6⟩
      obtain ⟨t, ht, -⟩ := State.frames_cons hr
      show ({ U with heap := s₂.heap, slotsUsed := s₂.slotsUsed } : State) = { U.setFrames U.frames with heap := s₂.heap, slotsUsed := s₂.slotsUsed }
      rw [State.setFrames_self ht]
    subst hg
    refine Or.inr ⟨q, ⟨(({ U with heap := s₂.heap, slotsUsed := s₂.slotsUsed } : State).setVm s₂.vm), Ls ++ L, c0 + mc, s0 + ms⟩,
      ⟨X.admits, X.cas, X.clock, X.frames, X.room, X.hears, X.method, X.code, (X.here.setHeapUsed s₂.heap s₂.slotsUsed).setVm hW'.alike, X.tail, State.WarmedH.trans X.warmed hW', X.limits, X.bytes, X.same.trans (hsame.setVm s.vm)⟩,
      ⟨g, mk, s₂, L, E, ce, rfl, rfl, hx, hce, hcv, hcl, rfl, hL, rfl, rfl⟩, ?_⟩
    show Steps p.tables e below _ (((({ U with heap := s₂.heap, slotsUsed := s₂.slotsUsed } : State).setVm s₂.vm).setTop g).pushFrame (.throwing q))
    rw [← hs₂]
    exact hsteps
end
variable {p : Program} {l : Launch} {e : Env} {R : Room} {s : State} {m : MethodId} {args : Array Value} {below : List Frame} {meth : Method} {c : Code} {T : State} {H : Heap} {locs : List Loc} {cells slots : Nat}
theorem vx_callVX (X : Stand p l e R s m args below meth c T locs cells slots) (hexec : p.tables.exec = Jvm.exec) {own C : String} {index : Nat} {y : MethodName} {bytes : ByteArray} {maxL : Nat} {ret : Option FieldType} {hh : List (Nat × Nat × Nat × Nat)}
    (hown : s.vm.findClass own = some m.cls) (hlink : (Cond.methodLink own index y).before args s = true) (hinst : (Cond.instanceMethod y).before args s = true) (hsel : (Cond.selects C y y).before args s = true)
    (hcode : (Cond.codeWith y bytes maxL ret hh).before args s = true) (hy : y.cls ≠ "java/lang/invoke/MethodHandle" ∧ y.cls ≠ "java/lang/invoke/VarHandle")
    {W9 : Nat} {Pre : Pt → Array Value → Prop} {Post : Pt → Array Value → Option Value → Pt → Prop} {PostX : Pt → Array Value → Addr → Pt → Prop} (hK : vx_Back l R p e below s args y 3 W9 Pre Post PostX)
    {b : Addr} {cellB : Cell} (hcell : T.heap[b]? = some cellB) (hobj : cellB.vm.isStatics = false) (hcls : s.vm.findClass C = some cellB.cls)
    {g : JFrame} (hg : g.method = m) (hsize : g.locals.size = c.maxLocals) {argsL rest : List Value} (hlen : ∀ sig, parseMethodDescriptor y.desc = some sig → argsL.length = sig.parameters.length)
    (hstack : g.stack = argsL.reverse ++ .ref b :: rest) (hW : 2 * g.monitorRoom + (rest.map fun v => v.category).sum ≤ W9) (hdg : decode c.code g.pc = .ok (.invokevirtual index, 3))
    (hpre : ∀ vm₁, s.WarmedH vm₁ → Pre ⟨T.setVm vm₁, locs, cells, slots⟩ (Value.ref b :: argsL).toArray) :
    (∃ (v : Option Value) (vm₁ : Vm) (B : Pt), s.WarmedH vm₁ ∧ Stand p l e R s m args below meth c B.U B.locs B.cells B.slots ∧ Post ⟨T.setVm vm₁, locs, cells, slots⟩ (Value.ref b :: argsL).toArray v B ∧
      ∀ target, Steps p.tables e below (B.U.setTop { g with pc := g.pc + 3, stack := v.toList ++ rest }) target → Steps p.tables e below (T.setTop g) target) ∨
    (∃ (q : Addr) (vm₁ : Vm) (B : Pt), s.WarmedH vm₁ ∧ Stand p l e R s m args below meth c B.U B.locs B.cells B.slots ∧ PostX ⟨T.setVm vm₁, locs, cells, slots⟩ (Value.ref b :: argsL).toArray q B ∧
      Steps p.tables e below (T.setTop g) ((B.U.setTop { g with stack := rest }).pushFrame (.throwing q))) := by
  obtain ⟨mk, methM, hnamed, hmethM, hstM, habM⟩ := Cond.instanceMethod_spec hinst
  obtain ⟨m8, methM', cM, hn8, hmethM', -, -, -, -, -, -, hsigM⟩ := Cond.codeWith_spec hcode
  cases Option.some.inj (hn8.symm.trans hnamed)
  cases hmethM.symm.trans hmethM'
  obtain ⟨c2, r2, m2, q1, q2, q3, q4, kP, hkP, hkPi⟩ := Cond.selects_spec hsel
  cases hcls.symm.trans q1
  cases (State.methodFound?_of_named hnamed hy).symm.trans q2
  cases hnamed.symm.trans q3
  have hselP : selectMethod e.platform s.vm cellB.cls mk = .method mk := by rw [Launch.admits_selectMethod X.admits]; exact q4
  obtain ⟨vm₁, X₁, hstep₁⟩ := X.invokevirtual hexec hown hlink hnamed hmethM hstM hkP hkPi hy (a := b) (cell := cellB) hcell
    (fun z h => by rw [h] at hobj; cases hobj) hselP hmethM habM hkP hkPi (g := g) hg (argsL := argsL) (rest := rest) (hlen _ hsigM) hstack hdg
  rcases hK m meth c ⟨T.setVm vm₁, locs, cells, slots⟩ { g with stack := rest } (.invokevirtual index) mk (Value.ref b :: argsL).toArray X₁ hg hsize hdg hW (X₁.named hnamed) (hpre vm₁ X₁.warmed) with ⟨v, B, X', hpost, hsteps⟩ | ⟨q, B, X', hpost, hsteps⟩
  · exact Or.inl ⟨v, vm₁, B, X₁.warmed, X', hpost, fun target h => hstep₁ _ fun acts => by rw [doInvoke_state]; exact hsteps.trans h⟩
  · exact Or.inr ⟨q, vm₁, B, X₁.warmed, X', hpost, hstep₁ _ fun acts => by rw [doInvoke_state]; exact hsteps⟩
theorem vx_callSX (X : Stand p l e R s m args below meth c T locs cells slots) (hexec : p.tables.exec = Jvm.exec) {own : String} {index : Nat} {y : MethodName} {bytes : ByteArray} {maxL : Nat} {ret : Option FieldType} {hh : List (Nat × Nat × Nat × Nat)}
    (hown : s.vm.findClass own = some m.cls) (hlink : (Cond.methodLink own index y).before args s = true) (hstat : (Cond.static y).before args s = true) (hinit : (Cond.initialized y.cls).before args s = true)
    (hcode : (Cond.codeWith y bytes maxL ret hh).before args s = true) (hy : y.cls ≠ "java/lang/invoke/MethodHandle" ∧ y.cls ≠ "java/lang/invoke/VarHandle")
    {W9 : Nat} {Pre : Pt → Array Value → Prop} {Post : Pt → Array Value → Option Value → Pt → Prop} {PostX : Pt → Array Value → Addr → Pt → Prop} (hK : vx_Back l R p e below s args y 3 W9 Pre Post PostX)
    {g : JFrame} (hg : g.method = m) (hsize : g.locals.size = c.maxLocals) {argsL rest : List Value} (hlen : ∀ sig, parseMethodDescriptor y.desc = some sig → argsL.length = sig.parameters.length)
    (hstack : g.stack = argsL.reverse ++ rest) (hW : 2 * g.monitorRoom + (rest.map fun v => v.category).sum ≤ W9) (hdg : decode c.code g.pc = .ok (.invokestatic index, 3))
    (hpre : ∀ vm₁, s.WarmedH vm₁ → Pre ⟨T.setVm vm₁, locs, cells, slots⟩ argsL.toArray) :
    (∃ (v : Option Value) (vm₁ : Vm) (B : Pt), s.WarmedH vm₁ ∧ Stand p l e R s m args below meth c B.U B.locs B.cells B.slots ∧ Post ⟨T.setVm vm₁, locs, cells, slots⟩ argsL.toArray v B ∧
      ∀ target, Steps p.tables e below (B.U.setTop { g with pc := g.pc + 3, stack := v.toList ++ rest }) target → Steps p.tables e below (T.setTop g) target) ∨
    (∃ (q : Addr) (vm₁ : Vm) (B : Pt), s.WarmedH vm₁ ∧ Stand p l e R s m args below meth c B.U B.locs B.cells B.slots ∧ PostX ⟨T.setVm vm₁, locs, cells, slots⟩ argsL.toArray q B ∧
      Steps p.tables e below (T.setTop g) ((B.U.setTop { g with stack := rest }).pushFrame (.throwing q))) := by
  obtain ⟨mk, methM, cM, hnamed, hmethM, -, -, -, -, -, -, hsigM⟩ := Cond.codeWith_spec hcode
  have hstatic : methM.isStatic = true := Cond.static_spec hnamed hmethM hstat
  obtain ⟨kP, hkP, -⟩ := className_of_methodNamed hnamed
  have hinitP : kP.init = .initialized := Cond.initialized_spec (findClass_of_methodNamed hnamed) hkP hinit
  obtain ⟨vm₁, X₁, hstep₁⟩ := X.invokestatic hexec hown hlink hnamed hmethM hstatic hkP hinitP hy (g := g) hg (argsL := argsL) (rest := rest) (hlen _ hsigM) hstack hdg
  rcases hK m meth c ⟨T.setVm vm₁, locs, cells, slots⟩ { g with stack := rest } (.invokestatic index) mk argsL.toArray X₁ hg hsize hdg hW (X₁.named hnamed) (hpre vm₁ X₁.warmed) with ⟨v, B, X', hpost, hsteps⟩ | ⟨q, B, X', hpost, hsteps⟩
  · exact Or.inl ⟨v, vm₁, B, X₁.warmed, X', hpost, fun target h => hstep₁ _ fun acts => by rw [doInvoke_state]; exact hsteps.trans h⟩
  · exact Or.inr ⟨q, vm₁, B, X₁.warmed, X', hpost, hstep₁ _ fun acts => by rw [doInvoke_state]; exact hsteps⟩
theorem vx_callVW (X : Stand p l e R s m args below meth c T locs cells slots) (hexec : p.tables.exec = Jvm.exec) {own C : String} {index : Nat} {y : MethodName} {bytes : ByteArray} {maxL : Nat} {ret : Option FieldType} {hh : List (Nat × Nat × Nat × Nat)}
    (hown : s.vm.findClass own = some m.cls) (hlink : (Cond.methodLink own index y).before args s = true) (hinst : (Cond.instanceMethod y).before args s = true) (hsel : (Cond.selects C y y).before args s = true)
    (hcode : (Cond.codeWith y bytes maxL ret hh).before args s = true) (hy : y.cls ≠ "java/lang/invoke/MethodHandle" ∧ y.cls ≠ "java/lang/invoke/VarHandle")
    {W9 : Nat} {Pre : Pt → Array Value → Prop} {Post : Pt → Array Value → Option Value → Pt → Prop} (hK : Back l R p e below s args y 3 W9 Pre Post)
    {b : Addr} {cellB : Cell} (hcell : T.heap[b]? = some cellB) (hobj : cellB.vm.isStatics = false) (hcls : s.vm.findClass C = some cellB.cls)
    {g : JFrame} (hg : g.method = m) (hsize : g.locals.size = c.maxLocals) {argsL rest : List Value} (hlen : ∀ sig, parseMethodDescriptor y.desc = some sig → argsL.length = sig.parameters.length)
    (hstack : g.stack = argsL.reverse ++ .ref b :: rest) (hW : 2 * g.monitorRoom + (rest.map fun v => v.category).sum ≤ W9) (hdg : decode c.code g.pc = .ok (.invokevirtual index, 3))
    (hpre : ∀ vm₁, s.WarmedH vm₁ → Pre ⟨T.setVm vm₁, locs, cells, slots⟩ (Value.ref b :: argsL).toArray) :
    ∃ (v : Option Value) (vm₁ : Vm) (B : Pt), s.WarmedH vm₁ ∧ Stand p l e R s m args below meth c B.U B.locs B.cells B.slots ∧ Post ⟨T.setVm vm₁, locs, cells, slots⟩ (Value.ref b :: argsL).toArray v B ∧
      ∀ target, Steps p.tables e below (B.U.setTop { g with pc := g.pc + 3, stack := v.toList ++ rest }) target → Steps p.tables e below (T.setTop g) target := by
  obtain ⟨mk, methM, hnamed, hmethM, hstM, habM⟩ := Cond.instanceMethod_spec hinst
  obtain ⟨m8, methM', cM, hn8, hmethM', -, -, -, -, -, -, hsigM⟩ := Cond.codeWith_spec hcode
  cases Option.some.inj (hn8.symm.trans hnamed)
  cases hmethM.symm.trans hmethM'
  obtain ⟨c2, r2, m2, q1, q2, q3, q4, kP, hkP, hkPi⟩ := Cond.selects_spec hsel
  cases hcls.symm.trans q1
  cases (State.methodFound?_of_named hnamed hy).symm.trans q2
  cases hnamed.symm.trans q3
  have hselP : selectMethod e.platform s.vm cellB.cls mk = .method mk := by rw [Launch.admits_selectMethod X.admits]; exact q4
  obtain ⟨vm₁, X₁, hstep₁⟩ := X.invokevirtual hexec hown hlink hnamed hmethM hstM hkP hkPi hy (a := b) (cell := cellB) hcell
    (fun z h => by rw [h] at hobj; cases hobj) hselP hmethM habM hkP hkPi (g := g) hg (argsL := argsL) (rest := rest) (hlen _ hsigM) hstack hdg
  obtain ⟨v, B, X', hpost, hsteps⟩ := hK m meth c ⟨T.setVm vm₁, locs, cells, slots⟩ { g with stack := rest } (.invokevirtual index) mk (Value.ref b :: argsL).toArray X₁ hg hsize hdg hW (X₁.named hnamed) (hpre vm₁ X₁.warmed)
  exact ⟨v, vm₁, B, X₁.warmed, X', hpost, fun target h => hstep₁ _ fun acts => by rw [doInvoke_state]; exact hsteps.trans h⟩
abbrev vx_CVW (R : Room) (s : State) (args : Array Value) (own C : String) (index : Nat) (y : MethodName) (bytes : ByteArray) (maxL : Nat) (ret : Option FieldType) (hh : List (Nat × Nat × Nat × Nat)) (ws : List Cond) (rm : Room) (mc ms n : Nat) : Prop :=
  (rm.cells = mc ∧ rm.slots = ms ∧ rm.frames + 1 ≤ R.frames ∧ 8 + (maxL + 11) + rm.locals ≤ R.locals ∧ (∀ w ∈ ws, ∀ (a' : Array Value) (U : State), s.WarmedH U.vm → w.before a' U = true) ∧ Cond.codeWith y bytes maxL ret hh ∈ ws) ∧
  (Cond.codeWith y bytes maxL ret hh).before args s = true ∧ (Cond.initialized y.cls).before args s = true ∧ (y.cls ≠ "java/lang/invoke/MethodHandle" ∧ y.cls ≠ "java/lang/invoke/VarHandle") ∧
  (∀ sig, parseMethodDescriptor y.desc = some sig → n = sig.parameters.length) ∧ (Cond.methodLink own index y).before args s = true ∧ (Cond.instanceMethod y).before args s = true ∧ (Cond.selects C y y).before args s = true
theorem vx_cwVW {own C : String} {index maxL mc ms : Nat} {y : MethodName} {bytes : ByteArray} {ret : Option FieldType} {hh : List (Nat × Nat × Nat × Nat)} {Ts ws ws' : List Cond} {rm : Room} (n : Nat) (ht : ∀ w ∈ Ts, w.before args s = true) (hT : GoodIn Ts (wsV own index C y ws)) (hw : ws = Cond.codeWith y bytes maxL ret hh :: ws') (hrc : rm.cells = mc) (hrs : rm.slots = ms)
    (hd : y.cls = C ∧ y.cls ≠ "java/lang/invoke/MethodHandle" ∧ y.cls ≠ "java/lang/invoke/VarHandle" ∧ (parseMethodDescriptor y.desc).map (fun d => d.parameters.length) = some n) (hR : rm.frames + 1 ≤ R.frames ∧ 8 + (maxL + 11) + rm.locals ≤ R.locals) :
    vx_CVW R s args own C index y bytes maxL ret hh ws rm mc ms n := by
  obtain ⟨hC, hd⟩ := hd
  subst hC
  have ok : ∀ w ∈ wsV own index y.cls y ws, w.before args s = true := fun w h => ht w (hT w h).1
  have hG : GoodIn Ts ws := fun w h => hT w (by unfold wsV; exact List.mem_append_right _ h)
  have hc : Cond.codeWith y bytes maxL ret hh ∈ ws := by rw [hw]; exact List.mem_cons_self
  refine ⟨⟨hrc, hrs, hR.1, hR.2, pay_in ht hG, hc⟩, ht _ (hG _ hc).1, ok _ (by simp [wsV]), ⟨hd.1, hd.2.1⟩, fun sig h => ?_, ok _ (by simp [wsV]), ok _ (by simp [wsV]), ok _ (by simp [wsV])⟩
  have h2 := hd.2.2
  rw [h] at h2
  exact (Option.some.inj h2).symm
theorem vx_runVW {y : MethodName} {bytes cc : ByteArray} {maxL nL mc ms n index : Nat} {ret : Option FieldType} {hh : List (Nat × Nat × Nat × Nat)} {ws : List Cond} {rm : Room} {Pc : Array Value → State → Prop} {Qc : Array Value → State → Outcome → State → Prop} {free : Addr → Prop} {Ts : List Cond} {own C : String} {b : Addr} {As rest : List Value} {g : JFrame}
    (S : CallFix p m c cc nL s args Ts own) (hM : Met l y ws rm Pc Qc mc ms free) (cw : vx_CVW R s args own C index y bytes maxL ret hh ws rm mc ms n) (hp : PreV s H C b Pc As)
    (hg : g.method = m) (hn : As.length = n) (hsize : g.locals.size = nL) (hstack : g.stack = As.reverse ++ .ref b :: rest) (hW : 2 * g.monitorRoom + (rest.map fun v => v.category).sum ≤ 8) (hdg : decode cc g.pc = .ok (.invokevirtual index, 3)) (hf : cells + mc ≤ R.cells ∧ slots + ms ≤ R.slots) :
    va_Run p l e R s m args below meth c H locs cells slots mc ms g rest (Qc (Value.ref b :: As).toArray) free := by
  obtain ⟨⟨hrc, hrs, hfr, hlo, hws, hcw⟩, hcode, hini, hy, hlen, hl, hin, hse⟩ := cw
  have hK : Back l R p e below s args y 3 8 (PreOf R mc ms Pc) (PostOf Qc mc ms free) := va_backW (hh := hh) (bytes := bytes) (maxL := maxL) (ret := ret) hM hp.1 hrc hrs hfr hlo hws hcw (fun a' U hW => word_at hW (Or.inl (by first | rfl | simp [Cond.onTables, Cond.keeps, Cond.steady])) hini)
  obtain ⟨hx, hb, hml, ho, -⟩ := S
  obtain ⟨-, ⟨cellB, hcB, hoB, hclB⟩, hPc⟩ := hp
  intro T hT X
  obtain ⟨v, vm₁, ⟨U', l2, c2, s2⟩, hW₁, X', ⟨g', mk, t, L, e1, e2, hq, h1, hL, h2, h3⟩, st⟩ := vx_callVW X hx (C := C) (hh := hh) (bytes := bytes) (maxL := maxL) (ret := ret) ho hl hin hse hcode hy hK (by rw [hT]; exact hcB) hoB hclB hg (hsize.trans hml.symm) (argsL := As) (rest := rest) (fun sig h => hn.trans (hlen sig h)) hstack hW (by rw [hb]; exact hdg)
    (fun vm₁ hW₁ => ⟨hf.1, hf.2, hPc (T.setVm vm₁) hT hW₁⟩)
  dsimp only [Pt.U, Pt.locs, Pt.cells, Pt.slots] at X' e1 e2 h1 h2 h3 st
  subst h1; subst h2; subst h3
  exact ⟨v, (T.setVm vm₁).calling g' mk (Value.ref b :: As).toArray, t, U', L, hT, X', hL, e1, e2, hq, st⟩
section
variable {y : MethodName} {bytes cc : ByteArray} {maxL nL mc ms n index : Nat} {ret : Option FieldType} {ws : List Cond} {rm : Room} {Pc : Array Value → State → Prop} {Qc : Array Value → State → Outcome → State → Prop} {XC : String → State → State → Prop} {free : Addr → Prop} {Ts : List Cond} {own C : String} {b : Addr} {As rest : List Value} {g : JFrame}
theorem vx_runVX {hh : List (Nat × Nat × Nat × Nat)} (S : CallFix p m c cc nL s args Ts own) (hM : vx_Met l y ws rm Pc Qc XC mc ms free) (cw : vx_CVW R s args own C index y bytes maxL ret hh ws rm mc ms n) (hp : PreV s H C b Pc As)
    (hg : g.method = m) (hn : As.length = n) (hsize : g.locals.size = nL) (hstack : g.stack = As.reverse ++ .ref b :: rest) (hW : 2 * g.monitorRoom + (rest.map fun v => v.category).sum ≤ 8) (hdg : decode cc g.pc = .ok (.invokevirtual index, 3)) (hf : cells + mc ≤ R.cells ∧ slots + ms ≤ R.slots) :
    vx_Run p l e R s m args below meth c H locs cells slots mc ms g rest (Qc (Value.ref b :: As).toArray) XC free := by
  obtain ⟨⟨hrc, hrs, hfr, hlo, hws, hcw⟩, hcode, hini, hy, hlen, hl, hin, hse⟩ := cw
  have hK : vx_Back l R p e below s args y 3 8 (PreOf R mc ms Pc) (PostOf Qc mc ms free) (vx_Post XC mc ms free) := vx_backW (hh := hh) (bytes := bytes) (maxL := maxL) (ret := ret) hM hp.1 hrc hrs hfr hlo hws hcw (fun a' U hW => word_at hW (Or.inl (by first | rfl | simp [Cond.onTables, Cond.keeps, Cond.steady])) hini)
  obtain ⟨hx, hb, hml, ho, -⟩ := S
  obtain ⟨-, ⟨cellB, hcB, hoB, hclB⟩, hPc⟩ := hp
  intro T hT X
  rcases vx_callVX X hx (C := C) (hh := hh) (bytes := bytes) (maxL := maxL) (ret := ret) ho hl hin hse hcode hy hK (by rw [hT]; exact hcB) hoB hclB hg (hsize.trans hml.symm) (argsL := As) (rest := rest) (fun sig h => hn.trans (hlen sig h)) hstack hW (by rw [hb]; exact hdg)
    (fun vm₁ hW₁ => ⟨hf.1, hf.2, hPc (T.setVm vm₁) hT hW₁⟩) with ⟨v, vm₁, ⟨U', l2, c2, s2⟩, hW₁, X', ⟨g', mk, t, L, e1, e2, hq, h1, hL, h2, h3⟩, st⟩ | ⟨q, vm₁, ⟨U', l2, c2, s2⟩, hW₁, X', ⟨g', mk, t, L, E, ce, e1, e2, hq, hce, hcv, hcl, h1, hL, h2, h3⟩, st⟩
  · dsimp only [Pt.U, Pt.locs, Pt.cells, Pt.slots] at X' e1 e2 h1 h2 h3 st
    subst h1; subst h2; subst h3
    exact Or.inl ⟨v, (T.setVm vm₁).calling g' mk (Value.ref b :: As).toArray, t, U', L, hT, X', hL, e1, e2, hq, st⟩
  · dsimp only [Pt.U, Pt.locs, Pt.cells, Pt.slots] at X' e1 e2 h1 h2 h3 st hcl
    subst h1; subst h2; subst h3
    exact Or.inr ⟨q, (T.setVm vm₁).calling g' mk (Value.ref b :: As).toArray, t, U', L, E, ce, hT, X', hL, e1, e2, hq, hce, hcv, vx_cls hW₁ hcl, st⟩
theorem vx_runSX {hh : List (Nat × Nat × Nat × Nat)} (S : CallFix p m c cc nL s args Ts own) (hM : vx_Met l y ws rm Pc Qc XC mc ms free) (cw : vx_CSW R s args own index y bytes maxL ret hh ws rm mc ms n) (hp : PreS s H Pc As)
    (hg : g.method = m) (hn : As.length = n) (hsize : g.locals.size = nL) (hstack : g.stack = As.reverse ++ rest) (hW : 2 * g.monitorRoom + (rest.map fun v => v.category).sum ≤ 8) (hdg : decode cc g.pc = .ok (.invokestatic index, 3)) (hf : cells + mc ≤ R.cells ∧ slots + ms ≤ R.slots) :
    vx_Run p l e R s m args below meth c H locs cells slots mc ms g rest (Qc As.toArray) XC free := by
  obtain ⟨⟨hrc, hrs, hfr, hlo, hws, hcw⟩, hcode, hini, hy, hlen, hl, hstt⟩ := cw
  have hK : vx_Back l R p e below s args y 3 8 (PreOf R mc ms Pc) (PostOf Qc mc ms free) (vx_Post XC mc ms free) := vx_backW (hh := hh) (bytes := bytes) (maxL := maxL) (ret := ret) hM hp.1 hrc hrs hfr hlo hws hcw (fun a' U hW => word_at hW (Or.inl (by first | rfl | simp [Cond.onTables, Cond.keeps, Cond.steady])) hini)
  obtain ⟨hx, hb, hml, ho, -⟩ := S
  intro T hT X
  rcases vx_callSX X hx (hh := hh) (bytes := bytes) (maxL := maxL) (ret := ret) ho hl hstt hini hcode hy hK hg (hsize.trans hml.symm) (argsL := As) (rest := rest) (fun sig h => hn.trans (hlen sig h)) hstack hW (by rw [hb]; exact hdg)
    (fun vm₁ hW₁ => ⟨hf.1, hf.2, hp.2 (T.setVm vm₁) hT hW₁⟩) with ⟨v, vm₁, ⟨U', l2, c2, s2⟩, hW₁, X', ⟨g', mk, t, L, e1, e2, hq, h1, hL, h2, h3⟩, st⟩ | ⟨q, vm₁, ⟨U', l2, c2, s2⟩, hW₁, X', ⟨g', mk, t, L, E, ce, e1, e2, hq, hce, hcv, hcl, h1, hL, h2, h3⟩, st⟩
  · dsimp only [Pt.U, Pt.locs, Pt.cells, Pt.slots] at X' e1 e2 h1 h2 h3 st
    subst h1; subst h2; subst h3
    exact Or.inl ⟨v, (T.setVm vm₁).calling g' mk As.toArray, t, U', L, hT, X', hL, e1, e2, hq, st⟩
  · dsimp only [Pt.U, Pt.locs, Pt.cells, Pt.slots] at X' e1 e2 h1 h2 h3 st hcl
    subst h1; subst h2; subst h3
    exact Or.inr ⟨q, (T.setVm vm₁).calling g' mk As.toArray, t, U', L, E, ce, hT, X', hL, e1, e2, hq, hce, hcv, vx_cls hW₁ hcl, st⟩
end
end VXH
theorem vx_ofWH {l : Launch} {y : MethodName} {ws ws' : List Cond} {rm : Room} {Pc : Array Value → State → Prop} {Qc : Array Value → State → Outcome → State → Prop} {XC : String → State → State → Prop} {mc ms : Nat} {free : Addr → Prop} {cc : ByteArray} {maxL : Nat} {ret : Option FieldType} {hh : List (Nat × Nat × Nat × Nat)}
    (hy : plainName y.cls = true) (hw : ws = Cond.codeWith y cc maxL ret hh :: ws')
    (body : ∀ p e s m args below meth c s₁, BodyLoose p l y (headSpec ws rm) cc maxL ret e s m args below meth c s₁ → c.maxLocals = maxL → Pc args s →
      W p l e (headSpec ws rm).room s m args below meth c s.heap [] 0 0 (vx_MQ below Qc XC args s mc ms free) (entryFrame m args maxL)) : vx_Met l y ws rm Pc Qc XC mc ms free := by
  refine MetFree.of_bodyS (code := cc) (maxLocals := maxL) (ret := ret) hy ?_ ?_
  · intro args s m h hn
    obtain ⟨m9, meth, c, hn9, h1, h2, h3, h4, -, h5, h6, -⟩ := Cond.codeWith_spec (atoms_spec (ws := ws) h _ (by rw [hw]; exact List.mem_cons_self))
    cases hn.symm.trans hn9
    exact ⟨meth, c, h1, h2, h3, h4, h5, h6⟩
  · intro p e s m args below meth c s₁ B hml hP _
    have hh0 : s₁.heap = s.heap := by rw [B.state]; rfl
    obtain ⟨t, a1, o, b1, b2, b3⟩ := body p e s m args below meth c s₁ B hml hP s₁ hh0 (Stand.of_body B)
    exact ⟨t, o, a1, b1, b2, b3⟩
/-! ===== END ===== -/
end
section
/-! ===== BEGIN printed: names, fields, word lists, decode rows ===== -/
def RX0 : String := "SwingCircuits$Circuit"
def TX0 : u_T := fun k => match k with
  | 0 => ("SwingCircuits$Circuit", "cells", "I", false)
  | 1 => ("SwingCircuits$Circuit", "low", "[I", true)
  | 2 => ("SwingCircuits$Circuit", "high", "[I", true)
  | 3 => ("SwingCircuits$Circuit", "rise", "[I", true)
  | 4 => ("SwingCircuits$Circuit", "fall", "[I", true)
  | 5 => ("SwingCircuits$Circuit", "links", "I", false)
  | 6 => ("SwingCircuits$Circuit", "from", "[I", true)
  | 7 => ("SwingCircuits$Circuit", "at", "[I", true)
  | 8 => ("SwingCircuits$Circuit", "nth", "[I", true)
  | 9 => ("SwingCircuits$Circuit", "to", "[I", true)
  | 10 => ("SwingCircuits$Circuit", "act", "[I", true)
  | _ => ("SwingCircuits$Circuit", "by", "[I", true)
def tyX0 : Nat → FieldType := fun k => match k with
  | 0 => .int
  | 1 => .array .int
  | 2 => .array .int
  | 3 => .array .int
  | 4 => .array .int
  | 5 => .int
  | 6 => .array .int
  | 7 => .array .int
  | 8 => .array .int
  | 9 => .array .int
  | 10 => .array .int
  | _ => .array .int
abbrev wsX00 : List Cond := u_ws RX0 TX0 12
theorem nmX0 : ∀ a, a < 12 → ∀ b, b < 12 → a ≠ b → (TX0 a).2.1 ≠ (TX0 b).2.1 := by decide +kernel
theorem tyX0_ok : ∀ k, k < 12 → parseFieldDescriptor (TX0 k).2.2.1 = some (tyX0 k) := by decide +kernel
abbrev cX0_init : ByteArray := prog_2_method_1_code
def yX0_init : MethodName := ⟨RX0, "<init>", "()V"⟩
abbrev cX0_ratesOf : ByteArray := prog_2_method_2_code
def yX0_ratesOf : MethodName := ⟨RX0, "ratesOf", "(I)[I"⟩
abbrev cX0_span : ByteArray := prog_2_method_3_code
def yX0_span : MethodName := ⟨RX0, "span", "(I)I"⟩
def RX1 : String := "SwingCircuits$Swing"
def TX1 : u_T := fun k => match k with
  | 0 => ("SwingCircuits$Swing", "timeNum", "J", false)
  | 1 => ("SwingCircuits$Swing", "timeDen", "J", false)
  | 2 => ("SwingCircuits$Swing", "num", "[J", true)
  | 3 => ("SwingCircuits$Swing", "den", "[J", true)
  | 4 => ("SwingCircuits$Swing", "filling", "[Z", true)
  | 5 => ("SwingCircuits$Swing", "counts", "[I", true)
  | 6 => ("SwingCircuits$Swing", "turned", "I", false)
  | 7 => ("SwingCircuits$Swing", "side", "I", false)
  | 8 => ("SwingCircuits$Swing", "waitNum", "J", false)
  | _ => ("SwingCircuits$Swing", "waitDen", "J", false)
def tyX1 : Nat → FieldType := fun k => match k with
  | 0 => .long
  | 1 => .long
  | 2 => .array .long
  | 3 => .array .long
  | 4 => .array .boolean
  | 5 => .array .int
  | 6 => .int
  | 7 => .int
  | 8 => .long
  | _ => .long
abbrev wsX10 : List Cond := u_ws RX1 TX1 10
theorem nmX1 : ∀ a, a < 10 → ∀ b, b < 10 → a ≠ b → (TX1 a).2.1 ≠ (TX1 b).2.1 := by decide +kernel
theorem tyX1_ok : ∀ k, k < 10 → parseFieldDescriptor (TX1 k).2.2.1 = some (tyX1 k) := by decide +kernel
abbrev cX1_init : ByteArray := prog_3_method_1_code
def yX1_init : MethodName := ⟨RX1, "<init>", "()V"⟩
abbrev cX1_restart : ByteArray := prog_3_method_2_code
def yX1_restart : MethodName := ⟨RX1, "restart", "(LSwingCircuits$Circuit;)V"⟩
abbrev cX1_copyFrom : ByteArray := prog_3_method_3_code
def yX1_copyFrom : MethodName := ⟨RX1, "copyFrom", "(LSwingCircuits$Swing;)V"⟩
abbrev cX1_advance : ByteArray := prog_3_method_4_code
def yX1_advance : MethodName := ⟨RX1, "advance", "(LSwingCircuits$Circuit;)Z"⟩
abbrev cX1_chooseTurning : ByteArray := prog_3_method_5_code
def yX1_chooseTurning : MethodName := ⟨RX1, "chooseTurning", "(LSwingCircuits$Circuit;)V"⟩
abbrev cX1_letTimePass : ByteArray := prog_3_method_6_code
def yX1_letTimePass : MethodName := ⟨RX1, "letTimePass", "(LSwingCircuits$Circuit;)V"⟩
abbrev cX1_passOn : ByteArray := prog_3_method_7_code
def yX1_passOn : MethodName := ⟨RX1, "passOn", "(LSwingCircuits$Circuit;)V"⟩
abbrev cX1_doAct : ByteArray := prog_3_method_8_code
def yX1_doAct : MethodName := ⟨RX1, "doAct", "(LSwingCircuits$Circuit;I)V"⟩
abbrev cX1_keepBetweenBars : ByteArray := prog_3_method_9_code
def yX1_keepBetweenBars : MethodName := ⟨RX1, "keepBetweenBars", "(LSwingCircuits$Circuit;I)V"⟩
abbrev cX1_isSpent : ByteArray := prog_3_method_10_code
def yX1_isSpent : MethodName := ⟨RX1, "isSpent", "(LSwingCircuits$Circuit;)Z"⟩
abbrev cX1_isTooLong : ByteArray := prog_3_method_11_code
def yX1_isTooLong : MethodName := ⟨RX1, "isTooLong", "(JJ)Z"⟩
abbrev cX1_packedEvent : ByteArray := prog_3_method_12_code
def yX1_packedEvent : MethodName := ⟨RX1, "packedEvent", "()J"⟩
abbrev cX1_packedMarks : ByteArray := prog_3_method_13_code
def yX1_packedMarks : MethodName := ⟨RX1, "packedMarks", "()J"⟩
def RX2 : String := "SwingCircuits"
def TX2 : u_T := fun k => match k with
  | 0 => ("SwingCircuits", "circuit", "LSwingCircuits$Circuit;", true)
  | 1 => ("SwingCircuits", "now", "LSwingCircuits$Swing;", false)
  | 2 => ("SwingCircuits", "trial", "LSwingCircuits$Swing;", false)
  | 3 => ("SwingCircuits", "happened", "I", false)
  | 4 => ("SwingCircuits", "tops", "[I", true)
  | 5 => ("SwingCircuits", "bottoms", "[I", true)
  | 6 => ("SwingCircuits", "kept", "[J", true)
  | 7 => ("SwingCircuits", "trail", "[J", true)
  | 8 => ("SwingCircuits", "ringAnswers", "[J", true)
  | 9 => ("SwingCircuits", "ringFound", "Z", false)
  | 10 => ("SwingCircuits", "stock", "[I", true)
  | 11 => ("SwingCircuits", "stocked", "I", false)
  | 12 => ("SwingCircuits", "measuredNum", "[I", true)
  | 13 => ("SwingCircuits", "measuredDen", "[I", true)
  | 14 => ("SwingCircuits", "measures", "I", false)
  | 15 => ("SwingCircuits", "waysFound", "[I", true)
  | _ => ("SwingCircuits", "faultsFound", "[I", true)
def tyX2 : Nat → FieldType := fun k => match k with
  | 0 => .object "SwingCircuits$Circuit"
  | 1 => .object "SwingCircuits$Swing"
  | 2 => .object "SwingCircuits$Swing"
  | 3 => .int
  | 4 => .array .int
  | 5 => .array .int
  | 6 => .array .long
  | 7 => .array .long
  | 8 => .array .long
  | 9 => .boolean
  | 10 => .array .int
  | 11 => .int
  | 12 => .array .int
  | 13 => .array .int
  | 14 => .int
  | 15 => .array .int
  | _ => .array .int
abbrev wsX20 : List Cond := u_ws RX2 TX2 17
theorem nmX2 : ∀ a, a < 17 → ∀ b, b < 17 → a ≠ b → (TX2 a).2.1 ≠ (TX2 b).2.1 := by decide +kernel
theorem tyX2_ok : ∀ k, k < 17 → parseFieldDescriptor (TX2 k).2.2.1 = some (tyX2 k) := by decide +kernel
abbrev cX2_init : ByteArray := prog_1_method_1_code
def yX2_init : MethodName := ⟨RX2, "<init>", "()V"⟩
abbrev cX2_cell : ByteArray := prog_1_method_2_code
def yX2_cell : MethodName := ⟨RX2, "cell", "(IIII)I"⟩
abbrev cX2_link : ByteArray := prog_1_method_3_code
def yX2_link : MethodName := ⟨RX2, "link", "(IIIIII)I"⟩
abbrev cX2_clear : ByteArray := prog_1_method_4_code
def yX2_clear : MethodName := ⟨RX2, "clear", "()I"⟩
abbrev cX2_reset : ByteArray := prog_1_method_5_code
def yX2_reset : MethodName := ⟨RX2, "reset", "()I"⟩
abbrev cX2_set : ByteArray := prog_1_method_6_code
def yX2_set : MethodName := ⟨RX2, "set", "(III)I"⟩
abbrev cX2_run : ByteArray := prog_1_method_7_code
def yX2_run : MethodName := ⟨RX2, "run", "(I)I"⟩
abbrev cX2_count : ByteArray := prog_1_method_8_code
def yX2_count : MethodName := ⟨RX2, "count", "(I)I"⟩
abbrev cX2_of : ByteArray := prog_1_method_9_code
def yX2_of : MethodName := ⟨RX2, "of", "(II)I"⟩
abbrev cX2_counted : ByteArray := prog_1_method_10_code
def yX2_counted : MethodName := ⟨RX2, "counted", "(I)I"⟩
abbrev cX2_event : ByteArray := prog_1_method_11_code
def yX2_event : MethodName := ⟨RX2, "event", "(II)I"⟩
abbrev cX2_ring : ByteArray := prog_1_method_12_code
def yX2_ring : MethodName := ⟨RX2, "ring", "(I)I"⟩
abbrev cX2_ringed : ByteArray := prog_1_method_13_code
def yX2_ringed : MethodName := ⟨RX2, "ringed", "(I)J"⟩
abbrev cX2_drawer : ByteArray := prog_1_method_14_code
def yX2_drawer : MethodName := ⟨RX2, "drawer", "(I)I"⟩
abbrev cX2_parts : ByteArray := prog_1_method_15_code
def yX2_parts : MethodName := ⟨RX2, "parts", "(III)I"⟩
abbrev cX2_part : ByteArray := prog_1_method_16_code
def yX2_part : MethodName := ⟨RX2, "part", "(IIII)I"⟩
abbrev cX2_measure : ByteArray := prog_1_method_17_code
def yX2_measure : MethodName := ⟨RX2, "measure", "(II)I"⟩
abbrev cX2_forget : ByteArray := prog_1_method_18_code
def yX2_forget : MethodName := ⟨RX2, "forget", "()I"⟩
abbrev cX2_faults : ByteArray := prog_1_method_19_code
def yX2_faults : MethodName := ⟨RX2, "faults", "(I)I"⟩
abbrev cX2_fault : ByteArray := prog_1_method_20_code
def yX2_fault : MethodName := ⟨RX2, "fault", "(II)I"⟩
abbrev cX2_fits : ByteArray := prog_1_method_21_code
def yX2_fits : MethodName := ⟨RX2, "fits", "(I)I"⟩
abbrev cX2_isCell : ByteArray := prog_1_method_22_code
def yX2_isCell : MethodName := ⟨RX2, "isCell", "(I)Z"⟩
abbrev cX2_isRate : ByteArray := prog_1_method_23_code
def yX2_isRate : MethodName := ⟨RX2, "isRate", "(I)Z"⟩
abbrev cX2_isTerm : ByteArray := prog_1_method_24_code
def yX2_isTerm : MethodName := ⟨RX2, "isTerm", "(I)Z"⟩
abbrev cX2_isAct : ByteArray := prog_1_method_25_code
def yX2_isAct : MethodName := ⟨RX2, "isAct", "(II)Z"⟩
abbrev cX2_isStocked : ByteArray := prog_1_method_26_code
def yX2_isStocked : MethodName := ⟨RX2, "isStocked", "(I)Z"⟩
abbrev cX2_startAgain : ByteArray := prog_1_method_27_code
def yX2_startAgain : MethodName := ⟨RX2, "startAgain", "()V"⟩
abbrev cX2_noteEvent : ByteArray := prog_1_method_28_code
def yX2_noteEvent : MethodName := ⟨RX2, "noteEvent", "()V"⟩
abbrev cX2_isNextSpent : ByteArray := prog_1_method_29_code
def yX2_isNextSpent : MethodName := ⟨RX2, "isNextSpent", "()Z"⟩
abbrev cX2_writeTrail : ByteArray := prog_1_method_30_code
def yX2_writeTrail : MethodName := ⟨RX2, "writeTrail", "(I)V"⟩
abbrev cX2_sameAhead : ByteArray := prog_1_method_31_code
def yX2_sameAhead : MethodName := ⟨RX2, "sameAhead", "(I)I"⟩
abbrev cX2_isSameState : ByteArray := prog_1_method_32_code
def yX2_isSameState : MethodName := ⟨RX2, "isSameState", "(II)Z"⟩
abbrev cX2_keepRing : ByteArray := prog_1_method_33_code
def yX2_keepRing : MethodName := ⟨RX2, "keepRing", "(II)V"⟩
abbrev cX2_eventInRow : ByteArray := prog_1_method_34_code
def yX2_eventInRow : MethodName := ⟨RX2, "eventInRow", "(I)J"⟩
abbrev cX2_beatTerm : ByteArray := prog_1_method_35_code
def yX2_beatTerm : MethodName := ⟨RX2, "beatTerm", "(IZ)I"⟩
abbrev cX2_findWays : ByteArray := prog_1_method_36_code
def yX2_findWays : MethodName := ⟨RX2, "findWays", "(IJJ)I"⟩
abbrev cX2_findFaults : ByteArray := prog_1_method_37_code
def yX2_findFaults : MethodName := ⟨RX2, "findFaults", "(I)I"⟩
abbrev cX2_isMeasuredSo : ByteArray := prog_1_method_38_code
def yX2_isMeasuredSo : MethodName := ⟨RX2, "isMeasuredSo", "(I)Z"⟩
abbrev cX2_isMeasure : ByteArray := prog_1_method_39_code
def yX2_isMeasure : MethodName := ⟨RX2, "isMeasure", "(IJJ)Z"⟩
abbrev cX2_commonOf : ByteArray := prog_1_method_40_code
def yX2_commonOf : MethodName := ⟨RX2, "commonOf", "(JJ)J"⟩
abbrev cX2_packed : ByteArray := prog_1_method_41_code
def yX2_packed : MethodName := ⟨RX2, "packed", "(JJ)J"⟩
abbrev cX2_turnedIn : ByteArray := prog_1_method_42_code
def yX2_turnedIn : MethodName := ⟨RX2, "turnedIn", "(J)I"⟩
abbrev cX2_sideIn : ByteArray := prog_1_method_43_code
def yX2_sideIn : MethodName := ⟨RX2, "sideIn", "(J)I"⟩
abbrev cX2_timeNumIn : ByteArray := prog_1_method_44_code
def yX2_timeNumIn : MethodName := ⟨RX2, "timeNumIn", "(J)J"⟩
abbrev cX2_timeDenIn : ByteArray := prog_1_method_45_code
def yX2_timeDenIn : MethodName := ⟨RX2, "timeDenIn", "(J)J"⟩
abbrev cX2_betweenNum : ByteArray := prog_1_method_46_code
def yX2_betweenNum : MethodName := ⟨RX2, "betweenNum", "(JJ)J"⟩
abbrev cX2_betweenDen : ByteArray := prog_1_method_47_code
def yX2_betweenDen : MethodName := ⟨RX2, "betweenDen", "(JJ)J"⟩
def RX3 : String := "SwingCircuitsModel"
def TX3 : u_T := fun k => match k with
  | 0 => ("SwingCircuitsModel", "low", "[I", true)
  | 1 => ("SwingCircuitsModel", "high", "[I", true)
  | 2 => ("SwingCircuitsModel", "rise", "[I", true)
  | 3 => ("SwingCircuitsModel", "fall", "[I", true)
  | 4 => ("SwingCircuitsModel", "cells", "I", false)
  | 5 => ("SwingCircuitsModel", "links", "[I", true)
  | 6 => ("SwingCircuitsModel", "linkMany", "I", false)
  | 7 => ("SwingCircuitsModel", "now", "[J", true)
  | 8 => ("SwingCircuitsModel", "before", "[J", true)
  | 9 => ("SwingCircuitsModel", "aside", "[J", true)
  | 10 => ("SwingCircuitsModel", "logCell", "[I", true)
  | 11 => ("SwingCircuitsModel", "logAt", "[I", true)
  | 12 => ("SwingCircuitsModel", "logNum", "[J", true)
  | 13 => ("SwingCircuitsModel", "logDen", "[J", true)
  | 14 => ("SwingCircuitsModel", "isLogged", "Z", false)
  | 15 => ("SwingCircuitsModel", "states", "[J", true)
  | 16 => ("SwingCircuitsModel", "wasRing", "Z", false)
  | 17 => ("SwingCircuitsModel", "ringed", "[J", true)
  | 18 => ("SwingCircuitsModel", "drawer", "[I", true)
  | 19 => ("SwingCircuitsModel", "drawn", "I", false)
  | 20 => ("SwingCircuitsModel", "measuredNum", "[J", true)
  | 21 => ("SwingCircuitsModel", "measuredDen", "[J", true)
  | 22 => ("SwingCircuitsModel", "measured", "I", false)
  | 23 => ("SwingCircuitsModel", "thrown", "I", false)
  | 24 => ("SwingCircuitsModel", "num", "J", false)
  | 25 => ("SwingCircuitsModel", "den", "J", false)
  | 26 => ("SwingCircuitsModel", "nextCell", "I", false)
  | _ => ("SwingCircuitsModel", "nextAt", "I", false)
def tyX3 : Nat → FieldType := fun k => match k with
  | 0 => .array .int
  | 1 => .array .int
  | 2 => .array .int
  | 3 => .array .int
  | 4 => .int
  | 5 => .array .int
  | 6 => .int
  | 7 => .array .long
  | 8 => .array .long
  | 9 => .array .long
  | 10 => .array .int
  | 11 => .array .int
  | 12 => .array .long
  | 13 => .array .long
  | 14 => .boolean
  | 15 => .array .long
  | 16 => .boolean
  | 17 => .array .long
  | 18 => .array .int
  | 19 => .int
  | 20 => .array .long
  | 21 => .array .long
  | 22 => .int
  | 23 => .int
  | 24 => .long
  | 25 => .long
  | 26 => .int
  | _ => .int
abbrev wsX30 : List Cond := u_ws RX3 TX3 28
theorem nmX3 : ∀ a, a < 28 → ∀ b, b < 28 → a ≠ b → (TX3 a).2.1 ≠ (TX3 b).2.1 := by decide +kernel
theorem tyX3_ok : ∀ k, k < 28 → parseFieldDescriptor (TX3 k).2.2.1 = some (tyX3 k) := by decide +kernel
abbrev cX3_init : ByteArray := prog_5_method_1_code
def yX3_init : MethodName := ⟨RX3, "<init>", "()V"⟩
abbrev cX3_thrown : ByteArray := prog_5_method_2_code
def yX3_thrown : MethodName := ⟨RX3, "thrown", "()I"⟩
abbrev cX3_in : ByteArray := prog_5_method_3_code
def yX3_in : MethodName := ⟨RX3, "in", "(III)Z"⟩
abbrev cX3_isCell : ByteArray := prog_5_method_4_code
def yX3_isCell : MethodName := ⟨RX3, "isCell", "(I)Z"⟩
abbrev cX3_common : ByteArray := prog_5_method_5_code
def yX3_common : MethodName := ⟨RX3, "common", "(JJ)J"⟩
abbrev cX3_make : ByteArray := prog_5_method_6_code
def yX3_make : MethodName := ⟨RX3, "make", "(JJ)V"⟩
abbrev cX3_store : ByteArray := prog_5_method_7_code
def yX3_store : MethodName := ⟨RX3, "store", "(I)V"⟩
abbrev cX3_resetAll : ByteArray := prog_5_method_8_code
def yX3_resetAll : MethodName := ⟨RX3, "resetAll", "()V"⟩
abbrev cX3_cell : ByteArray := prog_5_method_9_code
def yX3_cell : MethodName := ⟨RX3, "cell", "(IIII)I"⟩
abbrev cX3_link : ByteArray := prog_5_method_10_code
def yX3_link : MethodName := ⟨RX3, "link", "(IIIIII)I"⟩
abbrev cX3_clear : ByteArray := prog_5_method_11_code
def yX3_clear : MethodName := ⟨RX3, "clear", "()I"⟩
abbrev cX3_reset : ByteArray := prog_5_method_12_code
def yX3_reset : MethodName := ⟨RX3, "reset", "()I"⟩
abbrev cX3_set : ByteArray := prog_5_method_13_code
def yX3_set : MethodName := ⟨RX3, "set", "(III)I"⟩
abbrev cX3_copy : ByteArray := prog_5_method_14_code
def yX3_copy : MethodName := ⟨RX3, "copy", "([J[J)V"⟩
abbrev cX3_isFilling : ByteArray := prog_5_method_15_code
def yX3_isFilling : MethodName := ⟨RX3, "isFilling", "(I)Z"⟩
abbrev cX3_waitOf : ByteArray := prog_5_method_16_code
def yX3_waitOf : MethodName := ⟨RX3, "waitOf", "(I)V"⟩
abbrev cX3_isOver : ByteArray := prog_5_method_17_code
def yX3_isOver : MethodName := ⟨RX3, "isOver", "(JJ)Z"⟩
abbrev cX3_isSpent : ByteArray := prog_5_method_18_code
def yX3_isSpent : MethodName := ⟨RX3, "isSpent", "()Z"⟩
abbrev cX3_step : ByteArray := prog_5_method_19_code
def yX3_step : MethodName := ⟨RX3, "step", "()Z"⟩
abbrev cX3_act : ByteArray := prog_5_method_20_code
def yX3_act : MethodName := ⟨RX3, "act", "(I)V"⟩
abbrev cX3_run : ByteArray := prog_5_method_21_code
def yX3_run : MethodName := ⟨RX3, "run", "(I)I"⟩
abbrev cX3_wouldBeSpent : ByteArray := prog_5_method_22_code
def yX3_wouldBeSpent : MethodName := ⟨RX3, "wouldBeSpent", "()Z"⟩
abbrev cX3_count : ByteArray := prog_5_method_23_code
def yX3_count : MethodName := ⟨RX3, "count", "(I)I"⟩
abbrev cX3_beat : ByteArray := prog_5_method_24_code
def yX3_beat : MethodName := ⟨RX3, "beat", "(III)V"⟩
abbrev cX3_of : ByteArray := prog_5_method_25_code
def yX3_of : MethodName := ⟨RX3, "of", "(II)I"⟩
abbrev cX3_counted : ByteArray := prog_5_method_26_code
def yX3_counted : MethodName := ⟨RX3, "counted", "(I)I"⟩
abbrev cX3_event : ByteArray := prog_5_method_27_code
def yX3_event : MethodName := ⟨RX3, "event", "(II)I"⟩
abbrev cX3_areAlike : ByteArray := prog_5_method_28_code
def yX3_areAlike : MethodName := ⟨RX3, "areAlike", "(II)Z"⟩
abbrev cX3_keep : ByteArray := prog_5_method_29_code
def yX3_keep : MethodName := ⟨RX3, "keep", "(I)V"⟩
abbrev cX3_seek : ByteArray := prog_5_method_30_code
def yX3_seek : MethodName := ⟨RX3, "seek", "(I)I"⟩
abbrev cX3_tell : ByteArray := prog_5_method_31_code
def yX3_tell : MethodName := ⟨RX3, "tell", "(II)V"⟩
abbrev cX3_ring : ByteArray := prog_5_method_32_code
def yX3_ring : MethodName := ⟨RX3, "ring", "(I)I"⟩
abbrev cX3_ringed : ByteArray := prog_5_method_33_code
def yX3_ringed : MethodName := ⟨RX3, "ringed", "(I)J"⟩
abbrev cX3_drawer : ByteArray := prog_5_method_34_code
def yX3_drawer : MethodName := ⟨RX3, "drawer", "(I)I"⟩
abbrev cX3_isFraction : ByteArray := prog_5_method_35_code
def yX3_isFraction : MethodName := ⟨RX3, "isFraction", "(II)Z"⟩
abbrev cX3_ways : ByteArray := prog_5_method_36_code
def yX3_ways : MethodName := ⟨RX3, "ways", "(IIII)I"⟩
abbrev cX3_parts : ByteArray := prog_5_method_37_code
def yX3_parts : MethodName := ⟨RX3, "parts", "(III)I"⟩
abbrev cX3_part : ByteArray := prog_5_method_38_code
def yX3_part : MethodName := ⟨RX3, "part", "(IIII)I"⟩
abbrev cX3_measure : ByteArray := prog_5_method_39_code
def yX3_measure : MethodName := ⟨RX3, "measure", "(II)I"⟩
abbrev cX3_forget : ByteArray := prog_5_method_40_code
def yX3_forget : MethodName := ⟨RX3, "forget", "()I"⟩
abbrev cX3_isSo : ByteArray := prog_5_method_41_code
def yX3_isSo : MethodName := ⟨RX3, "isSo", "(I)Z"⟩
abbrev cX3_explains : ByteArray := prog_5_method_42_code
def yX3_explains : MethodName := ⟨RX3, "explains", "(IIII)Z"⟩
abbrev cX3_explaining : ByteArray := prog_5_method_43_code
def yX3_explaining : MethodName := ⟨RX3, "explaining", "(II)I"⟩
abbrev cX3_faults : ByteArray := prog_5_method_44_code
def yX3_faults : MethodName := ⟨RX3, "faults", "(I)I"⟩
abbrev cX3_fault : ByteArray := prog_5_method_45_code
def yX3_fault : MethodName := ⟨RX3, "fault", "(II)I"⟩
abbrev cX3_fits : ByteArray := prog_5_method_46_code
def yX3_fits : MethodName := ⟨RX3, "fits", "(I)I"⟩
def RJ9 : String := "java/lang/Math"
def TJ9 : u_T := fun k => match k with
  | _ => ("", "", "", false)
def tyJ9 : Nat → FieldType := fun k => match k with
  | _ => .int
abbrev wsJ90 : List Cond := u_ws RJ9 TJ9 0
theorem nmJ9 : ∀ a, a < 0 → ∀ b, b < 0 → a ≠ b → (TJ9 a).2.1 ≠ (TJ9 b).2.1 := by decide +kernel
theorem tyJ9_ok : ∀ k, k < 0 → parseFieldDescriptor (TJ9 k).2.2.1 = some (tyJ9 k) := by decide +kernel
abbrev cJ9_abs_067f4 : ByteArray := prog_7_method_61_code
def yJ9_abs_067f4 : MethodName := ⟨RJ9, "abs", "(J)J"⟩
def RJ0 : String := "java/lang/String"
def TJ0 : u_T := fun k => match k with
  | _ => ("", "", "", false)
def tyJ0 : Nat → FieldType := fun k => match k with
  | _ => .int
abbrev wsJ00 : List Cond := u_ws RJ0 TJ0 0
theorem nmJ0 : ∀ a, a < 0 → ∀ b, b < 0 → a ≠ b → (TJ0 a).2.1 ≠ (TJ0 b).2.1 := by decide +kernel
theorem tyJ0_ok : ∀ k, k < 0 → parseFieldDescriptor (TJ0 k).2.2.1 = some (tyJ0 k) := by decide +kernel
def RL : String := "SwingCircuitsLaw"
abbrev cL_of : ByteArray := method_3_code
def yL_of : MethodName := ⟨RL, "of", "(LSwingCircuits;II[J)I"⟩
abbrev cL_law : ByteArray := code
def yL_law : MethodName := ⟨RL, "law", "([I)Z"⟩
def wsX0_init : List Cond := .code yX0_init cX0_init 1 none :: ([.methodLink RX0 3 objectInit, .instanceMethod objectInit, .code objectInit ⟨#[0xb1]⟩ 1 none, .fieldLink RX0 9 "SwingCircuits$Circuit" "cells" "I", .arrayClass .int, .fieldLink RX0 15 "SwingCircuits$Circuit" "low" "[I", .fieldLink RX0 19 "SwingCircuits$Circuit" "high" "[I", .fieldLink RX0 22 "SwingCircuits$Circuit" "rise" "[I", .fieldLink RX0 25 "SwingCircuits$Circuit" "fall" "[I", .fieldLink RX0 28 "SwingCircuits$Circuit" "links" "I", .fieldLink RX0 31 "SwingCircuits$Circuit" "from" "[I", .fieldLink RX0 34 "SwingCircuits$Circuit" "at" "[I", .fieldLink RX0 37 "SwingCircuits$Circuit" "nth" "[I", .fieldLink RX0 40 "SwingCircuits$Circuit" "to" "[I", .fieldLink RX0 43 "SwingCircuits$Circuit" "act" "[I", .fieldLink RX0 46 "SwingCircuits$Circuit" "by" "[I"] ++ wsX00)
def wsX0_ratesOf : List Cond := .code yX0_ratesOf cX0_ratesOf 2 (some (.array .int)) :: ([.fieldLink RX0 22 "SwingCircuits$Circuit" "rise" "[I", .fieldLink RX0 25 "SwingCircuits$Circuit" "fall" "[I"] ++ wsX00)
def wsX0_span : List Cond := .code yX0_span cX0_span 2 (some .int) :: ([.fieldLink RX0 19 "SwingCircuits$Circuit" "high" "[I", .fieldLink RX0 15 "SwingCircuits$Circuit" "low" "[I"] ++ wsX00)
def wsX1_init : List Cond := .code yX1_init cX1_init 1 none :: ([.methodLink RX1 3 objectInit, .instanceMethod objectInit, .code objectInit ⟨#[0xb1]⟩ 1 none, .fieldLink RX1 9 "SwingCircuits$Swing" "timeNum" "J", .fieldLink RX1 15 "SwingCircuits$Swing" "timeDen" "J", .arrayClass .long, .fieldLink RX1 18 "SwingCircuits$Swing" "num" "[J", .fieldLink RX1 22 "SwingCircuits$Swing" "den" "[J", .arrayClass .boolean, .fieldLink RX1 25 "SwingCircuits$Swing" "filling" "[Z", .arrayClass .int, .fieldLink RX1 29 "SwingCircuits$Swing" "counts" "[I", .fieldLink RX1 33 "SwingCircuits$Swing" "turned" "I", .fieldLink RX1 37 "SwingCircuits$Swing" "side" "I", .fieldLink RX1 40 "SwingCircuits$Swing" "waitNum" "J", .fieldLink RX1 43 "SwingCircuits$Swing" "waitDen" "J"] ++ wsX10)
def wsX1_restart : List Cond := .code yX1_restart cX1_restart 3 none :: ([.fieldLink RX1 9 "SwingCircuits$Swing" "timeNum" "J", .fieldLink RX1 15 "SwingCircuits$Swing" "timeDen" "J", .fieldLink RX1 18 "SwingCircuits$Swing" "num" "[J", .fieldLink RX1 46 "SwingCircuits$Circuit" "low" "[I", .fieldLink RX1 22 "SwingCircuits$Swing" "den" "[J", .fieldLink RX1 25 "SwingCircuits$Swing" "filling" "[Z", .fieldLink RX1 29 "SwingCircuits$Swing" "counts" "[I"] ++ wsX10 ++ wsX00)
def wsX1_copyFrom : List Cond := .code yX1_copyFrom cX1_copyFrom 3 none :: ([.fieldLink RX1 9 "SwingCircuits$Swing" "timeNum" "J", .fieldLink RX1 15 "SwingCircuits$Swing" "timeDen" "J", .fieldLink RX1 18 "SwingCircuits$Swing" "num" "[J", .fieldLink RX1 22 "SwingCircuits$Swing" "den" "[J", .fieldLink RX1 25 "SwingCircuits$Swing" "filling" "[Z", .fieldLink RX1 29 "SwingCircuits$Swing" "counts" "[I"] ++ wsX10)
def wsX1_chooseTurning : List Cond := .code yX1_chooseTurning cX1_chooseTurning 7 none :: ([.fieldLink RX1 51 "SwingCircuits$Circuit" "cells" "I", .fieldLink RX1 25 "SwingCircuits$Swing" "filling" "[Z", .fieldLink RX1 68 "SwingCircuits$Circuit" "high" "[I", .fieldLink RX1 22 "SwingCircuits$Swing" "den" "[J", .fieldLink RX1 18 "SwingCircuits$Swing" "num" "[J", .fieldLink RX1 46 "SwingCircuits$Circuit" "low" "[I", .fieldLink RX1 71 "SwingCircuits$Circuit" "rise" "[I", .fieldLink RX1 74 "SwingCircuits$Circuit" "fall" "[I", .fieldLink RX1 43 "SwingCircuits$Swing" "waitDen" "J", .fieldLink RX1 40 "SwingCircuits$Swing" "waitNum" "J", .fieldLink RX1 33 "SwingCircuits$Swing" "turned" "I"] ++ wsX00 ++ wsX10)
def wsX2_commonOf : List Cond := .code yX2_commonOf cX2_commonOf 11 (some .long) :: ([])
def wsX1_letTimePass : List Cond := .code yX1_letTimePass cX1_letTimePass 11 none :: ([.fieldLink RX1 9 "SwingCircuits$Swing" "timeNum" "J", .fieldLink RX1 43 "SwingCircuits$Swing" "waitDen" "J", .fieldLink RX1 40 "SwingCircuits$Swing" "waitNum" "J", .fieldLink RX1 15 "SwingCircuits$Swing" "timeDen" "J", .fieldLink RX1 51 "SwingCircuits$Circuit" "cells" "I", .fieldLink RX1 25 "SwingCircuits$Swing" "filling" "[Z", .fieldLink RX1 71 "SwingCircuits$Circuit" "rise" "[I", .fieldLink RX1 74 "SwingCircuits$Circuit" "fall" "[I", .fieldLink RX1 18 "SwingCircuits$Swing" "num" "[J", .fieldLink RX1 22 "SwingCircuits$Swing" "den" "[J", .static yX2_commonOf, .initialized RX2, .code yX2_commonOf cX2_commonOf 11 (some .long)] ++ wsX10 ++ wsX00)
def wsX1_keepBetweenBars : List Cond := .code yX1_keepBetweenBars cX1_keepBetweenBars 3 none :: ([.fieldLink RX1 18 "SwingCircuits$Swing" "num" "[J", .fieldLink RX1 68 "SwingCircuits$Circuit" "high" "[I", .fieldLink RX1 22 "SwingCircuits$Swing" "den" "[J", .fieldLink RX1 46 "SwingCircuits$Circuit" "low" "[I"] ++ wsX10 ++ wsX00)
def wsX1_doAct : List Cond := .code yX1_doAct cX1_doAct 4 none :: ([.fieldLink RX1 97 "SwingCircuits$Circuit" "to" "[I", .fieldLink RX1 100 "SwingCircuits$Circuit" "act" "[I", .fieldLink RX1 18 "SwingCircuits$Swing" "num" "[J", .fieldLink RX1 103 "SwingCircuits$Circuit" "by" "[I", .fieldLink RX1 22 "SwingCircuits$Swing" "den" "[J", .fieldLink RX1 25 "SwingCircuits$Swing" "filling" "[Z", .methodLink RX1 106 yX1_keepBetweenBars, .instanceMethod yX1_keepBetweenBars, .selects RX1 yX1_keepBetweenBars yX1_keepBetweenBars, .initialized RX1, .code yX1_keepBetweenBars cX1_keepBetweenBars 3 none, .fieldLink RX1 68 "SwingCircuits$Circuit" "high" "[I", .fieldLink RX1 46 "SwingCircuits$Circuit" "low" "[I"] ++ wsX00 ++ wsX10)
def wsX1_passOn : List Cond := .code yX1_passOn cX1_passOn 3 none :: ([.fieldLink RX1 81 "SwingCircuits$Circuit" "links" "I", .fieldLink RX1 84 "SwingCircuits$Circuit" "from" "[I", .fieldLink RX1 33 "SwingCircuits$Swing" "turned" "I", .fieldLink RX1 87 "SwingCircuits$Circuit" "at" "[I", .fieldLink RX1 37 "SwingCircuits$Swing" "side" "I", .fieldLink RX1 29 "SwingCircuits$Swing" "counts" "[I", .fieldLink RX1 90 "SwingCircuits$Circuit" "nth" "[I", .methodLink RX1 93 yX1_doAct, .instanceMethod yX1_doAct, .selects RX1 yX1_doAct yX1_doAct, .initialized RX1, .code yX1_doAct cX1_doAct 4 none, .fieldLink RX1 97 "SwingCircuits$Circuit" "to" "[I", .fieldLink RX1 100 "SwingCircuits$Circuit" "act" "[I", .fieldLink RX1 18 "SwingCircuits$Swing" "num" "[J", .fieldLink RX1 103 "SwingCircuits$Circuit" "by" "[I", .fieldLink RX1 22 "SwingCircuits$Swing" "den" "[J", .fieldLink RX1 25 "SwingCircuits$Swing" "filling" "[Z", .methodLink RX1 106 yX1_keepBetweenBars, .instanceMethod yX1_keepBetweenBars, .selects RX1 yX1_keepBetweenBars yX1_keepBetweenBars, .code yX1_keepBetweenBars cX1_keepBetweenBars 3 none, .fieldLink RX1 68 "SwingCircuits$Circuit" "high" "[I", .fieldLink RX1 46 "SwingCircuits$Circuit" "low" "[I"] ++ wsX00 ++ wsX10)
def wsX1_isTooLong : List Cond := .code yX1_isTooLong cX1_isTooLong 4 (some .boolean) :: ([.constantLong RX1 113 (1000000), .constantLong RX1 115 (-1000000)])
def wsX1_isSpent : List Cond := .code yX1_isSpent cX1_isSpent 3 (some .boolean) :: ([.fieldLink RX1 9 "SwingCircuits$Swing" "timeNum" "J", .fieldLink RX1 15 "SwingCircuits$Swing" "timeDen" "J", .fieldLink RX1 51 "SwingCircuits$Circuit" "cells" "I", .fieldLink RX1 18 "SwingCircuits$Swing" "num" "[J", .fieldLink RX1 22 "SwingCircuits$Swing" "den" "[J", .methodLink RX1 109 yX1_isTooLong, .static yX1_isTooLong, .initialized RX1, .code yX1_isTooLong cX1_isTooLong 4 (some .boolean), .constantLong RX1 113 (1000000), .constantLong RX1 115 (-1000000)] ++ wsX10 ++ wsX00)
def wsX1_advance_r1 : List Cond := [Cond.fieldLink RX1 51 "SwingCircuits$Circuit" "cells" "I", Cond.fieldLink RX1 25 "SwingCircuits$Swing" "filling" "[Z", Cond.fieldLink RX1 33 "SwingCircuits$Swing" "turned" "I", Cond.fieldLink RX1 37 "SwingCircuits$Swing" "side" "I", Cond.methodLink RX1 54 yX1_chooseTurning, Cond.instanceMethod yX1_chooseTurning, Cond.selects RX1 yX1_chooseTurning yX1_chooseTurning, Cond.initialized RX1, Cond.code yX1_chooseTurning cX1_chooseTurning 7 none, Cond.fieldLink RX1 68 "SwingCircuits$Circuit" "high" "[I", Cond.fieldLink RX1 22 "SwingCircuits$Swing" "den" "[J", Cond.fieldLink RX1 18 "SwingCircuits$Swing" "num" "[J", Cond.fieldLink RX1 46 "SwingCircuits$Circuit" "low" "[I", Cond.fieldLink RX1 71 "SwingCircuits$Circuit" "rise" "[I", Cond.fieldLink RX1 74 "SwingCircuits$Circuit" "fall" "[I", Cond.fieldLink RX1 43 "SwingCircuits$Swing" "waitDen" "J", Cond.fieldLink RX1 40 "SwingCircuits$Swing" "waitNum" "J", Cond.methodLink RX1 58 yX1_letTimePass, Cond.instanceMethod yX1_letTimePass, Cond.selects RX1 yX1_letTimePass yX1_letTimePass, Cond.code yX1_letTimePass cX1_letTimePass 11 none, Cond.fieldLink RX1 9 "SwingCircuits$Swing" "timeNum" "J", Cond.fieldLink RX1 15 "SwingCircuits$Swing" "timeDen" "J", Cond.static yX2_commonOf]
def wsX1_advance_r2 : List Cond := [Cond.initialized RX2, Cond.code yX2_commonOf cX2_commonOf 11 (some .long), Cond.methodLink RX1 61 yX1_passOn, Cond.instanceMethod yX1_passOn, Cond.selects RX1 yX1_passOn yX1_passOn, Cond.code yX1_passOn cX1_passOn 3 none, Cond.fieldLink RX1 81 "SwingCircuits$Circuit" "links" "I", Cond.fieldLink RX1 84 "SwingCircuits$Circuit" "from" "[I", Cond.fieldLink RX1 87 "SwingCircuits$Circuit" "at" "[I", Cond.fieldLink RX1 29 "SwingCircuits$Swing" "counts" "[I", Cond.fieldLink RX1 90 "SwingCircuits$Circuit" "nth" "[I", Cond.methodLink RX1 93 yX1_doAct, Cond.instanceMethod yX1_doAct, Cond.selects RX1 yX1_doAct yX1_doAct, Cond.code yX1_doAct cX1_doAct 4 none, Cond.fieldLink RX1 97 "SwingCircuits$Circuit" "to" "[I", Cond.fieldLink RX1 100 "SwingCircuits$Circuit" "act" "[I", Cond.fieldLink RX1 103 "SwingCircuits$Circuit" "by" "[I", Cond.methodLink RX1 106 yX1_keepBetweenBars, Cond.instanceMethod yX1_keepBetweenBars, Cond.selects RX1 yX1_keepBetweenBars yX1_keepBetweenBars, Cond.code yX1_keepBetweenBars cX1_keepBetweenBars 3 none, Cond.methodLink RX1 64 yX1_isSpent, Cond.instanceMethod yX1_isSpent]
def wsX1_advance_r3 : List Cond := [Cond.selects RX1 yX1_isSpent yX1_isSpent, Cond.code yX1_isSpent cX1_isSpent 3 (some .boolean), Cond.methodLink RX1 109 yX1_isTooLong, Cond.static yX1_isTooLong, Cond.code yX1_isTooLong cX1_isTooLong 4 (some .boolean), Cond.constantLong RX1 113 (1000000), Cond.constantLong RX1 115 (-1000000)]
def wsX1_advance : List Cond := .code yX1_advance cX1_advance 2 (some .boolean) :: ((wsX1_advance_r1 ++ (wsX1_advance_r2 ++ wsX1_advance_r3)) ++ wsX00 ++ wsX10)
def wsX2_packed : List Cond := .code yX2_packed cX2_packed 4 (some .long) :: ([])
def wsX1_packedEvent : List Cond := .code yX1_packedEvent cX1_packedEvent 1 (some .long) :: ([.fieldLink RX1 9 "SwingCircuits$Swing" "timeNum" "J", .fieldLink RX1 15 "SwingCircuits$Swing" "timeDen" "J", .fieldLink RX1 33 "SwingCircuits$Swing" "turned" "I", .fieldLink RX1 37 "SwingCircuits$Swing" "side" "I", .static yX2_packed, .initialized RX2, .code yX2_packed cX2_packed 4 (some .long)] ++ wsX10)
def wsX1_packedMarks : List Cond := .code yX1_packedMarks cX1_packedMarks 4 (some .long) :: ([.constantLong RX1 120 (2), .fieldLink RX1 25 "SwingCircuits$Swing" "filling" "[Z", .fieldLink RX1 29 "SwingCircuits$Swing" "counts" "[I"] ++ wsX10)
def wsX2_init_r1 : List Cond := [Cond.methodLink RX2 3 objectInit, Cond.instanceMethod objectInit, Cond.code objectInit ⟨#[0xb1]⟩ 1 none, Cond.classLink RX2 9 RX0, Cond.instantiable RX0 12, Cond.initialized RX0, Cond.fieldLink RX2 12 "SwingCircuits" "circuit" "LSwingCircuits$Circuit;", Cond.classLink RX2 16 RX1, Cond.instantiable RX1 10, Cond.initialized RX1, Cond.fieldLink RX2 19 "SwingCircuits" "now" "LSwingCircuits$Swing;", Cond.fieldLink RX2 23 "SwingCircuits" "trial" "LSwingCircuits$Swing;", Cond.fieldLink RX2 26 "SwingCircuits" "happened" "I", Cond.arrayClass .int, Cond.fieldLink RX2 30 "SwingCircuits" "tops" "[I", Cond.fieldLink RX2 34 "SwingCircuits" "bottoms" "[I", Cond.arrayClass .long, Cond.fieldLink RX2 37 "SwingCircuits" "kept" "[J", Cond.fieldLink RX2 41 "SwingCircuits" "trail" "[J", Cond.fieldLink RX2 44 "SwingCircuits" "ringAnswers" "[J", Cond.fieldLink RX2 47 "SwingCircuits" "ringFound" "Z", Cond.fieldLink RX2 51 "SwingCircuits" "stock" "[I", Cond.fieldLink RX2 54 "SwingCircuits" "stocked" "I", Cond.fieldLink RX2 57 "SwingCircuits" "measuredNum" "[I"]
def wsX2_init_r2 : List Cond := [Cond.fieldLink RX2 60 "SwingCircuits" "measuredDen" "[I", Cond.fieldLink RX2 63 "SwingCircuits" "measures" "I", Cond.fieldLink RX2 66 "SwingCircuits" "waysFound" "[I", Cond.fieldLink RX2 69 "SwingCircuits" "faultsFound" "[I", Cond.instanceMethod yX0_init, Cond.code yX0_init cX0_init 1 none, Cond.methodLink RX0 3 objectInit, Cond.fieldLink RX0 9 "SwingCircuits$Circuit" "cells" "I", Cond.fieldLink RX0 15 "SwingCircuits$Circuit" "low" "[I", Cond.fieldLink RX0 19 "SwingCircuits$Circuit" "high" "[I", Cond.fieldLink RX0 22 "SwingCircuits$Circuit" "rise" "[I", Cond.fieldLink RX0 25 "SwingCircuits$Circuit" "fall" "[I", Cond.fieldLink RX0 28 "SwingCircuits$Circuit" "links" "I", Cond.fieldLink RX0 31 "SwingCircuits$Circuit" "from" "[I", Cond.fieldLink RX0 34 "SwingCircuits$Circuit" "at" "[I", Cond.fieldLink RX0 37 "SwingCircuits$Circuit" "nth" "[I", Cond.fieldLink RX0 40 "SwingCircuits$Circuit" "to" "[I", Cond.fieldLink RX0 43 "SwingCircuits$Circuit" "act" "[I", Cond.fieldLink RX0 46 "SwingCircuits$Circuit" "by" "[I", Cond.instanceMethod yX1_init, Cond.code yX1_init cX1_init 1 none, Cond.methodLink RX1 3 objectInit, Cond.fieldLink RX1 9 "SwingCircuits$Swing" "timeNum" "J", Cond.fieldLink RX1 15 "SwingCircuits$Swing" "timeDen" "J"]
def wsX2_init_r3 : List Cond := [Cond.fieldLink RX1 18 "SwingCircuits$Swing" "num" "[J", Cond.fieldLink RX1 22 "SwingCircuits$Swing" "den" "[J", Cond.arrayClass .boolean, Cond.fieldLink RX1 25 "SwingCircuits$Swing" "filling" "[Z", Cond.fieldLink RX1 29 "SwingCircuits$Swing" "counts" "[I", Cond.fieldLink RX1 33 "SwingCircuits$Swing" "turned" "I", Cond.fieldLink RX1 37 "SwingCircuits$Swing" "side" "I", Cond.fieldLink RX1 40 "SwingCircuits$Swing" "waitNum" "J", Cond.fieldLink RX1 43 "SwingCircuits$Swing" "waitDen" "J"]
def wsX2_init : List Cond := .code yX2_init cX2_init 1 none :: ((wsX2_init_r1 ++ (wsX2_init_r2 ++ wsX2_init_r3)) ++ wsX00 ++ wsX20 ++ wsX10)
def wsX2_isRate : List Cond := .code yX2_isRate cX2_isRate 1 (some .boolean) :: ([])
def wsX2_startAgain : List Cond := .code yX2_startAgain cX2_startAgain 2 none :: ([.fieldLink RX2 19 "SwingCircuits" "now" "LSwingCircuits$Swing;", .fieldLink RX2 12 "SwingCircuits" "circuit" "LSwingCircuits$Circuit;", .fieldLink RX2 26 "SwingCircuits" "happened" "I", .fieldLink RX2 30 "SwingCircuits" "tops" "[I", .fieldLink RX2 34 "SwingCircuits" "bottoms" "[I", .methodLink RX2 223 yX1_restart, .instanceMethod yX1_restart, .selects RX1 yX1_restart yX1_restart, .initialized RX1, .code yX1_restart cX1_restart 3 none, .fieldLink RX1 9 "SwingCircuits$Swing" "timeNum" "J", .fieldLink RX1 15 "SwingCircuits$Swing" "timeDen" "J", .fieldLink RX1 18 "SwingCircuits$Swing" "num" "[J", .fieldLink RX1 46 "SwingCircuits$Circuit" "low" "[I", .fieldLink RX1 22 "SwingCircuits$Swing" "den" "[J", .fieldLink RX1 25 "SwingCircuits$Swing" "filling" "[Z", .fieldLink RX1 29 "SwingCircuits$Swing" "counts" "[I"] ++ wsX20 ++ wsX10 ++ wsX00)
def wsX2_cell_r1 : List Cond := [Cond.fieldLink RX2 12 "SwingCircuits" "circuit" "LSwingCircuits$Circuit;", Cond.fieldLink RX2 76 "SwingCircuits$Circuit" "cells" "I", Cond.fieldLink RX2 79 "SwingCircuits$Circuit" "low" "[I", Cond.fieldLink RX2 82 "SwingCircuits$Circuit" "high" "[I", Cond.fieldLink RX2 85 "SwingCircuits$Circuit" "rise" "[I", Cond.fieldLink RX2 88 "SwingCircuits$Circuit" "fall" "[I", Cond.methodLink RX2 72 yX2_isRate, Cond.static yX2_isRate, Cond.initialized RX2, Cond.code yX2_isRate cX2_isRate 1 (some .boolean), Cond.methodLink RX2 91 yX2_startAgain, Cond.instanceMethod yX2_startAgain, Cond.selects RX2 yX2_startAgain yX2_startAgain, Cond.code yX2_startAgain cX2_startAgain 2 none, Cond.fieldLink RX2 19 "SwingCircuits" "now" "LSwingCircuits$Swing;", Cond.fieldLink RX2 26 "SwingCircuits" "happened" "I", Cond.fieldLink RX2 30 "SwingCircuits" "tops" "[I", Cond.fieldLink RX2 34 "SwingCircuits" "bottoms" "[I", Cond.methodLink RX2 223 yX1_restart, Cond.instanceMethod yX1_restart, Cond.selects RX1 yX1_restart yX1_restart, Cond.initialized RX1, Cond.code yX1_restart cX1_restart 3 none, Cond.fieldLink RX1 9 "SwingCircuits$Swing" "timeNum" "J"]
def wsX2_cell_r2 : List Cond := [Cond.fieldLink RX1 15 "SwingCircuits$Swing" "timeDen" "J", Cond.fieldLink RX1 18 "SwingCircuits$Swing" "num" "[J", Cond.fieldLink RX1 46 "SwingCircuits$Circuit" "low" "[I", Cond.fieldLink RX1 22 "SwingCircuits$Swing" "den" "[J", Cond.fieldLink RX1 25 "SwingCircuits$Swing" "filling" "[Z", Cond.fieldLink RX1 29 "SwingCircuits$Swing" "counts" "[I"]
def wsX2_cell : List Cond := .code yX2_cell cX2_cell 7 (some .int) :: ((wsX2_cell_r1 ++ wsX2_cell_r2) ++ wsX20 ++ wsX00 ++ wsX10)
def wsX2_isCell : List Cond := .code yX2_isCell cX2_isCell 2 (some .boolean) :: ([.fieldLink RX2 12 "SwingCircuits" "circuit" "LSwingCircuits$Circuit;", .fieldLink RX2 76 "SwingCircuits$Circuit" "cells" "I"] ++ wsX20 ++ wsX00)
def wsX2_isAct : List Cond := .code yX2_isAct cX2_isAct 2 (some .boolean) :: ([])
def wsX2_link_r1 : List Cond := [Cond.fieldLink RX2 12 "SwingCircuits" "circuit" "LSwingCircuits$Circuit;", Cond.fieldLink RX2 101 "SwingCircuits$Circuit" "links" "I", Cond.fieldLink RX2 104 "SwingCircuits$Circuit" "from" "[I", Cond.fieldLink RX2 107 "SwingCircuits$Circuit" "at" "[I", Cond.fieldLink RX2 110 "SwingCircuits$Circuit" "nth" "[I", Cond.fieldLink RX2 113 "SwingCircuits$Circuit" "to" "[I", Cond.fieldLink RX2 116 "SwingCircuits$Circuit" "act" "[I", Cond.fieldLink RX2 119 "SwingCircuits$Circuit" "by" "[I", Cond.methodLink RX2 94 yX2_isCell, Cond.instanceMethod yX2_isCell, Cond.selects RX2 yX2_isCell yX2_isCell, Cond.initialized RX2, Cond.code yX2_isCell cX2_isCell 2 (some .boolean), Cond.fieldLink RX2 76 "SwingCircuits$Circuit" "cells" "I", Cond.methodLink RX2 97 yX2_isAct, Cond.static yX2_isAct, Cond.code yX2_isAct cX2_isAct 2 (some .boolean), Cond.methodLink RX2 91 yX2_startAgain, Cond.instanceMethod yX2_startAgain, Cond.selects RX2 yX2_startAgain yX2_startAgain, Cond.code yX2_startAgain cX2_startAgain 2 none, Cond.fieldLink RX2 19 "SwingCircuits" "now" "LSwingCircuits$Swing;", Cond.fieldLink RX2 26 "SwingCircuits" "happened" "I", Cond.fieldLink RX2 30 "SwingCircuits" "tops" "[I"]
def wsX2_link_r2 : List Cond := [Cond.fieldLink RX2 34 "SwingCircuits" "bottoms" "[I", Cond.methodLink RX2 223 yX1_restart, Cond.instanceMethod yX1_restart, Cond.selects RX1 yX1_restart yX1_restart, Cond.initialized RX1, Cond.code yX1_restart cX1_restart 3 none, Cond.fieldLink RX1 9 "SwingCircuits$Swing" "timeNum" "J", Cond.fieldLink RX1 15 "SwingCircuits$Swing" "timeDen" "J", Cond.fieldLink RX1 18 "SwingCircuits$Swing" "num" "[J", Cond.fieldLink RX1 46 "SwingCircuits$Circuit" "low" "[I", Cond.fieldLink RX1 22 "SwingCircuits$Swing" "den" "[J", Cond.fieldLink RX1 25 "SwingCircuits$Swing" "filling" "[Z", Cond.fieldLink RX1 29 "SwingCircuits$Swing" "counts" "[I"]
def wsX2_link : List Cond := .code yX2_link cX2_link 8 (some .int) :: ((wsX2_link_r1 ++ wsX2_link_r2) ++ wsX20 ++ wsX00 ++ wsX10)
def wsX2_clear : List Cond := .code yX2_clear cX2_clear 2 (some .int) :: ([.fieldLink RX2 12 "SwingCircuits" "circuit" "LSwingCircuits$Circuit;", .fieldLink RX2 76 "SwingCircuits$Circuit" "cells" "I", .fieldLink RX2 101 "SwingCircuits$Circuit" "links" "I", .methodLink RX2 91 yX2_startAgain, .instanceMethod yX2_startAgain, .selects RX2 yX2_startAgain yX2_startAgain, .initialized RX2, .code yX2_startAgain cX2_startAgain 2 none, .fieldLink RX2 19 "SwingCircuits" "now" "LSwingCircuits$Swing;", .fieldLink RX2 26 "SwingCircuits" "happened" "I", .fieldLink RX2 30 "SwingCircuits" "tops" "[I", .fieldLink RX2 34 "SwingCircuits" "bottoms" "[I", .methodLink RX2 223 yX1_restart, .instanceMethod yX1_restart, .selects RX1 yX1_restart yX1_restart, .initialized RX1, .code yX1_restart cX1_restart 3 none, .fieldLink RX1 9 "SwingCircuits$Swing" "timeNum" "J", .fieldLink RX1 15 "SwingCircuits$Swing" "timeDen" "J", .fieldLink RX1 18 "SwingCircuits$Swing" "num" "[J", .fieldLink RX1 46 "SwingCircuits$Circuit" "low" "[I", .fieldLink RX1 22 "SwingCircuits$Swing" "den" "[J", .fieldLink RX1 25 "SwingCircuits$Swing" "filling" "[Z", .fieldLink RX1 29 "SwingCircuits$Swing" "counts" "[I"] ++ wsX20 ++ wsX00 ++ wsX10)
def wsX2_reset : List Cond := .code yX2_reset cX2_reset 2 (some .int) :: ([.fieldLink RX2 26 "SwingCircuits" "happened" "I", .methodLink RX2 91 yX2_startAgain, .instanceMethod yX2_startAgain, .selects RX2 yX2_startAgain yX2_startAgain, .initialized RX2, .code yX2_startAgain cX2_startAgain 2 none, .fieldLink RX2 19 "SwingCircuits" "now" "LSwingCircuits$Swing;", .fieldLink RX2 12 "SwingCircuits" "circuit" "LSwingCircuits$Circuit;", .fieldLink RX2 30 "SwingCircuits" "tops" "[I", .fieldLink RX2 34 "SwingCircuits" "bottoms" "[I", .methodLink RX2 223 yX1_restart, .instanceMethod yX1_restart, .selects RX1 yX1_restart yX1_restart, .initialized RX1, .code yX1_restart cX1_restart 3 none, .fieldLink RX1 9 "SwingCircuits$Swing" "timeNum" "J", .fieldLink RX1 15 "SwingCircuits$Swing" "timeDen" "J", .fieldLink RX1 18 "SwingCircuits$Swing" "num" "[J", .fieldLink RX1 46 "SwingCircuits$Circuit" "low" "[I", .fieldLink RX1 22 "SwingCircuits$Swing" "den" "[J", .fieldLink RX1 25 "SwingCircuits$Swing" "filling" "[Z", .fieldLink RX1 29 "SwingCircuits$Swing" "counts" "[I"] ++ wsX20 ++ wsX10 ++ wsX00)
def wsX2_set_r1 : List Cond := [Cond.fieldLink RX2 12 "SwingCircuits" "circuit" "LSwingCircuits$Circuit;", Cond.methodLink RX2 94 yX2_isCell, Cond.instanceMethod yX2_isCell, Cond.selects RX2 yX2_isCell yX2_isCell, Cond.initialized RX2, Cond.code yX2_isCell cX2_isCell 2 (some .boolean), Cond.fieldLink RX2 76 "SwingCircuits$Circuit" "cells" "I", Cond.methodLink RX2 72 yX2_isRate, Cond.static yX2_isRate, Cond.code yX2_isRate cX2_isRate 1 (some .boolean), Cond.methodLink RX2 122 yX0_ratesOf, Cond.instanceMethod yX0_ratesOf, Cond.selects RX0 yX0_ratesOf yX0_ratesOf, Cond.initialized RX0, Cond.code yX0_ratesOf cX0_ratesOf 2 (some (.array .int)), Cond.fieldLink RX0 22 "SwingCircuits$Circuit" "rise" "[I", Cond.fieldLink RX0 25 "SwingCircuits$Circuit" "fall" "[I", Cond.methodLink RX2 91 yX2_startAgain, Cond.instanceMethod yX2_startAgain, Cond.selects RX2 yX2_startAgain yX2_startAgain, Cond.code yX2_startAgain cX2_startAgain 2 none, Cond.fieldLink RX2 19 "SwingCircuits" "now" "LSwingCircuits$Swing;", Cond.fieldLink RX2 26 "SwingCircuits" "happened" "I", Cond.fieldLink RX2 30 "SwingCircuits" "tops" "[I"]
def wsX2_set_r2 : List Cond := [Cond.fieldLink RX2 34 "SwingCircuits" "bottoms" "[I", Cond.methodLink RX2 223 yX1_restart, Cond.instanceMethod yX1_restart, Cond.selects RX1 yX1_restart yX1_restart, Cond.initialized RX1, Cond.code yX1_restart cX1_restart 3 none, Cond.fieldLink RX1 9 "SwingCircuits$Swing" "timeNum" "J", Cond.fieldLink RX1 15 "SwingCircuits$Swing" "timeDen" "J", Cond.fieldLink RX1 18 "SwingCircuits$Swing" "num" "[J", Cond.fieldLink RX1 46 "SwingCircuits$Circuit" "low" "[I", Cond.fieldLink RX1 22 "SwingCircuits$Swing" "den" "[J", Cond.fieldLink RX1 25 "SwingCircuits$Swing" "filling" "[Z", Cond.fieldLink RX1 29 "SwingCircuits$Swing" "counts" "[I"]
def wsX2_set : List Cond := .code yX2_set cX2_set 6 (some .int) :: ((wsX2_set_r1 ++ wsX2_set_r2) ++ wsX20 ++ wsX00 ++ wsX10)
def wsX2_noteEvent : List Cond := .code yX2_noteEvent cX2_noteEvent 1 none :: ([.fieldLink RX2 26 "SwingCircuits" "happened" "I", .fieldLink RX2 37 "SwingCircuits" "kept" "[J", .fieldLink RX2 19 "SwingCircuits" "now" "LSwingCircuits$Swing;", .fieldLink RX2 231 "SwingCircuits$Swing" "side" "I", .fieldLink RX2 30 "SwingCircuits" "tops" "[I", .fieldLink RX2 234 "SwingCircuits$Swing" "turned" "I", .fieldLink RX2 34 "SwingCircuits" "bottoms" "[I", .methodLink RX2 227 yX1_packedEvent, .instanceMethod yX1_packedEvent, .selects RX1 yX1_packedEvent yX1_packedEvent, .initialized RX1, .code yX1_packedEvent cX1_packedEvent 1 (some .long), .fieldLink RX1 9 "SwingCircuits$Swing" "timeNum" "J", .fieldLink RX1 15 "SwingCircuits$Swing" "timeDen" "J", .fieldLink RX1 33 "SwingCircuits$Swing" "turned" "I", .fieldLink RX1 37 "SwingCircuits$Swing" "side" "I", .static yX2_packed, .initialized RX2, .code yX2_packed cX2_packed 4 (some .long)] ++ wsX20 ++ wsX10)
def wsX2_run_r1 : List Cond := [Cond.fieldLink RX2 23 "SwingCircuits" "trial" "LSwingCircuits$Swing;", Cond.fieldLink RX2 19 "SwingCircuits" "now" "LSwingCircuits$Swing;", Cond.fieldLink RX2 12 "SwingCircuits" "circuit" "LSwingCircuits$Circuit;", Cond.methodLink RX2 126 yX1_copyFrom, Cond.instanceMethod yX1_copyFrom, Cond.selects RX1 yX1_copyFrom yX1_copyFrom, Cond.initialized RX1, Cond.code yX1_copyFrom cX1_copyFrom 3 none, Cond.fieldLink RX1 9 "SwingCircuits$Swing" "timeNum" "J", Cond.fieldLink RX1 15 "SwingCircuits$Swing" "timeDen" "J", Cond.fieldLink RX1 18 "SwingCircuits$Swing" "num" "[J", Cond.fieldLink RX1 22 "SwingCircuits$Swing" "den" "[J", Cond.fieldLink RX1 25 "SwingCircuits$Swing" "filling" "[Z", Cond.fieldLink RX1 29 "SwingCircuits$Swing" "counts" "[I", Cond.methodLink RX2 130 yX1_advance, Cond.instanceMethod yX1_advance, Cond.selects RX1 yX1_advance yX1_advance, Cond.code yX1_advance cX1_advance 2 (some .boolean), Cond.fieldLink RX1 51 "SwingCircuits$Circuit" "cells" "I", Cond.fieldLink RX1 33 "SwingCircuits$Swing" "turned" "I", Cond.fieldLink RX1 37 "SwingCircuits$Swing" "side" "I", Cond.methodLink RX1 54 yX1_chooseTurning, Cond.instanceMethod yX1_chooseTurning, Cond.selects RX1 yX1_chooseTurning yX1_chooseTurning]
def wsX2_run_r2 : List Cond := [Cond.code yX1_chooseTurning cX1_chooseTurning 7 none, Cond.fieldLink RX1 68 "SwingCircuits$Circuit" "high" "[I", Cond.fieldLink RX1 46 "SwingCircuits$Circuit" "low" "[I", Cond.fieldLink RX1 71 "SwingCircuits$Circuit" "rise" "[I", Cond.fieldLink RX1 74 "SwingCircuits$Circuit" "fall" "[I", Cond.fieldLink RX1 43 "SwingCircuits$Swing" "waitDen" "J", Cond.fieldLink RX1 40 "SwingCircuits$Swing" "waitNum" "J", Cond.methodLink RX1 58 yX1_letTimePass, Cond.instanceMethod yX1_letTimePass, Cond.selects RX1 yX1_letTimePass yX1_letTimePass, Cond.code yX1_letTimePass cX1_letTimePass 11 none, Cond.static yX2_commonOf, Cond.initialized RX2, Cond.code yX2_commonOf cX2_commonOf 11 (some .long), Cond.methodLink RX1 61 yX1_passOn, Cond.instanceMethod yX1_passOn, Cond.selects RX1 yX1_passOn yX1_passOn, Cond.code yX1_passOn cX1_passOn 3 none, Cond.fieldLink RX1 81 "SwingCircuits$Circuit" "links" "I", Cond.fieldLink RX1 84 "SwingCircuits$Circuit" "from" "[I", Cond.fieldLink RX1 87 "SwingCircuits$Circuit" "at" "[I", Cond.fieldLink RX1 90 "SwingCircuits$Circuit" "nth" "[I", Cond.methodLink RX1 93 yX1_doAct, Cond.instanceMethod yX1_doAct]
def wsX2_run_r3 : List Cond := [Cond.selects RX1 yX1_doAct yX1_doAct, Cond.code yX1_doAct cX1_doAct 4 none, Cond.fieldLink RX1 97 "SwingCircuits$Circuit" "to" "[I", Cond.fieldLink RX1 100 "SwingCircuits$Circuit" "act" "[I", Cond.fieldLink RX1 103 "SwingCircuits$Circuit" "by" "[I", Cond.methodLink RX1 106 yX1_keepBetweenBars, Cond.instanceMethod yX1_keepBetweenBars, Cond.selects RX1 yX1_keepBetweenBars yX1_keepBetweenBars, Cond.code yX1_keepBetweenBars cX1_keepBetweenBars 3 none, Cond.methodLink RX1 64 yX1_isSpent, Cond.instanceMethod yX1_isSpent, Cond.selects RX1 yX1_isSpent yX1_isSpent, Cond.code yX1_isSpent cX1_isSpent 3 (some .boolean), Cond.methodLink RX1 109 yX1_isTooLong, Cond.static yX1_isTooLong, Cond.code yX1_isTooLong cX1_isTooLong 4 (some .boolean), Cond.constantLong RX1 113 (1000000), Cond.constantLong RX1 115 (-1000000), Cond.methodLink RX2 134 yX2_noteEvent, Cond.instanceMethod yX2_noteEvent, Cond.selects RX2 yX2_noteEvent yX2_noteEvent, Cond.code yX2_noteEvent cX2_noteEvent 1 none, Cond.fieldLink RX2 26 "SwingCircuits" "happened" "I", Cond.fieldLink RX2 37 "SwingCircuits" "kept" "[J"]
def wsX2_run_r4 : List Cond := [Cond.fieldLink RX2 231 "SwingCircuits$Swing" "side" "I", Cond.fieldLink RX2 30 "SwingCircuits" "tops" "[I", Cond.fieldLink RX2 234 "SwingCircuits$Swing" "turned" "I", Cond.fieldLink RX2 34 "SwingCircuits" "bottoms" "[I", Cond.methodLink RX2 227 yX1_packedEvent, Cond.instanceMethod yX1_packedEvent, Cond.selects RX1 yX1_packedEvent yX1_packedEvent, Cond.code yX1_packedEvent cX1_packedEvent 1 (some .long), Cond.static yX2_packed, Cond.code yX2_packed cX2_packed 4 (some .long)]
def wsX2_run : List Cond := .code yX2_run cX2_run 4 (some .int) :: ((wsX2_run_r1 ++ (wsX2_run_r2 ++ (wsX2_run_r3 ++ wsX2_run_r4))) ++ wsX20 ++ wsX10 ++ wsX00)
def wsX2_isNextSpent_r1 : List Cond := [Cond.fieldLink RX2 12 "SwingCircuits" "circuit" "LSwingCircuits$Circuit;", Cond.fieldLink RX2 76 "SwingCircuits$Circuit" "cells" "I", Cond.fieldLink RX2 23 "SwingCircuits" "trial" "LSwingCircuits$Swing;", Cond.fieldLink RX2 19 "SwingCircuits" "now" "LSwingCircuits$Swing;", Cond.methodLink RX2 126 yX1_copyFrom, Cond.instanceMethod yX1_copyFrom, Cond.selects RX1 yX1_copyFrom yX1_copyFrom, Cond.initialized RX1, Cond.code yX1_copyFrom cX1_copyFrom 3 none, Cond.fieldLink RX1 9 "SwingCircuits$Swing" "timeNum" "J", Cond.fieldLink RX1 15 "SwingCircuits$Swing" "timeDen" "J", Cond.fieldLink RX1 18 "SwingCircuits$Swing" "num" "[J", Cond.fieldLink RX1 22 "SwingCircuits$Swing" "den" "[J", Cond.fieldLink RX1 25 "SwingCircuits$Swing" "filling" "[Z", Cond.fieldLink RX1 29 "SwingCircuits$Swing" "counts" "[I", Cond.methodLink RX2 130 yX1_advance, Cond.instanceMethod yX1_advance, Cond.selects RX1 yX1_advance yX1_advance, Cond.code yX1_advance cX1_advance 2 (some .boolean), Cond.fieldLink RX1 51 "SwingCircuits$Circuit" "cells" "I", Cond.fieldLink RX1 33 "SwingCircuits$Swing" "turned" "I", Cond.fieldLink RX1 37 "SwingCircuits$Swing" "side" "I", Cond.methodLink RX1 54 yX1_chooseTurning, Cond.instanceMethod yX1_chooseTurning]
def wsX2_isNextSpent_r2 : List Cond := [Cond.selects RX1 yX1_chooseTurning yX1_chooseTurning, Cond.code yX1_chooseTurning cX1_chooseTurning 7 none, Cond.fieldLink RX1 68 "SwingCircuits$Circuit" "high" "[I", Cond.fieldLink RX1 46 "SwingCircuits$Circuit" "low" "[I", Cond.fieldLink RX1 71 "SwingCircuits$Circuit" "rise" "[I", Cond.fieldLink RX1 74 "SwingCircuits$Circuit" "fall" "[I", Cond.fieldLink RX1 43 "SwingCircuits$Swing" "waitDen" "J", Cond.fieldLink RX1 40 "SwingCircuits$Swing" "waitNum" "J", Cond.methodLink RX1 58 yX1_letTimePass, Cond.instanceMethod yX1_letTimePass, Cond.selects RX1 yX1_letTimePass yX1_letTimePass, Cond.code yX1_letTimePass cX1_letTimePass 11 none, Cond.static yX2_commonOf, Cond.initialized RX2, Cond.code yX2_commonOf cX2_commonOf 11 (some .long), Cond.methodLink RX1 61 yX1_passOn, Cond.instanceMethod yX1_passOn, Cond.selects RX1 yX1_passOn yX1_passOn, Cond.code yX1_passOn cX1_passOn 3 none, Cond.fieldLink RX1 81 "SwingCircuits$Circuit" "links" "I", Cond.fieldLink RX1 84 "SwingCircuits$Circuit" "from" "[I", Cond.fieldLink RX1 87 "SwingCircuits$Circuit" "at" "[I", Cond.fieldLink RX1 90 "SwingCircuits$Circuit" "nth" "[I", Cond.methodLink RX1 93 yX1_doAct]
def wsX2_isNextSpent_r3 : List Cond := [Cond.instanceMethod yX1_doAct, Cond.selects RX1 yX1_doAct yX1_doAct, Cond.code yX1_doAct cX1_doAct 4 none, Cond.fieldLink RX1 97 "SwingCircuits$Circuit" "to" "[I", Cond.fieldLink RX1 100 "SwingCircuits$Circuit" "act" "[I", Cond.fieldLink RX1 103 "SwingCircuits$Circuit" "by" "[I", Cond.methodLink RX1 106 yX1_keepBetweenBars, Cond.instanceMethod yX1_keepBetweenBars, Cond.selects RX1 yX1_keepBetweenBars yX1_keepBetweenBars, Cond.code yX1_keepBetweenBars cX1_keepBetweenBars 3 none, Cond.methodLink RX1 64 yX1_isSpent, Cond.instanceMethod yX1_isSpent, Cond.selects RX1 yX1_isSpent yX1_isSpent, Cond.code yX1_isSpent cX1_isSpent 3 (some .boolean), Cond.methodLink RX1 109 yX1_isTooLong, Cond.static yX1_isTooLong, Cond.code yX1_isTooLong cX1_isTooLong 4 (some .boolean), Cond.constantLong RX1 113 (1000000), Cond.constantLong RX1 115 (-1000000)]
def wsX2_isNextSpent : List Cond := .code yX2_isNextSpent cX2_isNextSpent 1 (some .boolean) :: ((wsX2_isNextSpent_r1 ++ (wsX2_isNextSpent_r2 ++ wsX2_isNextSpent_r3)) ++ wsX20 ++ wsX00 ++ wsX10)
def wsX2_count_r1 : List Cond := [Cond.fieldLink RX2 12 "SwingCircuits" "circuit" "LSwingCircuits$Circuit;", Cond.fieldLink RX2 76 "SwingCircuits$Circuit" "cells" "I", Cond.fieldLink RX2 101 "SwingCircuits$Circuit" "links" "I", Cond.fieldLink RX2 26 "SwingCircuits" "happened" "I", Cond.fieldLink RX2 19 "SwingCircuits" "now" "LSwingCircuits$Swing;", Cond.fieldLink RX2 137 "SwingCircuits$Swing" "timeNum" "J", Cond.fieldLink RX2 141 "SwingCircuits$Swing" "timeDen" "J", Cond.fieldLink RX2 54 "SwingCircuits" "stocked" "I", Cond.fieldLink RX2 63 "SwingCircuits" "measures" "I", Cond.methodLink RX2 144 yX2_isNextSpent, Cond.instanceMethod yX2_isNextSpent, Cond.selects RX2 yX2_isNextSpent yX2_isNextSpent, Cond.initialized RX2, Cond.code yX2_isNextSpent cX2_isNextSpent 1 (some .boolean), Cond.fieldLink RX2 23 "SwingCircuits" "trial" "LSwingCircuits$Swing;", Cond.methodLink RX2 126 yX1_copyFrom, Cond.instanceMethod yX1_copyFrom, Cond.selects RX1 yX1_copyFrom yX1_copyFrom, Cond.initialized RX1, Cond.code yX1_copyFrom cX1_copyFrom 3 none, Cond.fieldLink RX1 9 "SwingCircuits$Swing" "timeNum" "J", Cond.fieldLink RX1 15 "SwingCircuits$Swing" "timeDen" "J", Cond.fieldLink RX1 18 "SwingCircuits$Swing" "num" "[J", Cond.fieldLink RX1 22 "SwingCircuits$Swing" "den" "[J"]
def wsX2_count_r2 : List Cond := [Cond.fieldLink RX1 25 "SwingCircuits$Swing" "filling" "[Z", Cond.fieldLink RX1 29 "SwingCircuits$Swing" "counts" "[I", Cond.methodLink RX2 130 yX1_advance, Cond.instanceMethod yX1_advance, Cond.selects RX1 yX1_advance yX1_advance, Cond.code yX1_advance cX1_advance 2 (some .boolean), Cond.fieldLink RX1 51 "SwingCircuits$Circuit" "cells" "I", Cond.fieldLink RX1 33 "SwingCircuits$Swing" "turned" "I", Cond.fieldLink RX1 37 "SwingCircuits$Swing" "side" "I", Cond.methodLink RX1 54 yX1_chooseTurning, Cond.instanceMethod yX1_chooseTurning, Cond.selects RX1 yX1_chooseTurning yX1_chooseTurning, Cond.code yX1_chooseTurning cX1_chooseTurning 7 none, Cond.fieldLink RX1 68 "SwingCircuits$Circuit" "high" "[I", Cond.fieldLink RX1 46 "SwingCircuits$Circuit" "low" "[I", Cond.fieldLink RX1 71 "SwingCircuits$Circuit" "rise" "[I", Cond.fieldLink RX1 74 "SwingCircuits$Circuit" "fall" "[I", Cond.fieldLink RX1 43 "SwingCircuits$Swing" "waitDen" "J", Cond.fieldLink RX1 40 "SwingCircuits$Swing" "waitNum" "J", Cond.methodLink RX1 58 yX1_letTimePass, Cond.instanceMethod yX1_letTimePass, Cond.selects RX1 yX1_letTimePass yX1_letTimePass, Cond.code yX1_letTimePass cX1_letTimePass 11 none, Cond.static yX2_commonOf]
def wsX2_count_r3 : List Cond := [Cond.code yX2_commonOf cX2_commonOf 11 (some .long), Cond.methodLink RX1 61 yX1_passOn, Cond.instanceMethod yX1_passOn, Cond.selects RX1 yX1_passOn yX1_passOn, Cond.code yX1_passOn cX1_passOn 3 none, Cond.fieldLink RX1 81 "SwingCircuits$Circuit" "links" "I", Cond.fieldLink RX1 84 "SwingCircuits$Circuit" "from" "[I", Cond.fieldLink RX1 87 "SwingCircuits$Circuit" "at" "[I", Cond.fieldLink RX1 90 "SwingCircuits$Circuit" "nth" "[I", Cond.methodLink RX1 93 yX1_doAct, Cond.instanceMethod yX1_doAct, Cond.selects RX1 yX1_doAct yX1_doAct, Cond.code yX1_doAct cX1_doAct 4 none, Cond.fieldLink RX1 97 "SwingCircuits$Circuit" "to" "[I", Cond.fieldLink RX1 100 "SwingCircuits$Circuit" "act" "[I", Cond.fieldLink RX1 103 "SwingCircuits$Circuit" "by" "[I", Cond.methodLink RX1 106 yX1_keepBetweenBars, Cond.instanceMethod yX1_keepBetweenBars, Cond.selects RX1 yX1_keepBetweenBars yX1_keepBetweenBars, Cond.code yX1_keepBetweenBars cX1_keepBetweenBars 3 none, Cond.methodLink RX1 64 yX1_isSpent, Cond.instanceMethod yX1_isSpent, Cond.selects RX1 yX1_isSpent yX1_isSpent, Cond.code yX1_isSpent cX1_isSpent 3 (some .boolean)]
def wsX2_count_r4 : List Cond := [Cond.methodLink RX1 109 yX1_isTooLong, Cond.static yX1_isTooLong, Cond.code yX1_isTooLong cX1_isTooLong 4 (some .boolean), Cond.constantLong RX1 113 (1000000), Cond.constantLong RX1 115 (-1000000)]
def wsX2_count : List Cond := .code yX2_count cX2_count 2 (some .int) :: ((wsX2_count_r1 ++ (wsX2_count_r2 ++ (wsX2_count_r3 ++ wsX2_count_r4))) ++ wsX20 ++ wsX00 ++ wsX10)
def wsX2_beatTerm : List Cond := .code yX2_beatTerm cX2_beatTerm 7 (some .int) :: ([.fieldLink RX2 12 "SwingCircuits" "circuit" "LSwingCircuits$Circuit;", .fieldLink RX2 85 "SwingCircuits$Circuit" "rise" "[I", .fieldLink RX2 88 "SwingCircuits$Circuit" "fall" "[I", .methodLink RX2 260 yX0_span, .instanceMethod yX0_span, .selects RX0 yX0_span yX0_span, .initialized RX0, .code yX0_span cX0_span 2 (some .int), .fieldLink RX0 19 "SwingCircuits$Circuit" "high" "[I", .fieldLink RX0 15 "SwingCircuits$Circuit" "low" "[I", .methodLink RX2 257 yX2_commonOf, .static yX2_commonOf, .initialized RX2, .code yX2_commonOf cX2_commonOf 11 (some .long)] ++ wsX20 ++ wsX00)
/-! own: the printed words of the throw take pool number 7 for the super call of NoSuchElementException(String); its class file has 13 -/
def ne_code : ByteArray := ⟨#[0x2a, 0x2b, 0xb7, 0x00, 0x0d, 0xb1]⟩
def ne_NE : String := "java/util/NoSuchElementException"
def ne_RE : String := "java/lang/RuntimeException"
def ne_EX : String := "java/lang/Exception"
def ne_last : List Cond := [.methodLink RX2 152 (Bundle.initS ne_NE), .instantiable ne_NE 6, .castable ne_NE ne_NE, .selects ne_NE Bundle.tFill0 Bundle.tFill0, .selects ne_NE Bundle.tFill Bundle.tFill, .lays ne_NE Bundle.tN "cause" "Ljava/lang/Throwable;", .lays ne_NE Bundle.tN "stackTrace" Bundle.steD, .lays ne_NE Bundle.tN "suppressedExceptions" Bundle.listD, .lays ne_NE Bundle.tN "detailMessage" "Ljava/lang/String;", .isRef (.static Bundle.tN "UNASSIGNED_STACK" Bundle.steD), .isRef (.static Bundle.tN "SUPPRESSED_SENTINEL" Bundle.listD), .fieldLink Bundle.tN 198 Bundle.tN "backtrace" "Ljava/lang/Object;", .lays Bundle.tN Bundle.tN "backtrace" "Ljava/lang/Object;", .lays ne_NE Bundle.tN "backtrace" "Ljava/lang/Object;"]
def ne_all : List Cond := Bundle.throwableAtoms ++ Bundle.throwableSAtoms ++ (Bundle.passSAtoms ne_NE ne_RE 13 ne_code ++ Bundle.chainSAtoms ne_RE [ne_EX]) ++ ne_last
def wsNE : List Cond := (ne_all.filter vx_no).filter goodWord
def wsX2_of_r1 : List Cond := [Cond.classLink RX2 148 "java/util/NoSuchElementException", Cond.initialized "java/util/NoSuchElementException", Cond.fieldLink RX2 19 "SwingCircuits" "now" "LSwingCircuits$Swing;", Cond.fieldLink RX2 155 "SwingCircuits$Swing" "num" "[J", Cond.fieldLink RX2 158 "SwingCircuits$Swing" "den" "[J", Cond.fieldLink RX2 161 "SwingCircuits$Swing" "filling" "[Z", Cond.fieldLink RX2 30 "SwingCircuits" "tops" "[I", Cond.fieldLink RX2 34 "SwingCircuits" "bottoms" "[I", Cond.methodLink RX2 94 yX2_isCell, Cond.instanceMethod yX2_isCell, Cond.selects RX2 yX2_isCell yX2_isCell, Cond.initialized RX2, Cond.code yX2_isCell cX2_isCell 2 (some .boolean), Cond.fieldLink RX2 12 "SwingCircuits" "circuit" "LSwingCircuits$Circuit;", Cond.fieldLink RX2 76 "SwingCircuits$Circuit" "cells" "I", Cond.methodLink RX2 165 yX2_beatTerm, Cond.instanceMethod yX2_beatTerm, Cond.selects RX2 yX2_beatTerm yX2_beatTerm, Cond.code yX2_beatTerm cX2_beatTerm 7 (some .int), Cond.fieldLink RX2 85 "SwingCircuits$Circuit" "rise" "[I", Cond.fieldLink RX2 88 "SwingCircuits$Circuit" "fall" "[I", Cond.methodLink RX2 260 yX0_span, Cond.instanceMethod yX0_span, Cond.selects RX0 yX0_span yX0_span]
def wsX2_of_r2 : List Cond := [Cond.initialized RX0, Cond.code yX0_span cX0_span 2 (some .int), Cond.fieldLink RX0 19 "SwingCircuits$Circuit" "high" "[I", Cond.fieldLink RX0 15 "SwingCircuits$Circuit" "low" "[I", Cond.methodLink RX2 257 yX2_commonOf, Cond.static yX2_commonOf, Cond.code yX2_commonOf cX2_commonOf 11 (some .long)]
def wsX2_of : List Cond := .code yX2_of cX2_of 3 (some .int) :: ((wsX2_of_r1 ++ wsX2_of_r2) ++ wsX20 ++ wsX10 ++ wsX00 ++ wsNE)
def wsX2_counted : List Cond := .code yX2_counted cX2_counted 2 (some .int) :: ([.fieldLink RX2 12 "SwingCircuits" "circuit" "LSwingCircuits$Circuit;", .fieldLink RX2 101 "SwingCircuits$Circuit" "links" "I", .fieldLink RX2 19 "SwingCircuits" "now" "LSwingCircuits$Swing;", .fieldLink RX2 171 "SwingCircuits$Swing" "counts" "[I"] ++ wsX20 ++ wsX00 ++ wsX10)
def wsX2_turnedIn : List Cond := .code yX2_turnedIn cX2_turnedIn 2 (some .int) :: ([])
def wsX2_sideIn : List Cond := .code yX2_sideIn cX2_sideIn 2 (some .int) :: ([])
def wsX2_timeNumIn : List Cond := .code yX2_timeNumIn cX2_timeNumIn 2 (some .long) :: ([])
def wsX2_timeDenIn : List Cond := .code yX2_timeDenIn cX2_timeDenIn 2 (some .long) :: ([.constantLong RX2 267 (1048575)])
def wsX2_event : List Cond := .code yX2_event cX2_event 3 (some .int) :: ([.fieldLink RX2 26 "SwingCircuits" "happened" "I", .fieldLink RX2 37 "SwingCircuits" "kept" "[J", .methodLink RX2 174 yX2_turnedIn, .static yX2_turnedIn, .initialized RX2, .code yX2_turnedIn cX2_turnedIn 2 (some .int), .methodLink RX2 178 yX2_sideIn, .static yX2_sideIn, .code yX2_sideIn cX2_sideIn 2 (some .int), .methodLink RX2 181 yX2_timeNumIn, .static yX2_timeNumIn, .code yX2_timeNumIn cX2_timeNumIn 2 (some .long), .methodLink RX2 185 yX2_timeDenIn, .static yX2_timeDenIn, .code yX2_timeDenIn cX2_timeDenIn 2 (some .long), .constantLong RX2 267 (1048575)] ++ wsX20)
def wsX2_writeTrail : List Cond := .code yX2_writeTrail cX2_writeTrail 4 none :: ([.fieldLink RX2 41 "SwingCircuits" "trail" "[J", .fieldLink RX2 23 "SwingCircuits" "trial" "LSwingCircuits$Swing;", .fieldLink RX2 155 "SwingCircuits$Swing" "num" "[J", .fieldLink RX2 158 "SwingCircuits$Swing" "den" "[J", .methodLink RX2 237 yX2_packed, .static yX2_packed, .initialized RX2, .code yX2_packed cX2_packed 4 (some .long), .methodLink RX2 241 yX1_packedMarks, .instanceMethod yX1_packedMarks, .selects RX1 yX1_packedMarks yX1_packedMarks, .initialized RX1, .code yX1_packedMarks cX1_packedMarks 4 (some .long), .constantLong RX1 120 (2), .fieldLink RX1 25 "SwingCircuits$Swing" "filling" "[Z", .fieldLink RX1 29 "SwingCircuits$Swing" "counts" "[I", .methodLink RX2 227 yX1_packedEvent, .instanceMethod yX1_packedEvent, .selects RX1 yX1_packedEvent yX1_packedEvent, .code yX1_packedEvent cX1_packedEvent 1 (some .long), .fieldLink RX1 9 "SwingCircuits$Swing" "timeNum" "J", .fieldLink RX1 15 "SwingCircuits$Swing" "timeDen" "J", .fieldLink RX1 33 "SwingCircuits$Swing" "turned" "I", .fieldLink RX1 37 "SwingCircuits$Swing" "side" "I"] ++ wsX20 ++ wsX10)
def wsX2_isSameState : List Cond := .code yX2_isSameState cX2_isSameState 4 (some .boolean) :: ([.fieldLink RX2 41 "SwingCircuits" "trail" "[J"] ++ wsX20)
def wsX2_sameAhead : List Cond := .code yX2_sameAhead cX2_sameAhead 3 (some .int) :: ([.methodLink RX2 244 yX2_isSameState, .instanceMethod yX2_isSameState, .selects RX2 yX2_isSameState yX2_isSameState, .initialized RX2, .code yX2_isSameState cX2_isSameState 4 (some .boolean), .fieldLink RX2 41 "SwingCircuits" "trail" "[J"] ++ wsX20)
def wsX2_eventInRow : List Cond := .code yX2_eventInRow cX2_eventInRow 2 (some .long) :: ([.fieldLink RX2 41 "SwingCircuits" "trail" "[J"] ++ wsX20)
def wsX2_betweenNum : List Cond := .code yX2_betweenNum cX2_betweenNum 4 (some .long) :: ([.methodLink RX2 181 yX2_timeNumIn, .static yX2_timeNumIn, .initialized RX2, .code yX2_timeNumIn cX2_timeNumIn 2 (some .long), .methodLink RX2 185 yX2_timeDenIn, .static yX2_timeDenIn, .code yX2_timeDenIn cX2_timeDenIn 2 (some .long), .constantLong RX2 267 (1048575)])
def wsX2_betweenDen : List Cond := .code yX2_betweenDen cX2_betweenDen 4 (some .long) :: ([.methodLink RX2 185 yX2_timeDenIn, .static yX2_timeDenIn, .initialized RX2, .code yX2_timeDenIn cX2_timeDenIn 2 (some .long), .constantLong RX2 267 (1048575)])
def wsX2_keepRing_r1 : List Cond := [Cond.fieldLink RX2 44 "SwingCircuits" "ringAnswers" "[J", Cond.fieldLink RX2 47 "SwingCircuits" "ringFound" "Z", Cond.methodLink RX2 247 yX2_eventInRow, Cond.instanceMethod yX2_eventInRow, Cond.selects RX2 yX2_eventInRow yX2_eventInRow, Cond.initialized RX2, Cond.code yX2_eventInRow cX2_eventInRow 2 (some .long), Cond.fieldLink RX2 41 "SwingCircuits" "trail" "[J", Cond.methodLink RX2 251 yX2_betweenNum, Cond.static yX2_betweenNum, Cond.code yX2_betweenNum cX2_betweenNum 4 (some .long), Cond.methodLink RX2 181 yX2_timeNumIn, Cond.static yX2_timeNumIn, Cond.code yX2_timeNumIn cX2_timeNumIn 2 (some .long), Cond.methodLink RX2 185 yX2_timeDenIn, Cond.static yX2_timeDenIn, Cond.code yX2_timeDenIn cX2_timeDenIn 2 (some .long), Cond.constantLong RX2 267 (1048575), Cond.methodLink RX2 254 yX2_betweenDen, Cond.static yX2_betweenDen, Cond.code yX2_betweenDen cX2_betweenDen 4 (some .long), Cond.methodLink RX2 257 yX2_commonOf, Cond.static yX2_commonOf, Cond.code yX2_commonOf cX2_commonOf 11 (some .long)]
def wsX2_keepRing_r2 : List Cond := [Cond.methodLink RX2 178 yX2_sideIn, Cond.static yX2_sideIn, Cond.code yX2_sideIn cX2_sideIn 2 (some .int), Cond.methodLink RX2 174 yX2_turnedIn, Cond.static yX2_turnedIn, Cond.code yX2_turnedIn cX2_turnedIn 2 (some .int)]
def wsX2_keepRing : List Cond := .code yX2_keepRing cX2_keepRing 10 none :: ((wsX2_keepRing_r1 ++ wsX2_keepRing_r2) ++ wsX20)
def wsX2_ring_r1 : List Cond := [Cond.fieldLink RX2 12 "SwingCircuits" "circuit" "LSwingCircuits$Circuit;", Cond.fieldLink RX2 76 "SwingCircuits$Circuit" "cells" "I", Cond.fieldLink RX2 23 "SwingCircuits" "trial" "LSwingCircuits$Swing;", Cond.fieldLink RX2 19 "SwingCircuits" "now" "LSwingCircuits$Swing;", Cond.methodLink RX2 126 yX1_copyFrom, Cond.instanceMethod yX1_copyFrom, Cond.selects RX1 yX1_copyFrom yX1_copyFrom, Cond.initialized RX1, Cond.code yX1_copyFrom cX1_copyFrom 3 none, Cond.fieldLink RX1 9 "SwingCircuits$Swing" "timeNum" "J", Cond.fieldLink RX1 15 "SwingCircuits$Swing" "timeDen" "J", Cond.fieldLink RX1 18 "SwingCircuits$Swing" "num" "[J", Cond.fieldLink RX1 22 "SwingCircuits$Swing" "den" "[J", Cond.fieldLink RX1 25 "SwingCircuits$Swing" "filling" "[Z", Cond.fieldLink RX1 29 "SwingCircuits$Swing" "counts" "[I", Cond.methodLink RX2 188 yX2_writeTrail, Cond.instanceMethod yX2_writeTrail, Cond.selects RX2 yX2_writeTrail yX2_writeTrail, Cond.initialized RX2, Cond.code yX2_writeTrail cX2_writeTrail 4 none, Cond.fieldLink RX2 41 "SwingCircuits" "trail" "[J", Cond.fieldLink RX2 155 "SwingCircuits$Swing" "num" "[J", Cond.fieldLink RX2 158 "SwingCircuits$Swing" "den" "[J", Cond.methodLink RX2 237 yX2_packed]
def wsX2_ring_r2 : List Cond := [Cond.static yX2_packed, Cond.code yX2_packed cX2_packed 4 (some .long), Cond.methodLink RX2 241 yX1_packedMarks, Cond.instanceMethod yX1_packedMarks, Cond.selects RX1 yX1_packedMarks yX1_packedMarks, Cond.code yX1_packedMarks cX1_packedMarks 4 (some .long), Cond.constantLong RX1 120 (2), Cond.methodLink RX2 227 yX1_packedEvent, Cond.instanceMethod yX1_packedEvent, Cond.selects RX1 yX1_packedEvent yX1_packedEvent, Cond.code yX1_packedEvent cX1_packedEvent 1 (some .long), Cond.fieldLink RX1 33 "SwingCircuits$Swing" "turned" "I", Cond.fieldLink RX1 37 "SwingCircuits$Swing" "side" "I", Cond.methodLink RX2 130 yX1_advance, Cond.instanceMethod yX1_advance, Cond.selects RX1 yX1_advance yX1_advance, Cond.code yX1_advance cX1_advance 2 (some .boolean), Cond.fieldLink RX1 51 "SwingCircuits$Circuit" "cells" "I", Cond.methodLink RX1 54 yX1_chooseTurning, Cond.instanceMethod yX1_chooseTurning, Cond.selects RX1 yX1_chooseTurning yX1_chooseTurning, Cond.code yX1_chooseTurning cX1_chooseTurning 7 none, Cond.fieldLink RX1 68 "SwingCircuits$Circuit" "high" "[I", Cond.fieldLink RX1 46 "SwingCircuits$Circuit" "low" "[I"]
def wsX2_ring_r3 : List Cond := [Cond.fieldLink RX1 71 "SwingCircuits$Circuit" "rise" "[I", Cond.fieldLink RX1 74 "SwingCircuits$Circuit" "fall" "[I", Cond.fieldLink RX1 43 "SwingCircuits$Swing" "waitDen" "J", Cond.fieldLink RX1 40 "SwingCircuits$Swing" "waitNum" "J", Cond.methodLink RX1 58 yX1_letTimePass, Cond.instanceMethod yX1_letTimePass, Cond.selects RX1 yX1_letTimePass yX1_letTimePass, Cond.code yX1_letTimePass cX1_letTimePass 11 none, Cond.static yX2_commonOf, Cond.code yX2_commonOf cX2_commonOf 11 (some .long), Cond.methodLink RX1 61 yX1_passOn, Cond.instanceMethod yX1_passOn, Cond.selects RX1 yX1_passOn yX1_passOn, Cond.code yX1_passOn cX1_passOn 3 none, Cond.fieldLink RX1 81 "SwingCircuits$Circuit" "links" "I", Cond.fieldLink RX1 84 "SwingCircuits$Circuit" "from" "[I", Cond.fieldLink RX1 87 "SwingCircuits$Circuit" "at" "[I", Cond.fieldLink RX1 90 "SwingCircuits$Circuit" "nth" "[I", Cond.methodLink RX1 93 yX1_doAct, Cond.instanceMethod yX1_doAct, Cond.selects RX1 yX1_doAct yX1_doAct, Cond.code yX1_doAct cX1_doAct 4 none, Cond.fieldLink RX1 97 "SwingCircuits$Circuit" "to" "[I", Cond.fieldLink RX1 100 "SwingCircuits$Circuit" "act" "[I"]
def wsX2_ring_r4 : List Cond := [Cond.fieldLink RX1 103 "SwingCircuits$Circuit" "by" "[I", Cond.methodLink RX1 106 yX1_keepBetweenBars, Cond.instanceMethod yX1_keepBetweenBars, Cond.selects RX1 yX1_keepBetweenBars yX1_keepBetweenBars, Cond.code yX1_keepBetweenBars cX1_keepBetweenBars 3 none, Cond.methodLink RX1 64 yX1_isSpent, Cond.instanceMethod yX1_isSpent, Cond.selects RX1 yX1_isSpent yX1_isSpent, Cond.code yX1_isSpent cX1_isSpent 3 (some .boolean), Cond.methodLink RX1 109 yX1_isTooLong, Cond.static yX1_isTooLong, Cond.code yX1_isTooLong cX1_isTooLong 4 (some .boolean), Cond.constantLong RX1 113 (1000000), Cond.constantLong RX1 115 (-1000000), Cond.methodLink RX2 192 yX2_sameAhead, Cond.instanceMethod yX2_sameAhead, Cond.selects RX2 yX2_sameAhead yX2_sameAhead, Cond.code yX2_sameAhead cX2_sameAhead 3 (some .int), Cond.methodLink RX2 244 yX2_isSameState, Cond.instanceMethod yX2_isSameState, Cond.selects RX2 yX2_isSameState yX2_isSameState, Cond.code yX2_isSameState cX2_isSameState 4 (some .boolean), Cond.methodLink RX2 196 yX2_keepRing, Cond.instanceMethod yX2_keepRing]
def wsX2_ring_r5 : List Cond := [Cond.selects RX2 yX2_keepRing yX2_keepRing, Cond.code yX2_keepRing cX2_keepRing 10 none, Cond.fieldLink RX2 44 "SwingCircuits" "ringAnswers" "[J", Cond.fieldLink RX2 47 "SwingCircuits" "ringFound" "Z", Cond.methodLink RX2 247 yX2_eventInRow, Cond.instanceMethod yX2_eventInRow, Cond.selects RX2 yX2_eventInRow yX2_eventInRow, Cond.code yX2_eventInRow cX2_eventInRow 2 (some .long), Cond.methodLink RX2 251 yX2_betweenNum, Cond.static yX2_betweenNum, Cond.code yX2_betweenNum cX2_betweenNum 4 (some .long), Cond.methodLink RX2 181 yX2_timeNumIn, Cond.static yX2_timeNumIn, Cond.code yX2_timeNumIn cX2_timeNumIn 2 (some .long), Cond.methodLink RX2 185 yX2_timeDenIn, Cond.static yX2_timeDenIn, Cond.code yX2_timeDenIn cX2_timeDenIn 2 (some .long), Cond.constantLong RX2 267 (1048575), Cond.methodLink RX2 254 yX2_betweenDen, Cond.static yX2_betweenDen, Cond.code yX2_betweenDen cX2_betweenDen 4 (some .long), Cond.methodLink RX2 257 yX2_commonOf, Cond.methodLink RX2 178 yX2_sideIn, Cond.static yX2_sideIn]
def wsX2_ring_r6 : List Cond := [Cond.code yX2_sideIn cX2_sideIn 2 (some .int), Cond.methodLink RX2 174 yX2_turnedIn, Cond.static yX2_turnedIn, Cond.code yX2_turnedIn cX2_turnedIn 2 (some .int)]
def wsX2_ring : List Cond := .code yX2_ring cX2_ring 4 (some .int) :: ((wsX2_ring_r1 ++ (wsX2_ring_r2 ++ (wsX2_ring_r3 ++ (wsX2_ring_r4 ++ (wsX2_ring_r5 ++ wsX2_ring_r6))))) ++ wsX20 ++ wsX00 ++ wsX10)
def wsX2_ringed : List Cond := .code yX2_ringed cX2_ringed 2 (some .long) :: ([.fieldLink RX2 47 "SwingCircuits" "ringFound" "Z", .fieldLink RX2 44 "SwingCircuits" "ringAnswers" "[J", .constantLong RX2 200 (-1)] ++ wsX20)
def wsX2_isStocked : List Cond := .code yX2_isStocked cX2_isStocked 3 (some .boolean) :: ([.fieldLink RX2 54 "SwingCircuits" "stocked" "I", .fieldLink RX2 51 "SwingCircuits" "stock" "[I"] ++ wsX20)
def wsX2_drawer : List Cond := .code yX2_drawer cX2_drawer 2 (some .int) :: ([.fieldLink RX2 54 "SwingCircuits" "stocked" "I", .fieldLink RX2 51 "SwingCircuits" "stock" "[I", .methodLink RX2 72 yX2_isRate, .static yX2_isRate, .initialized RX2, .code yX2_isRate cX2_isRate 1 (some .boolean), .methodLink RX2 202 yX2_isStocked, .instanceMethod yX2_isStocked, .selects RX2 yX2_isStocked yX2_isStocked, .code yX2_isStocked cX2_isStocked 3 (some .boolean)] ++ wsX20)
def wsX2_isTerm : List Cond := .code yX2_isTerm cX2_isTerm 1 (some .boolean) :: ([.constant RX2 222 (1000000)])
def wsX2_findWays : List Cond := .code yX2_findWays cX2_findWays 11 (some .int) :: ([.fieldLink RX2 54 "SwingCircuits" "stocked" "I", .fieldLink RX2 12 "SwingCircuits" "circuit" "LSwingCircuits$Circuit;", .fieldLink RX2 51 "SwingCircuits" "stock" "[I", .fieldLink RX2 66 "SwingCircuits" "waysFound" "[I", .methodLink RX2 260 yX0_span, .instanceMethod yX0_span, .selects RX0 yX0_span yX0_span, .initialized RX0, .code yX0_span cX0_span 2 (some .int), .fieldLink RX0 19 "SwingCircuits$Circuit" "high" "[I", .fieldLink RX0 15 "SwingCircuits$Circuit" "low" "[I"] ++ wsX20 ++ wsX00)
def wsX2_parts_r1 : List Cond := [Cond.methodLink RX2 94 yX2_isCell, Cond.instanceMethod yX2_isCell, Cond.selects RX2 yX2_isCell yX2_isCell, Cond.initialized RX2, Cond.code yX2_isCell cX2_isCell 2 (some .boolean), Cond.fieldLink RX2 12 "SwingCircuits" "circuit" "LSwingCircuits$Circuit;", Cond.fieldLink RX2 76 "SwingCircuits$Circuit" "cells" "I", Cond.methodLink RX2 205 yX2_isTerm, Cond.static yX2_isTerm, Cond.code yX2_isTerm cX2_isTerm 1 (some .boolean), Cond.constant RX2 222 (1000000), Cond.methodLink RX2 208 yX2_findWays, Cond.instanceMethod yX2_findWays, Cond.selects RX2 yX2_findWays yX2_findWays, Cond.code yX2_findWays cX2_findWays 11 (some .int), Cond.fieldLink RX2 54 "SwingCircuits" "stocked" "I", Cond.fieldLink RX2 51 "SwingCircuits" "stock" "[I", Cond.fieldLink RX2 66 "SwingCircuits" "waysFound" "[I", Cond.methodLink RX2 260 yX0_span, Cond.instanceMethod yX0_span, Cond.selects RX0 yX0_span yX0_span, Cond.initialized RX0, Cond.code yX0_span cX0_span 2 (some .int), Cond.fieldLink RX0 19 "SwingCircuits$Circuit" "high" "[I"]
def wsX2_parts_r2 : List Cond := [Cond.fieldLink RX0 15 "SwingCircuits$Circuit" "low" "[I"]
def wsX2_parts : List Cond := .code yX2_parts cX2_parts 4 (some .int) :: ((wsX2_parts_r1 ++ wsX2_parts_r2) ++ wsX20 ++ wsX00)
def wsX2_part_r1 : List Cond := [Cond.fieldLink RX2 66 "SwingCircuits" "waysFound" "[I", Cond.methodLink RX2 212 yX2_parts, Cond.instanceMethod yX2_parts, Cond.selects RX2 yX2_parts yX2_parts, Cond.initialized RX2, Cond.code yX2_parts cX2_parts 4 (some .int), Cond.methodLink RX2 94 yX2_isCell, Cond.instanceMethod yX2_isCell, Cond.selects RX2 yX2_isCell yX2_isCell, Cond.code yX2_isCell cX2_isCell 2 (some .boolean), Cond.fieldLink RX2 12 "SwingCircuits" "circuit" "LSwingCircuits$Circuit;", Cond.fieldLink RX2 76 "SwingCircuits$Circuit" "cells" "I", Cond.methodLink RX2 205 yX2_isTerm, Cond.static yX2_isTerm, Cond.code yX2_isTerm cX2_isTerm 1 (some .boolean), Cond.constant RX2 222 (1000000), Cond.methodLink RX2 208 yX2_findWays, Cond.instanceMethod yX2_findWays, Cond.selects RX2 yX2_findWays yX2_findWays, Cond.code yX2_findWays cX2_findWays 11 (some .int), Cond.fieldLink RX2 54 "SwingCircuits" "stocked" "I", Cond.fieldLink RX2 51 "SwingCircuits" "stock" "[I", Cond.methodLink RX2 260 yX0_span, Cond.instanceMethod yX0_span]
def wsX2_part_r2 : List Cond := [Cond.selects RX0 yX0_span yX0_span, Cond.initialized RX0, Cond.code yX0_span cX0_span 2 (some .int), Cond.fieldLink RX0 19 "SwingCircuits$Circuit" "high" "[I", Cond.fieldLink RX0 15 "SwingCircuits$Circuit" "low" "[I"]
def wsX2_part : List Cond := .code yX2_part cX2_part 6 (some .int) :: ((wsX2_part_r1 ++ wsX2_part_r2) ++ wsX20 ++ wsX00)
def wsX2_measure : List Cond := .code yX2_measure cX2_measure 3 (some .int) :: ([.fieldLink RX2 63 "SwingCircuits" "measures" "I", .fieldLink RX2 57 "SwingCircuits" "measuredNum" "[I", .fieldLink RX2 60 "SwingCircuits" "measuredDen" "[I", .methodLink RX2 205 yX2_isTerm, .static yX2_isTerm, .initialized RX2, .code yX2_isTerm cX2_isTerm 1 (some .boolean), .constant RX2 222 (1000000)] ++ wsX20)
def wsX2_forget : List Cond := .code yX2_forget cX2_forget 2 (some .int) :: ([.fieldLink RX2 63 "SwingCircuits" "measures" "I"] ++ wsX20)
def wsX2_isMeasure : List Cond := .code yX2_isMeasure cX2_isMeasure 6 (some .boolean) :: ([.fieldLink RX2 60 "SwingCircuits" "measuredDen" "[I", .fieldLink RX2 57 "SwingCircuits" "measuredNum" "[I", .methodLink RX2 251 yX2_betweenNum, .static yX2_betweenNum, .initialized RX2, .code yX2_betweenNum cX2_betweenNum 4 (some .long), .methodLink RX2 181 yX2_timeNumIn, .static yX2_timeNumIn, .code yX2_timeNumIn cX2_timeNumIn 2 (some .long), .methodLink RX2 185 yX2_timeDenIn, .static yX2_timeDenIn, .code yX2_timeDenIn cX2_timeDenIn 2 (some .long), .constantLong RX2 267 (1048575), .methodLink RX2 254 yX2_betweenDen, .static yX2_betweenDen, .code yX2_betweenDen cX2_betweenDen 4 (some .long)] ++ wsX20)
def wsX2_isMeasuredSo_r1 : List Cond := [Cond.fieldLink RX2 63 "SwingCircuits" "measures" "I", Cond.fieldLink RX2 23 "SwingCircuits" "trial" "LSwingCircuits$Swing;", Cond.fieldLink RX2 12 "SwingCircuits" "circuit" "LSwingCircuits$Circuit;", Cond.fieldLink RX2 234 "SwingCircuits$Swing" "turned" "I", Cond.fieldLink RX2 231 "SwingCircuits$Swing" "side" "I", Cond.methodLink RX2 223 yX1_restart, Cond.instanceMethod yX1_restart, Cond.selects RX1 yX1_restart yX1_restart, Cond.initialized RX1, Cond.code yX1_restart cX1_restart 3 none, Cond.fieldLink RX1 9 "SwingCircuits$Swing" "timeNum" "J", Cond.fieldLink RX1 15 "SwingCircuits$Swing" "timeDen" "J", Cond.fieldLink RX1 18 "SwingCircuits$Swing" "num" "[J", Cond.fieldLink RX1 46 "SwingCircuits$Circuit" "low" "[I", Cond.fieldLink RX1 22 "SwingCircuits$Swing" "den" "[J", Cond.fieldLink RX1 25 "SwingCircuits$Swing" "filling" "[Z", Cond.fieldLink RX1 29 "SwingCircuits$Swing" "counts" "[I", Cond.methodLink RX2 130 yX1_advance, Cond.instanceMethod yX1_advance, Cond.selects RX1 yX1_advance yX1_advance, Cond.code yX1_advance cX1_advance 2 (some .boolean), Cond.fieldLink RX1 51 "SwingCircuits$Circuit" "cells" "I", Cond.fieldLink RX1 33 "SwingCircuits$Swing" "turned" "I", Cond.fieldLink RX1 37 "SwingCircuits$Swing" "side" "I"]
def wsX2_isMeasuredSo_r2 : List Cond := [Cond.methodLink RX1 54 yX1_chooseTurning, Cond.instanceMethod yX1_chooseTurning, Cond.selects RX1 yX1_chooseTurning yX1_chooseTurning, Cond.code yX1_chooseTurning cX1_chooseTurning 7 none, Cond.fieldLink RX1 68 "SwingCircuits$Circuit" "high" "[I", Cond.fieldLink RX1 71 "SwingCircuits$Circuit" "rise" "[I", Cond.fieldLink RX1 74 "SwingCircuits$Circuit" "fall" "[I", Cond.fieldLink RX1 43 "SwingCircuits$Swing" "waitDen" "J", Cond.fieldLink RX1 40 "SwingCircuits$Swing" "waitNum" "J", Cond.methodLink RX1 58 yX1_letTimePass, Cond.instanceMethod yX1_letTimePass, Cond.selects RX1 yX1_letTimePass yX1_letTimePass, Cond.code yX1_letTimePass cX1_letTimePass 11 none, Cond.static yX2_commonOf, Cond.initialized RX2, Cond.code yX2_commonOf cX2_commonOf 11 (some .long), Cond.methodLink RX1 61 yX1_passOn, Cond.instanceMethod yX1_passOn, Cond.selects RX1 yX1_passOn yX1_passOn, Cond.code yX1_passOn cX1_passOn 3 none, Cond.fieldLink RX1 81 "SwingCircuits$Circuit" "links" "I", Cond.fieldLink RX1 84 "SwingCircuits$Circuit" "from" "[I", Cond.fieldLink RX1 87 "SwingCircuits$Circuit" "at" "[I", Cond.fieldLink RX1 90 "SwingCircuits$Circuit" "nth" "[I"]
def wsX2_isMeasuredSo_r3 : List Cond := [Cond.methodLink RX1 93 yX1_doAct, Cond.instanceMethod yX1_doAct, Cond.selects RX1 yX1_doAct yX1_doAct, Cond.code yX1_doAct cX1_doAct 4 none, Cond.fieldLink RX1 97 "SwingCircuits$Circuit" "to" "[I", Cond.fieldLink RX1 100 "SwingCircuits$Circuit" "act" "[I", Cond.fieldLink RX1 103 "SwingCircuits$Circuit" "by" "[I", Cond.methodLink RX1 106 yX1_keepBetweenBars, Cond.instanceMethod yX1_keepBetweenBars, Cond.selects RX1 yX1_keepBetweenBars yX1_keepBetweenBars, Cond.code yX1_keepBetweenBars cX1_keepBetweenBars 3 none, Cond.methodLink RX1 64 yX1_isSpent, Cond.instanceMethod yX1_isSpent, Cond.selects RX1 yX1_isSpent yX1_isSpent, Cond.code yX1_isSpent cX1_isSpent 3 (some .boolean), Cond.methodLink RX1 109 yX1_isTooLong, Cond.static yX1_isTooLong, Cond.code yX1_isTooLong cX1_isTooLong 4 (some .boolean), Cond.constantLong RX1 113 (1000000), Cond.constantLong RX1 115 (-1000000), Cond.methodLink RX2 227 yX1_packedEvent, Cond.instanceMethod yX1_packedEvent, Cond.selects RX1 yX1_packedEvent yX1_packedEvent, Cond.code yX1_packedEvent cX1_packedEvent 1 (some .long)]
def wsX2_isMeasuredSo_r4 : List Cond := [Cond.static yX2_packed, Cond.code yX2_packed cX2_packed 4 (some .long), Cond.methodLink RX2 263 yX2_isMeasure, Cond.instanceMethod yX2_isMeasure, Cond.selects RX2 yX2_isMeasure yX2_isMeasure, Cond.code yX2_isMeasure cX2_isMeasure 6 (some .boolean), Cond.fieldLink RX2 60 "SwingCircuits" "measuredDen" "[I", Cond.fieldLink RX2 57 "SwingCircuits" "measuredNum" "[I", Cond.methodLink RX2 251 yX2_betweenNum, Cond.static yX2_betweenNum, Cond.code yX2_betweenNum cX2_betweenNum 4 (some .long), Cond.methodLink RX2 181 yX2_timeNumIn, Cond.static yX2_timeNumIn, Cond.code yX2_timeNumIn cX2_timeNumIn 2 (some .long), Cond.methodLink RX2 185 yX2_timeDenIn, Cond.static yX2_timeDenIn, Cond.code yX2_timeDenIn cX2_timeDenIn 2 (some .long), Cond.constantLong RX2 267 (1048575), Cond.methodLink RX2 254 yX2_betweenDen, Cond.static yX2_betweenDen, Cond.code yX2_betweenDen cX2_betweenDen 4 (some .long)]
def wsX2_isMeasuredSo : List Cond := .code yX2_isMeasuredSo cX2_isMeasuredSo 8 (some .boolean) :: ((wsX2_isMeasuredSo_r1 ++ (wsX2_isMeasuredSo_r2 ++ (wsX2_isMeasuredSo_r3 ++ wsX2_isMeasuredSo_r4))) ++ wsX20 ++ wsX10 ++ wsX00)
def wsX2_findFaults_r1 : List Cond := [Cond.fieldLink RX2 12 "SwingCircuits" "circuit" "LSwingCircuits$Circuit;", Cond.fieldLink RX2 76 "SwingCircuits$Circuit" "cells" "I", Cond.fieldLink RX2 54 "SwingCircuits" "stocked" "I", Cond.fieldLink RX2 51 "SwingCircuits" "stock" "[I", Cond.fieldLink RX2 69 "SwingCircuits" "faultsFound" "[I", Cond.methodLink RX2 122 yX0_ratesOf, Cond.instanceMethod yX0_ratesOf, Cond.selects RX0 yX0_ratesOf yX0_ratesOf, Cond.initialized RX0, Cond.code yX0_ratesOf cX0_ratesOf 2 (some (.array .int)), Cond.fieldLink RX0 22 "SwingCircuits$Circuit" "rise" "[I", Cond.fieldLink RX0 25 "SwingCircuits$Circuit" "fall" "[I", Cond.methodLink RX2 219 yX2_isMeasuredSo, Cond.instanceMethod yX2_isMeasuredSo, Cond.selects RX2 yX2_isMeasuredSo yX2_isMeasuredSo, Cond.initialized RX2, Cond.code yX2_isMeasuredSo cX2_isMeasuredSo 8 (some .boolean), Cond.fieldLink RX2 63 "SwingCircuits" "measures" "I", Cond.fieldLink RX2 23 "SwingCircuits" "trial" "LSwingCircuits$Swing;", Cond.fieldLink RX2 234 "SwingCircuits$Swing" "turned" "I", Cond.fieldLink RX2 231 "SwingCircuits$Swing" "side" "I", Cond.methodLink RX2 223 yX1_restart, Cond.instanceMethod yX1_restart, Cond.selects RX1 yX1_restart yX1_restart]
def wsX2_findFaults_r2 : List Cond := [Cond.initialized RX1, Cond.code yX1_restart cX1_restart 3 none, Cond.fieldLink RX1 9 "SwingCircuits$Swing" "timeNum" "J", Cond.fieldLink RX1 15 "SwingCircuits$Swing" "timeDen" "J", Cond.fieldLink RX1 18 "SwingCircuits$Swing" "num" "[J", Cond.fieldLink RX1 46 "SwingCircuits$Circuit" "low" "[I", Cond.fieldLink RX1 22 "SwingCircuits$Swing" "den" "[J", Cond.fieldLink RX1 25 "SwingCircuits$Swing" "filling" "[Z", Cond.fieldLink RX1 29 "SwingCircuits$Swing" "counts" "[I", Cond.methodLink RX2 130 yX1_advance, Cond.instanceMethod yX1_advance, Cond.selects RX1 yX1_advance yX1_advance, Cond.code yX1_advance cX1_advance 2 (some .boolean), Cond.fieldLink RX1 51 "SwingCircuits$Circuit" "cells" "I", Cond.fieldLink RX1 33 "SwingCircuits$Swing" "turned" "I", Cond.fieldLink RX1 37 "SwingCircuits$Swing" "side" "I", Cond.methodLink RX1 54 yX1_chooseTurning, Cond.instanceMethod yX1_chooseTurning, Cond.selects RX1 yX1_chooseTurning yX1_chooseTurning, Cond.code yX1_chooseTurning cX1_chooseTurning 7 none, Cond.fieldLink RX1 68 "SwingCircuits$Circuit" "high" "[I", Cond.fieldLink RX1 71 "SwingCircuits$Circuit" "rise" "[I", Cond.fieldLink RX1 74 "SwingCircuits$Circuit" "fall" "[I", Cond.fieldLink RX1 43 "SwingCircuits$Swing" "waitDen" "J"]
def wsX2_findFaults_r3 : List Cond := [Cond.fieldLink RX1 40 "SwingCircuits$Swing" "waitNum" "J", Cond.methodLink RX1 58 yX1_letTimePass, Cond.instanceMethod yX1_letTimePass, Cond.selects RX1 yX1_letTimePass yX1_letTimePass, Cond.code yX1_letTimePass cX1_letTimePass 11 none, Cond.static yX2_commonOf, Cond.code yX2_commonOf cX2_commonOf 11 (some .long), Cond.methodLink RX1 61 yX1_passOn, Cond.instanceMethod yX1_passOn, Cond.selects RX1 yX1_passOn yX1_passOn, Cond.code yX1_passOn cX1_passOn 3 none, Cond.fieldLink RX1 81 "SwingCircuits$Circuit" "links" "I", Cond.fieldLink RX1 84 "SwingCircuits$Circuit" "from" "[I", Cond.fieldLink RX1 87 "SwingCircuits$Circuit" "at" "[I", Cond.fieldLink RX1 90 "SwingCircuits$Circuit" "nth" "[I", Cond.methodLink RX1 93 yX1_doAct, Cond.instanceMethod yX1_doAct, Cond.selects RX1 yX1_doAct yX1_doAct, Cond.code yX1_doAct cX1_doAct 4 none, Cond.fieldLink RX1 97 "SwingCircuits$Circuit" "to" "[I", Cond.fieldLink RX1 100 "SwingCircuits$Circuit" "act" "[I", Cond.fieldLink RX1 103 "SwingCircuits$Circuit" "by" "[I", Cond.methodLink RX1 106 yX1_keepBetweenBars, Cond.instanceMethod yX1_keepBetweenBars]
def wsX2_findFaults_r4 : List Cond := [Cond.selects RX1 yX1_keepBetweenBars yX1_keepBetweenBars, Cond.code yX1_keepBetweenBars cX1_keepBetweenBars 3 none, Cond.methodLink RX1 64 yX1_isSpent, Cond.instanceMethod yX1_isSpent, Cond.selects RX1 yX1_isSpent yX1_isSpent, Cond.code yX1_isSpent cX1_isSpent 3 (some .boolean), Cond.methodLink RX1 109 yX1_isTooLong, Cond.static yX1_isTooLong, Cond.code yX1_isTooLong cX1_isTooLong 4 (some .boolean), Cond.constantLong RX1 113 (1000000), Cond.constantLong RX1 115 (-1000000), Cond.methodLink RX2 227 yX1_packedEvent, Cond.instanceMethod yX1_packedEvent, Cond.selects RX1 yX1_packedEvent yX1_packedEvent, Cond.code yX1_packedEvent cX1_packedEvent 1 (some .long), Cond.static yX2_packed, Cond.code yX2_packed cX2_packed 4 (some .long), Cond.methodLink RX2 263 yX2_isMeasure, Cond.instanceMethod yX2_isMeasure, Cond.selects RX2 yX2_isMeasure yX2_isMeasure, Cond.code yX2_isMeasure cX2_isMeasure 6 (some .boolean), Cond.fieldLink RX2 60 "SwingCircuits" "measuredDen" "[I", Cond.fieldLink RX2 57 "SwingCircuits" "measuredNum" "[I", Cond.methodLink RX2 251 yX2_betweenNum]
def wsX2_findFaults_r5 : List Cond := [Cond.static yX2_betweenNum, Cond.code yX2_betweenNum cX2_betweenNum 4 (some .long), Cond.methodLink RX2 181 yX2_timeNumIn, Cond.static yX2_timeNumIn, Cond.code yX2_timeNumIn cX2_timeNumIn 2 (some .long), Cond.methodLink RX2 185 yX2_timeDenIn, Cond.static yX2_timeDenIn, Cond.code yX2_timeDenIn cX2_timeDenIn 2 (some .long), Cond.constantLong RX2 267 (1048575), Cond.methodLink RX2 254 yX2_betweenDen, Cond.static yX2_betweenDen, Cond.code yX2_betweenDen cX2_betweenDen 4 (some .long)]
def wsX2_findFaults : List Cond := .code yX2_findFaults cX2_findFaults 8 (some .int) :: ((wsX2_findFaults_r1 ++ (wsX2_findFaults_r2 ++ (wsX2_findFaults_r3 ++ (wsX2_findFaults_r4 ++ wsX2_findFaults_r5)))) ++ wsX20 ++ wsX00 ++ wsX10)
def wsX2_faults_r1 : List Cond := [Cond.methodLink RX2 94 yX2_isCell, Cond.instanceMethod yX2_isCell, Cond.selects RX2 yX2_isCell yX2_isCell, Cond.initialized RX2, Cond.code yX2_isCell cX2_isCell 2 (some .boolean), Cond.fieldLink RX2 12 "SwingCircuits" "circuit" "LSwingCircuits$Circuit;", Cond.fieldLink RX2 76 "SwingCircuits$Circuit" "cells" "I", Cond.methodLink RX2 216 yX2_findFaults, Cond.instanceMethod yX2_findFaults, Cond.selects RX2 yX2_findFaults yX2_findFaults, Cond.code yX2_findFaults cX2_findFaults 8 (some .int), Cond.fieldLink RX2 54 "SwingCircuits" "stocked" "I", Cond.fieldLink RX2 51 "SwingCircuits" "stock" "[I", Cond.fieldLink RX2 69 "SwingCircuits" "faultsFound" "[I", Cond.methodLink RX2 122 yX0_ratesOf, Cond.instanceMethod yX0_ratesOf, Cond.selects RX0 yX0_ratesOf yX0_ratesOf, Cond.initialized RX0, Cond.code yX0_ratesOf cX0_ratesOf 2 (some (.array .int)), Cond.fieldLink RX0 22 "SwingCircuits$Circuit" "rise" "[I", Cond.fieldLink RX0 25 "SwingCircuits$Circuit" "fall" "[I", Cond.methodLink RX2 219 yX2_isMeasuredSo, Cond.instanceMethod yX2_isMeasuredSo, Cond.selects RX2 yX2_isMeasuredSo yX2_isMeasuredSo]
def wsX2_faults_r2 : List Cond := [Cond.code yX2_isMeasuredSo cX2_isMeasuredSo 8 (some .boolean), Cond.fieldLink RX2 63 "SwingCircuits" "measures" "I", Cond.fieldLink RX2 23 "SwingCircuits" "trial" "LSwingCircuits$Swing;", Cond.fieldLink RX2 234 "SwingCircuits$Swing" "turned" "I", Cond.fieldLink RX2 231 "SwingCircuits$Swing" "side" "I", Cond.methodLink RX2 223 yX1_restart, Cond.instanceMethod yX1_restart, Cond.selects RX1 yX1_restart yX1_restart, Cond.initialized RX1, Cond.code yX1_restart cX1_restart 3 none, Cond.fieldLink RX1 9 "SwingCircuits$Swing" "timeNum" "J", Cond.fieldLink RX1 15 "SwingCircuits$Swing" "timeDen" "J", Cond.fieldLink RX1 18 "SwingCircuits$Swing" "num" "[J", Cond.fieldLink RX1 46 "SwingCircuits$Circuit" "low" "[I", Cond.fieldLink RX1 22 "SwingCircuits$Swing" "den" "[J", Cond.fieldLink RX1 25 "SwingCircuits$Swing" "filling" "[Z", Cond.fieldLink RX1 29 "SwingCircuits$Swing" "counts" "[I", Cond.methodLink RX2 130 yX1_advance, Cond.instanceMethod yX1_advance, Cond.selects RX1 yX1_advance yX1_advance, Cond.code yX1_advance cX1_advance 2 (some .boolean), Cond.fieldLink RX1 51 "SwingCircuits$Circuit" "cells" "I", Cond.fieldLink RX1 33 "SwingCircuits$Swing" "turned" "I", Cond.fieldLink RX1 37 "SwingCircuits$Swing" "side" "I"]
def wsX2_faults_r3 : List Cond := [Cond.methodLink RX1 54 yX1_chooseTurning, Cond.instanceMethod yX1_chooseTurning, Cond.selects RX1 yX1_chooseTurning yX1_chooseTurning, Cond.code yX1_chooseTurning cX1_chooseTurning 7 none, Cond.fieldLink RX1 68 "SwingCircuits$Circuit" "high" "[I", Cond.fieldLink RX1 71 "SwingCircuits$Circuit" "rise" "[I", Cond.fieldLink RX1 74 "SwingCircuits$Circuit" "fall" "[I", Cond.fieldLink RX1 43 "SwingCircuits$Swing" "waitDen" "J", Cond.fieldLink RX1 40 "SwingCircuits$Swing" "waitNum" "J", Cond.methodLink RX1 58 yX1_letTimePass, Cond.instanceMethod yX1_letTimePass, Cond.selects RX1 yX1_letTimePass yX1_letTimePass, Cond.code yX1_letTimePass cX1_letTimePass 11 none, Cond.static yX2_commonOf, Cond.code yX2_commonOf cX2_commonOf 11 (some .long), Cond.methodLink RX1 61 yX1_passOn, Cond.instanceMethod yX1_passOn, Cond.selects RX1 yX1_passOn yX1_passOn, Cond.code yX1_passOn cX1_passOn 3 none, Cond.fieldLink RX1 81 "SwingCircuits$Circuit" "links" "I", Cond.fieldLink RX1 84 "SwingCircuits$Circuit" "from" "[I", Cond.fieldLink RX1 87 "SwingCircuits$Circuit" "at" "[I", Cond.fieldLink RX1 90 "SwingCircuits$Circuit" "nth" "[I", Cond.methodLink RX1 93 yX1_doAct]
def wsX2_faults_r4 : List Cond := [Cond.instanceMethod yX1_doAct, Cond.selects RX1 yX1_doAct yX1_doAct, Cond.code yX1_doAct cX1_doAct 4 none, Cond.fieldLink RX1 97 "SwingCircuits$Circuit" "to" "[I", Cond.fieldLink RX1 100 "SwingCircuits$Circuit" "act" "[I", Cond.fieldLink RX1 103 "SwingCircuits$Circuit" "by" "[I", Cond.methodLink RX1 106 yX1_keepBetweenBars, Cond.instanceMethod yX1_keepBetweenBars, Cond.selects RX1 yX1_keepBetweenBars yX1_keepBetweenBars, Cond.code yX1_keepBetweenBars cX1_keepBetweenBars 3 none, Cond.methodLink RX1 64 yX1_isSpent, Cond.instanceMethod yX1_isSpent, Cond.selects RX1 yX1_isSpent yX1_isSpent, Cond.code yX1_isSpent cX1_isSpent 3 (some .boolean), Cond.methodLink RX1 109 yX1_isTooLong, Cond.static yX1_isTooLong, Cond.code yX1_isTooLong cX1_isTooLong 4 (some .boolean), Cond.constantLong RX1 113 (1000000), Cond.constantLong RX1 115 (-1000000), Cond.methodLink RX2 227 yX1_packedEvent, Cond.instanceMethod yX1_packedEvent, Cond.selects RX1 yX1_packedEvent yX1_packedEvent, Cond.code yX1_packedEvent cX1_packedEvent 1 (some .long), Cond.static yX2_packed]
def wsX2_faults_r5 : List Cond := [Cond.code yX2_packed cX2_packed 4 (some .long), Cond.methodLink RX2 263 yX2_isMeasure, Cond.instanceMethod yX2_isMeasure, Cond.selects RX2 yX2_isMeasure yX2_isMeasure, Cond.code yX2_isMeasure cX2_isMeasure 6 (some .boolean), Cond.fieldLink RX2 60 "SwingCircuits" "measuredDen" "[I", Cond.fieldLink RX2 57 "SwingCircuits" "measuredNum" "[I", Cond.methodLink RX2 251 yX2_betweenNum, Cond.static yX2_betweenNum, Cond.code yX2_betweenNum cX2_betweenNum 4 (some .long), Cond.methodLink RX2 181 yX2_timeNumIn, Cond.static yX2_timeNumIn, Cond.code yX2_timeNumIn cX2_timeNumIn 2 (some .long), Cond.methodLink RX2 185 yX2_timeDenIn, Cond.static yX2_timeDenIn, Cond.code yX2_timeDenIn cX2_timeDenIn 2 (some .long), Cond.constantLong RX2 267 (1048575), Cond.methodLink RX2 254 yX2_betweenDen, Cond.static yX2_betweenDen, Cond.code yX2_betweenDen cX2_betweenDen 4 (some .long)]
def wsX2_faults : List Cond := .code yX2_faults cX2_faults 2 (some .int) :: ((wsX2_faults_r1 ++ (wsX2_faults_r2 ++ (wsX2_faults_r3 ++ (wsX2_faults_r4 ++ wsX2_faults_r5)))) ++ wsX20 ++ wsX00 ++ wsX10)
def wsX2_fault_r1 : List Cond := [Cond.fieldLink RX2 69 "SwingCircuits" "faultsFound" "[I", Cond.methodLink RX2 94 yX2_isCell, Cond.instanceMethod yX2_isCell, Cond.selects RX2 yX2_isCell yX2_isCell, Cond.initialized RX2, Cond.code yX2_isCell cX2_isCell 2 (some .boolean), Cond.fieldLink RX2 12 "SwingCircuits" "circuit" "LSwingCircuits$Circuit;", Cond.fieldLink RX2 76 "SwingCircuits$Circuit" "cells" "I", Cond.methodLink RX2 216 yX2_findFaults, Cond.instanceMethod yX2_findFaults, Cond.selects RX2 yX2_findFaults yX2_findFaults, Cond.code yX2_findFaults cX2_findFaults 8 (some .int), Cond.fieldLink RX2 54 "SwingCircuits" "stocked" "I", Cond.fieldLink RX2 51 "SwingCircuits" "stock" "[I", Cond.methodLink RX2 122 yX0_ratesOf, Cond.instanceMethod yX0_ratesOf, Cond.selects RX0 yX0_ratesOf yX0_ratesOf, Cond.initialized RX0, Cond.code yX0_ratesOf cX0_ratesOf 2 (some (.array .int)), Cond.fieldLink RX0 22 "SwingCircuits$Circuit" "rise" "[I", Cond.fieldLink RX0 25 "SwingCircuits$Circuit" "fall" "[I", Cond.methodLink RX2 219 yX2_isMeasuredSo, Cond.instanceMethod yX2_isMeasuredSo, Cond.selects RX2 yX2_isMeasuredSo yX2_isMeasuredSo]
def wsX2_fault_r2 : List Cond := [Cond.code yX2_isMeasuredSo cX2_isMeasuredSo 8 (some .boolean), Cond.fieldLink RX2 63 "SwingCircuits" "measures" "I", Cond.fieldLink RX2 23 "SwingCircuits" "trial" "LSwingCircuits$Swing;", Cond.fieldLink RX2 234 "SwingCircuits$Swing" "turned" "I", Cond.fieldLink RX2 231 "SwingCircuits$Swing" "side" "I", Cond.methodLink RX2 223 yX1_restart, Cond.instanceMethod yX1_restart, Cond.selects RX1 yX1_restart yX1_restart, Cond.initialized RX1, Cond.code yX1_restart cX1_restart 3 none, Cond.fieldLink RX1 9 "SwingCircuits$Swing" "timeNum" "J", Cond.fieldLink RX1 15 "SwingCircuits$Swing" "timeDen" "J", Cond.fieldLink RX1 18 "SwingCircuits$Swing" "num" "[J", Cond.fieldLink RX1 46 "SwingCircuits$Circuit" "low" "[I", Cond.fieldLink RX1 22 "SwingCircuits$Swing" "den" "[J", Cond.fieldLink RX1 25 "SwingCircuits$Swing" "filling" "[Z", Cond.fieldLink RX1 29 "SwingCircuits$Swing" "counts" "[I", Cond.methodLink RX2 130 yX1_advance, Cond.instanceMethod yX1_advance, Cond.selects RX1 yX1_advance yX1_advance, Cond.code yX1_advance cX1_advance 2 (some .boolean), Cond.fieldLink RX1 51 "SwingCircuits$Circuit" "cells" "I", Cond.fieldLink RX1 33 "SwingCircuits$Swing" "turned" "I", Cond.fieldLink RX1 37 "SwingCircuits$Swing" "side" "I"]
def wsX2_fault_r3 : List Cond := [Cond.methodLink RX1 54 yX1_chooseTurning, Cond.instanceMethod yX1_chooseTurning, Cond.selects RX1 yX1_chooseTurning yX1_chooseTurning, Cond.code yX1_chooseTurning cX1_chooseTurning 7 none, Cond.fieldLink RX1 68 "SwingCircuits$Circuit" "high" "[I", Cond.fieldLink RX1 71 "SwingCircuits$Circuit" "rise" "[I", Cond.fieldLink RX1 74 "SwingCircuits$Circuit" "fall" "[I", Cond.fieldLink RX1 43 "SwingCircuits$Swing" "waitDen" "J", Cond.fieldLink RX1 40 "SwingCircuits$Swing" "waitNum" "J", Cond.methodLink RX1 58 yX1_letTimePass, Cond.instanceMethod yX1_letTimePass, Cond.selects RX1 yX1_letTimePass yX1_letTimePass, Cond.code yX1_letTimePass cX1_letTimePass 11 none, Cond.static yX2_commonOf, Cond.code yX2_commonOf cX2_commonOf 11 (some .long), Cond.methodLink RX1 61 yX1_passOn, Cond.instanceMethod yX1_passOn, Cond.selects RX1 yX1_passOn yX1_passOn, Cond.code yX1_passOn cX1_passOn 3 none, Cond.fieldLink RX1 81 "SwingCircuits$Circuit" "links" "I", Cond.fieldLink RX1 84 "SwingCircuits$Circuit" "from" "[I", Cond.fieldLink RX1 87 "SwingCircuits$Circuit" "at" "[I", Cond.fieldLink RX1 90 "SwingCircuits$Circuit" "nth" "[I", Cond.methodLink RX1 93 yX1_doAct]
def wsX2_fault_r4 : List Cond := [Cond.instanceMethod yX1_doAct, Cond.selects RX1 yX1_doAct yX1_doAct, Cond.code yX1_doAct cX1_doAct 4 none, Cond.fieldLink RX1 97 "SwingCircuits$Circuit" "to" "[I", Cond.fieldLink RX1 100 "SwingCircuits$Circuit" "act" "[I", Cond.fieldLink RX1 103 "SwingCircuits$Circuit" "by" "[I", Cond.methodLink RX1 106 yX1_keepBetweenBars, Cond.instanceMethod yX1_keepBetweenBars, Cond.selects RX1 yX1_keepBetweenBars yX1_keepBetweenBars, Cond.code yX1_keepBetweenBars cX1_keepBetweenBars 3 none, Cond.methodLink RX1 64 yX1_isSpent, Cond.instanceMethod yX1_isSpent, Cond.selects RX1 yX1_isSpent yX1_isSpent, Cond.code yX1_isSpent cX1_isSpent 3 (some .boolean), Cond.methodLink RX1 109 yX1_isTooLong, Cond.static yX1_isTooLong, Cond.code yX1_isTooLong cX1_isTooLong 4 (some .boolean), Cond.constantLong RX1 113 (1000000), Cond.constantLong RX1 115 (-1000000), Cond.methodLink RX2 227 yX1_packedEvent, Cond.instanceMethod yX1_packedEvent, Cond.selects RX1 yX1_packedEvent yX1_packedEvent, Cond.code yX1_packedEvent cX1_packedEvent 1 (some .long), Cond.static yX2_packed]
def wsX2_fault_r5 : List Cond := [Cond.code yX2_packed cX2_packed 4 (some .long), Cond.methodLink RX2 263 yX2_isMeasure, Cond.instanceMethod yX2_isMeasure, Cond.selects RX2 yX2_isMeasure yX2_isMeasure, Cond.code yX2_isMeasure cX2_isMeasure 6 (some .boolean), Cond.fieldLink RX2 60 "SwingCircuits" "measuredDen" "[I", Cond.fieldLink RX2 57 "SwingCircuits" "measuredNum" "[I", Cond.methodLink RX2 251 yX2_betweenNum, Cond.static yX2_betweenNum, Cond.code yX2_betweenNum cX2_betweenNum 4 (some .long), Cond.methodLink RX2 181 yX2_timeNumIn, Cond.static yX2_timeNumIn, Cond.code yX2_timeNumIn cX2_timeNumIn 2 (some .long), Cond.methodLink RX2 185 yX2_timeDenIn, Cond.static yX2_timeDenIn, Cond.code yX2_timeDenIn cX2_timeDenIn 2 (some .long), Cond.constantLong RX2 267 (1048575), Cond.methodLink RX2 254 yX2_betweenDen, Cond.static yX2_betweenDen, Cond.code yX2_betweenDen cX2_betweenDen 4 (some .long)]
def wsX2_fault : List Cond := .code yX2_fault cX2_fault 4 (some .int) :: ((wsX2_fault_r1 ++ (wsX2_fault_r2 ++ (wsX2_fault_r3 ++ (wsX2_fault_r4 ++ wsX2_fault_r5)))) ++ wsX20 ++ wsX00 ++ wsX10)
def wsX2_fits_r1 : List Cond := [Cond.methodLink RX2 94 yX2_isCell, Cond.instanceMethod yX2_isCell, Cond.selects RX2 yX2_isCell yX2_isCell, Cond.initialized RX2, Cond.code yX2_isCell cX2_isCell 2 (some .boolean), Cond.fieldLink RX2 12 "SwingCircuits" "circuit" "LSwingCircuits$Circuit;", Cond.fieldLink RX2 76 "SwingCircuits$Circuit" "cells" "I", Cond.methodLink RX2 219 yX2_isMeasuredSo, Cond.instanceMethod yX2_isMeasuredSo, Cond.selects RX2 yX2_isMeasuredSo yX2_isMeasuredSo, Cond.code yX2_isMeasuredSo cX2_isMeasuredSo 8 (some .boolean), Cond.fieldLink RX2 63 "SwingCircuits" "measures" "I", Cond.fieldLink RX2 23 "SwingCircuits" "trial" "LSwingCircuits$Swing;", Cond.fieldLink RX2 234 "SwingCircuits$Swing" "turned" "I", Cond.fieldLink RX2 231 "SwingCircuits$Swing" "side" "I", Cond.methodLink RX2 223 yX1_restart, Cond.instanceMethod yX1_restart, Cond.selects RX1 yX1_restart yX1_restart, Cond.initialized RX1, Cond.code yX1_restart cX1_restart 3 none, Cond.fieldLink RX1 9 "SwingCircuits$Swing" "timeNum" "J", Cond.fieldLink RX1 15 "SwingCircuits$Swing" "timeDen" "J", Cond.fieldLink RX1 18 "SwingCircuits$Swing" "num" "[J", Cond.fieldLink RX1 46 "SwingCircuits$Circuit" "low" "[I"]
def wsX2_fits_r2 : List Cond := [Cond.fieldLink RX1 22 "SwingCircuits$Swing" "den" "[J", Cond.fieldLink RX1 25 "SwingCircuits$Swing" "filling" "[Z", Cond.fieldLink RX1 29 "SwingCircuits$Swing" "counts" "[I", Cond.methodLink RX2 130 yX1_advance, Cond.instanceMethod yX1_advance, Cond.selects RX1 yX1_advance yX1_advance, Cond.code yX1_advance cX1_advance 2 (some .boolean), Cond.fieldLink RX1 51 "SwingCircuits$Circuit" "cells" "I", Cond.fieldLink RX1 33 "SwingCircuits$Swing" "turned" "I", Cond.fieldLink RX1 37 "SwingCircuits$Swing" "side" "I", Cond.methodLink RX1 54 yX1_chooseTurning, Cond.instanceMethod yX1_chooseTurning, Cond.selects RX1 yX1_chooseTurning yX1_chooseTurning, Cond.code yX1_chooseTurning cX1_chooseTurning 7 none, Cond.fieldLink RX1 68 "SwingCircuits$Circuit" "high" "[I", Cond.fieldLink RX1 71 "SwingCircuits$Circuit" "rise" "[I", Cond.fieldLink RX1 74 "SwingCircuits$Circuit" "fall" "[I", Cond.fieldLink RX1 43 "SwingCircuits$Swing" "waitDen" "J", Cond.fieldLink RX1 40 "SwingCircuits$Swing" "waitNum" "J", Cond.methodLink RX1 58 yX1_letTimePass, Cond.instanceMethod yX1_letTimePass, Cond.selects RX1 yX1_letTimePass yX1_letTimePass, Cond.code yX1_letTimePass cX1_letTimePass 11 none, Cond.static yX2_commonOf]
def wsX2_fits_r3 : List Cond := [Cond.code yX2_commonOf cX2_commonOf 11 (some .long), Cond.methodLink RX1 61 yX1_passOn, Cond.instanceMethod yX1_passOn, Cond.selects RX1 yX1_passOn yX1_passOn, Cond.code yX1_passOn cX1_passOn 3 none, Cond.fieldLink RX1 81 "SwingCircuits$Circuit" "links" "I", Cond.fieldLink RX1 84 "SwingCircuits$Circuit" "from" "[I", Cond.fieldLink RX1 87 "SwingCircuits$Circuit" "at" "[I", Cond.fieldLink RX1 90 "SwingCircuits$Circuit" "nth" "[I", Cond.methodLink RX1 93 yX1_doAct, Cond.instanceMethod yX1_doAct, Cond.selects RX1 yX1_doAct yX1_doAct, Cond.code yX1_doAct cX1_doAct 4 none, Cond.fieldLink RX1 97 "SwingCircuits$Circuit" "to" "[I", Cond.fieldLink RX1 100 "SwingCircuits$Circuit" "act" "[I", Cond.fieldLink RX1 103 "SwingCircuits$Circuit" "by" "[I", Cond.methodLink RX1 106 yX1_keepBetweenBars, Cond.instanceMethod yX1_keepBetweenBars, Cond.selects RX1 yX1_keepBetweenBars yX1_keepBetweenBars, Cond.code yX1_keepBetweenBars cX1_keepBetweenBars 3 none, Cond.methodLink RX1 64 yX1_isSpent, Cond.instanceMethod yX1_isSpent, Cond.selects RX1 yX1_isSpent yX1_isSpent, Cond.code yX1_isSpent cX1_isSpent 3 (some .boolean)]
def wsX2_fits_r4 : List Cond := [Cond.methodLink RX1 109 yX1_isTooLong, Cond.static yX1_isTooLong, Cond.code yX1_isTooLong cX1_isTooLong 4 (some .boolean), Cond.constantLong RX1 113 (1000000), Cond.constantLong RX1 115 (-1000000), Cond.methodLink RX2 227 yX1_packedEvent, Cond.instanceMethod yX1_packedEvent, Cond.selects RX1 yX1_packedEvent yX1_packedEvent, Cond.code yX1_packedEvent cX1_packedEvent 1 (some .long), Cond.static yX2_packed, Cond.code yX2_packed cX2_packed 4 (some .long), Cond.methodLink RX2 263 yX2_isMeasure, Cond.instanceMethod yX2_isMeasure, Cond.selects RX2 yX2_isMeasure yX2_isMeasure, Cond.code yX2_isMeasure cX2_isMeasure 6 (some .boolean), Cond.fieldLink RX2 60 "SwingCircuits" "measuredDen" "[I", Cond.fieldLink RX2 57 "SwingCircuits" "measuredNum" "[I", Cond.methodLink RX2 251 yX2_betweenNum, Cond.static yX2_betweenNum, Cond.code yX2_betweenNum cX2_betweenNum 4 (some .long), Cond.methodLink RX2 181 yX2_timeNumIn, Cond.static yX2_timeNumIn, Cond.code yX2_timeNumIn cX2_timeNumIn 2 (some .long), Cond.methodLink RX2 185 yX2_timeDenIn]
def wsX2_fits_r5 : List Cond := [Cond.static yX2_timeDenIn, Cond.code yX2_timeDenIn cX2_timeDenIn 2 (some .long), Cond.constantLong RX2 267 (1048575), Cond.methodLink RX2 254 yX2_betweenDen, Cond.static yX2_betweenDen, Cond.code yX2_betweenDen cX2_betweenDen 4 (some .long)]
def wsX2_fits : List Cond := .code yX2_fits cX2_fits 2 (some .int) :: ((wsX2_fits_r1 ++ (wsX2_fits_r2 ++ (wsX2_fits_r3 ++ (wsX2_fits_r4 ++ wsX2_fits_r5)))) ++ wsX20 ++ wsX00 ++ wsX10)
def wsX3_resetAll : List Cond := .code yX3_resetAll cX3_resetAll 2 none :: ([.fieldLink RX3 25 "SwingCircuitsModel" "now" "[J", .fieldLink RX3 9 "SwingCircuitsModel" "low" "[I"] ++ wsX30)
def wsX3_init_r1 : List Cond := [Cond.methodLink RX3 1 objectInit, Cond.instanceMethod objectInit, Cond.code objectInit ⟨#[0xb1]⟩ 1 none, Cond.arrayClass .int, Cond.fieldLink RX3 9 "SwingCircuitsModel" "low" "[I", Cond.fieldLink RX3 13 "SwingCircuitsModel" "high" "[I", Cond.fieldLink RX3 16 "SwingCircuitsModel" "rise" "[I", Cond.fieldLink RX3 19 "SwingCircuitsModel" "fall" "[I", Cond.fieldLink RX3 22 "SwingCircuitsModel" "links" "[I", Cond.arrayClass .long, Cond.fieldLink RX3 25 "SwingCircuitsModel" "now" "[J", Cond.fieldLink RX3 29 "SwingCircuitsModel" "before" "[J", Cond.fieldLink RX3 32 "SwingCircuitsModel" "aside" "[J", Cond.fieldLink RX3 35 "SwingCircuitsModel" "logCell" "[I", Cond.fieldLink RX3 38 "SwingCircuitsModel" "logAt" "[I", Cond.fieldLink RX3 41 "SwingCircuitsModel" "logNum" "[J", Cond.fieldLink RX3 44 "SwingCircuitsModel" "logDen" "[J", Cond.fieldLink RX3 47 "SwingCircuitsModel" "isLogged" "Z", Cond.fieldLink RX3 51 "SwingCircuitsModel" "states" "[J", Cond.fieldLink RX3 54 "SwingCircuitsModel" "ringed" "[J", Cond.fieldLink RX3 57 "SwingCircuitsModel" "drawer" "[I", Cond.fieldLink RX3 60 "SwingCircuitsModel" "measuredNum" "[J", Cond.fieldLink RX3 63 "SwingCircuitsModel" "measuredDen" "[J", Cond.methodLink RX3 66 yX3_resetAll]
def wsX3_init_r2 : List Cond := [Cond.instanceMethod yX3_resetAll, Cond.selects RX3 yX3_resetAll yX3_resetAll, Cond.initialized RX3, Cond.code yX3_resetAll cX3_resetAll 2 none]
def wsX3_init : List Cond := .code yX3_init cX3_init 1 none :: ((wsX3_init_r1 ++ wsX3_init_r2) ++ wsX30)
def wsX3_thrown : List Cond := .code yX3_thrown cX3_thrown 1 (some .int) :: ([.fieldLink RX3 69 "SwingCircuitsModel" "thrown" "I"] ++ wsX30)
def wsX3_in : List Cond := .code yX3_in cX3_in 3 (some .boolean) :: ([])
def wsX3_isCell : List Cond := .code yX3_isCell cX3_isCell 2 (some .boolean) :: ([.fieldLink RX3 73 "SwingCircuitsModel" "cells" "I", .methodLink RX3 76 yX3_in, .static yX3_in, .initialized RX3, .code yX3_in cX3_in 3 (some .boolean)] ++ wsX30)
def wsX3_common : List Cond := .code yX3_common cX3_common 4 (some .long) :: ([.methodLink RX3 80 yX3_common, .static yX3_common, .initialized RX3])
def wsX3_make : List Cond := .code yX3_make cX3_make 7 none :: ([.methodLink RX3 84 Lib.MathLoose.abs_long.x, .static Lib.MathLoose.abs_long.x, .initialized "java/lang/Math", .code Lib.MathLoose.abs_long.x Lib.MathLoose.abs_long.code 2 (some .long), .fieldLink RX3 90 "SwingCircuitsModel" "num" "J", .fieldLink RX3 94 "SwingCircuitsModel" "den" "J", .methodLink RX3 80 yX3_common, .static yX3_common, .initialized RX3, .code yX3_common cX3_common 4 (some .long)] ++ wsX30)
def wsX3_store : List Cond := .code yX3_store cX3_store 2 none :: ([.fieldLink RX3 25 "SwingCircuitsModel" "now" "[J", .fieldLink RX3 90 "SwingCircuitsModel" "num" "J", .fieldLink RX3 94 "SwingCircuitsModel" "den" "J"] ++ wsX30)
def wsX3_cell : List Cond := .code yX3_cell cX3_cell 5 (some .int) :: ([.fieldLink RX3 69 "SwingCircuitsModel" "thrown" "I", .fieldLink RX3 73 "SwingCircuitsModel" "cells" "I", .fieldLink RX3 9 "SwingCircuitsModel" "low" "[I", .fieldLink RX3 13 "SwingCircuitsModel" "high" "[I", .fieldLink RX3 16 "SwingCircuitsModel" "rise" "[I", .fieldLink RX3 19 "SwingCircuitsModel" "fall" "[I", .methodLink RX3 76 yX3_in, .static yX3_in, .initialized RX3, .code yX3_in cX3_in 3 (some .boolean), .methodLink RX3 66 yX3_resetAll, .instanceMethod yX3_resetAll, .selects RX3 yX3_resetAll yX3_resetAll, .code yX3_resetAll cX3_resetAll 2 none, .fieldLink RX3 25 "SwingCircuitsModel" "now" "[J"] ++ wsX30)
def wsX3_link : List Cond := .code yX3_link cX3_link 9 (some .int) :: ([.fieldLink RX3 69 "SwingCircuitsModel" "thrown" "I", .fieldLink RX3 101 "SwingCircuitsModel" "linkMany" "I", .arrayClass .int, .fieldLink RX3 22 "SwingCircuitsModel" "links" "[I", .methodLink RX3 97 yX3_isCell, .instanceMethod yX3_isCell, .selects RX3 yX3_isCell yX3_isCell, .initialized RX3, .code yX3_isCell cX3_isCell 2 (some .boolean), .fieldLink RX3 73 "SwingCircuitsModel" "cells" "I", .methodLink RX3 76 yX3_in, .static yX3_in, .code yX3_in cX3_in 3 (some .boolean), .methodLink RX3 66 yX3_resetAll, .instanceMethod yX3_resetAll, .selects RX3 yX3_resetAll yX3_resetAll, .code yX3_resetAll cX3_resetAll 2 none, .fieldLink RX3 25 "SwingCircuitsModel" "now" "[J", .fieldLink RX3 9 "SwingCircuitsModel" "low" "[I"] ++ wsX30)
def wsX3_clear : List Cond := .code yX3_clear cX3_clear 2 (some .int) :: ([.fieldLink RX3 69 "SwingCircuitsModel" "thrown" "I", .fieldLink RX3 73 "SwingCircuitsModel" "cells" "I", .fieldLink RX3 101 "SwingCircuitsModel" "linkMany" "I", .methodLink RX3 66 yX3_resetAll, .instanceMethod yX3_resetAll, .selects RX3 yX3_resetAll yX3_resetAll, .initialized RX3, .code yX3_resetAll cX3_resetAll 2 none, .fieldLink RX3 25 "SwingCircuitsModel" "now" "[J", .fieldLink RX3 9 "SwingCircuitsModel" "low" "[I"] ++ wsX30)
def wsX3_reset : List Cond := .code yX3_reset cX3_reset 2 (some .int) :: ([.fieldLink RX3 69 "SwingCircuitsModel" "thrown" "I", .fieldLink RX3 25 "SwingCircuitsModel" "now" "[J", .methodLink RX3 66 yX3_resetAll, .instanceMethod yX3_resetAll, .selects RX3 yX3_resetAll yX3_resetAll, .initialized RX3, .code yX3_resetAll cX3_resetAll 2 none, .fieldLink RX3 9 "SwingCircuitsModel" "low" "[I"] ++ wsX30)
def wsX3_set : List Cond := .code yX3_set cX3_set 5 (some .int) :: ([.fieldLink RX3 69 "SwingCircuitsModel" "thrown" "I", .fieldLink RX3 16 "SwingCircuitsModel" "rise" "[I", .fieldLink RX3 19 "SwingCircuitsModel" "fall" "[I", .methodLink RX3 97 yX3_isCell, .instanceMethod yX3_isCell, .selects RX3 yX3_isCell yX3_isCell, .initialized RX3, .code yX3_isCell cX3_isCell 2 (some .boolean), .fieldLink RX3 73 "SwingCircuitsModel" "cells" "I", .methodLink RX3 76 yX3_in, .static yX3_in, .code yX3_in cX3_in 3 (some .boolean), .methodLink RX3 66 yX3_resetAll, .instanceMethod yX3_resetAll, .selects RX3 yX3_resetAll yX3_resetAll, .code yX3_resetAll cX3_resetAll 2 none, .fieldLink RX3 25 "SwingCircuitsModel" "now" "[J", .fieldLink RX3 9 "SwingCircuitsModel" "low" "[I"] ++ wsX30)
def wsX3_copy : List Cond := .code yX3_copy cX3_copy 3 none :: ([])
def wsX3_isFilling : List Cond := .code yX3_isFilling cX3_isFilling 2 (some .boolean) :: ([.fieldLink RX3 25 "SwingCircuitsModel" "now" "[J"] ++ wsX30)
def wsX3_waitOf : List Cond := .code yX3_waitOf cX3_waitOf 6 none :: ([.fieldLink RX3 25 "SwingCircuitsModel" "now" "[J", .fieldLink RX3 13 "SwingCircuitsModel" "high" "[I", .fieldLink RX3 16 "SwingCircuitsModel" "rise" "[I", .fieldLink RX3 9 "SwingCircuitsModel" "low" "[I", .fieldLink RX3 19 "SwingCircuitsModel" "fall" "[I", .methodLink RX3 104 yX3_isFilling, .instanceMethod yX3_isFilling, .selects RX3 yX3_isFilling yX3_isFilling, .initialized RX3, .code yX3_isFilling cX3_isFilling 2 (some .boolean), .methodLink RX3 107 yX3_make, .instanceMethod yX3_make, .selects RX3 yX3_make yX3_make, .code yX3_make cX3_make 7 none, .methodLink RX3 84 Lib.MathLoose.abs_long.x, .static Lib.MathLoose.abs_long.x, .initialized "java/lang/Math", .code Lib.MathLoose.abs_long.x Lib.MathLoose.abs_long.code 2 (some .long), .fieldLink RX3 90 "SwingCircuitsModel" "num" "J", .fieldLink RX3 94 "SwingCircuitsModel" "den" "J", .methodLink RX3 80 yX3_common, .static yX3_common, .code yX3_common cX3_common 4 (some .long)] ++ wsX30)
def wsX3_isOver : List Cond := .code yX3_isOver cX3_isOver 4 (some .boolean) :: ([.methodLink RX3 84 Lib.MathLoose.abs_long.x, .static Lib.MathLoose.abs_long.x, .initialized "java/lang/Math", .code Lib.MathLoose.abs_long.x Lib.MathLoose.abs_long.code 2 (some .long), .constantLong RX3 111 (1000000)])
def wsX3_isSpent : List Cond := .code yX3_isSpent cX3_isSpent 2 (some .boolean) :: ([.fieldLink RX3 25 "SwingCircuitsModel" "now" "[J", .fieldLink RX3 73 "SwingCircuitsModel" "cells" "I", .methodLink RX3 113 yX3_isOver, .static yX3_isOver, .initialized RX3, .code yX3_isOver cX3_isOver 4 (some .boolean), .methodLink RX3 84 Lib.MathLoose.abs_long.x, .static Lib.MathLoose.abs_long.x, .initialized "java/lang/Math", .code Lib.MathLoose.abs_long.x Lib.MathLoose.abs_long.code 2 (some .long), .constantLong RX3 111 (1000000)] ++ wsX30)
def wsX3_act : List Cond := .code yX3_act cX3_act 8 none :: ([.fieldLink RX3 22 "SwingCircuitsModel" "links" "[I", .fieldLink RX3 125 "SwingCircuitsModel" "nextCell" "I", .fieldLink RX3 128 "SwingCircuitsModel" "nextAt" "I", .fieldLink RX3 25 "SwingCircuitsModel" "now" "[J", .fieldLink RX3 13 "SwingCircuitsModel" "high" "[I", .fieldLink RX3 9 "SwingCircuitsModel" "low" "[I", .methodLink RX3 107 yX3_make, .instanceMethod yX3_make, .selects RX3 yX3_make yX3_make, .initialized RX3, .code yX3_make cX3_make 7 none, .methodLink RX3 84 Lib.MathLoose.abs_long.x, .static Lib.MathLoose.abs_long.x, .initialized "java/lang/Math", .code Lib.MathLoose.abs_long.x Lib.MathLoose.abs_long.code 2 (some .long), .fieldLink RX3 90 "SwingCircuitsModel" "num" "J", .fieldLink RX3 94 "SwingCircuitsModel" "den" "J", .methodLink RX3 80 yX3_common, .static yX3_common, .code yX3_common cX3_common 4 (some .long), .methodLink RX3 131 yX3_store, .instanceMethod yX3_store, .selects RX3 yX3_store yX3_store, .code yX3_store cX3_store 2 none] ++ wsX30)
def wsX3_step_r1 : List Cond := [Cond.fieldLink RX3 73 "SwingCircuitsModel" "cells" "I", Cond.fieldLink RX3 25 "SwingCircuitsModel" "now" "[J", Cond.fieldLink RX3 29 "SwingCircuitsModel" "before" "[J", Cond.fieldLink RX3 90 "SwingCircuitsModel" "num" "J", Cond.fieldLink RX3 94 "SwingCircuitsModel" "den" "J", Cond.fieldLink RX3 125 "SwingCircuitsModel" "nextCell" "I", Cond.fieldLink RX3 128 "SwingCircuitsModel" "nextAt" "I", Cond.fieldLink RX3 16 "SwingCircuitsModel" "rise" "[I", Cond.fieldLink RX3 19 "SwingCircuitsModel" "fall" "[I", Cond.fieldLink RX3 101 "SwingCircuitsModel" "linkMany" "I", Cond.fieldLink RX3 47 "SwingCircuitsModel" "isLogged" "Z", Cond.constantLong RX3 141 (500), Cond.fieldLink RX3 35 "SwingCircuitsModel" "logCell" "[I", Cond.fieldLink RX3 38 "SwingCircuitsModel" "logAt" "[I", Cond.fieldLink RX3 41 "SwingCircuitsModel" "logNum" "[J", Cond.fieldLink RX3 44 "SwingCircuitsModel" "logDen" "[J", Cond.methodLink RX3 117 yX3_copy, Cond.static yX3_copy, Cond.initialized RX3, Cond.code yX3_copy cX3_copy 3 none, Cond.methodLink RX3 121 yX3_waitOf, Cond.instanceMethod yX3_waitOf, Cond.selects RX3 yX3_waitOf yX3_waitOf, Cond.code yX3_waitOf cX3_waitOf 6 none]
def wsX3_step_r2 : List Cond := [Cond.fieldLink RX3 13 "SwingCircuitsModel" "high" "[I", Cond.fieldLink RX3 9 "SwingCircuitsModel" "low" "[I", Cond.methodLink RX3 104 yX3_isFilling, Cond.instanceMethod yX3_isFilling, Cond.selects RX3 yX3_isFilling yX3_isFilling, Cond.code yX3_isFilling cX3_isFilling 2 (some .boolean), Cond.methodLink RX3 107 yX3_make, Cond.instanceMethod yX3_make, Cond.selects RX3 yX3_make yX3_make, Cond.code yX3_make cX3_make 7 none, Cond.methodLink RX3 84 Lib.MathLoose.abs_long.x, Cond.static Lib.MathLoose.abs_long.x, Cond.initialized "java/lang/Math", Cond.code Lib.MathLoose.abs_long.x Lib.MathLoose.abs_long.code 2 (some .long), Cond.methodLink RX3 80 yX3_common, Cond.static yX3_common, Cond.code yX3_common cX3_common 4 (some .long), Cond.methodLink RX3 131 yX3_store, Cond.instanceMethod yX3_store, Cond.selects RX3 yX3_store yX3_store, Cond.code yX3_store cX3_store 2 none, Cond.methodLink RX3 134 yX3_act, Cond.instanceMethod yX3_act, Cond.selects RX3 yX3_act yX3_act]
def wsX3_step_r3 : List Cond := [Cond.code yX3_act cX3_act 8 none, Cond.fieldLink RX3 22 "SwingCircuitsModel" "links" "[I", Cond.methodLink RX3 137 yX3_isSpent, Cond.instanceMethod yX3_isSpent, Cond.selects RX3 yX3_isSpent yX3_isSpent, Cond.code yX3_isSpent cX3_isSpent 2 (some .boolean), Cond.methodLink RX3 113 yX3_isOver, Cond.static yX3_isOver, Cond.code yX3_isOver cX3_isOver 4 (some .boolean), Cond.constantLong RX3 111 (1000000)]
def wsX3_step : List Cond := .code yX3_step cX3_step 12 (some .boolean) :: ((wsX3_step_r1 ++ (wsX3_step_r2 ++ wsX3_step_r3)) ++ wsX30)
def wsX3_run_r1 : List Cond := [Cond.fieldLink RX3 69 "SwingCircuitsModel" "thrown" "I", Cond.methodLink RX3 76 yX3_in, Cond.static yX3_in, Cond.initialized RX3, Cond.code yX3_in cX3_in 3 (some .boolean), Cond.methodLink RX3 143 yX3_step, Cond.instanceMethod yX3_step, Cond.selects RX3 yX3_step yX3_step, Cond.code yX3_step cX3_step 12 (some .boolean), Cond.fieldLink RX3 73 "SwingCircuitsModel" "cells" "I", Cond.fieldLink RX3 25 "SwingCircuitsModel" "now" "[J", Cond.fieldLink RX3 29 "SwingCircuitsModel" "before" "[J", Cond.fieldLink RX3 90 "SwingCircuitsModel" "num" "J", Cond.fieldLink RX3 94 "SwingCircuitsModel" "den" "J", Cond.fieldLink RX3 125 "SwingCircuitsModel" "nextCell" "I", Cond.fieldLink RX3 128 "SwingCircuitsModel" "nextAt" "I", Cond.fieldLink RX3 16 "SwingCircuitsModel" "rise" "[I", Cond.fieldLink RX3 19 "SwingCircuitsModel" "fall" "[I", Cond.fieldLink RX3 101 "SwingCircuitsModel" "linkMany" "I", Cond.fieldLink RX3 47 "SwingCircuitsModel" "isLogged" "Z", Cond.constantLong RX3 141 (500), Cond.fieldLink RX3 35 "SwingCircuitsModel" "logCell" "[I", Cond.fieldLink RX3 38 "SwingCircuitsModel" "logAt" "[I", Cond.fieldLink RX3 41 "SwingCircuitsModel" "logNum" "[J"]
def wsX3_run_r2 : List Cond := [Cond.fieldLink RX3 44 "SwingCircuitsModel" "logDen" "[J", Cond.methodLink RX3 117 yX3_copy, Cond.static yX3_copy, Cond.code yX3_copy cX3_copy 3 none, Cond.methodLink RX3 121 yX3_waitOf, Cond.instanceMethod yX3_waitOf, Cond.selects RX3 yX3_waitOf yX3_waitOf, Cond.code yX3_waitOf cX3_waitOf 6 none, Cond.fieldLink RX3 13 "SwingCircuitsModel" "high" "[I", Cond.fieldLink RX3 9 "SwingCircuitsModel" "low" "[I", Cond.methodLink RX3 104 yX3_isFilling, Cond.instanceMethod yX3_isFilling, Cond.selects RX3 yX3_isFilling yX3_isFilling, Cond.code yX3_isFilling cX3_isFilling 2 (some .boolean), Cond.methodLink RX3 107 yX3_make, Cond.instanceMethod yX3_make, Cond.selects RX3 yX3_make yX3_make, Cond.code yX3_make cX3_make 7 none, Cond.methodLink RX3 84 Lib.MathLoose.abs_long.x, Cond.static Lib.MathLoose.abs_long.x, Cond.initialized "java/lang/Math", Cond.code Lib.MathLoose.abs_long.x Lib.MathLoose.abs_long.code 2 (some .long), Cond.methodLink RX3 80 yX3_common, Cond.static yX3_common]
def wsX3_run_r3 : List Cond := [Cond.code yX3_common cX3_common 4 (some .long), Cond.methodLink RX3 131 yX3_store, Cond.instanceMethod yX3_store, Cond.selects RX3 yX3_store yX3_store, Cond.code yX3_store cX3_store 2 none, Cond.methodLink RX3 134 yX3_act, Cond.instanceMethod yX3_act, Cond.selects RX3 yX3_act yX3_act, Cond.code yX3_act cX3_act 8 none, Cond.fieldLink RX3 22 "SwingCircuitsModel" "links" "[I", Cond.methodLink RX3 137 yX3_isSpent, Cond.instanceMethod yX3_isSpent, Cond.selects RX3 yX3_isSpent yX3_isSpent, Cond.code yX3_isSpent cX3_isSpent 2 (some .boolean), Cond.methodLink RX3 113 yX3_isOver, Cond.static yX3_isOver, Cond.code yX3_isOver cX3_isOver 4 (some .boolean), Cond.constantLong RX3 111 (1000000)]
def wsX3_run : List Cond := .code yX3_run cX3_run 3 (some .int) :: ((wsX3_run_r1 ++ (wsX3_run_r2 ++ wsX3_run_r3)) ++ wsX30)
def wsX3_wouldBeSpent_r1 : List Cond := [Cond.fieldLink RX3 73 "SwingCircuitsModel" "cells" "I", Cond.fieldLink RX3 25 "SwingCircuitsModel" "now" "[J", Cond.fieldLink RX3 32 "SwingCircuitsModel" "aside" "[J", Cond.fieldLink RX3 47 "SwingCircuitsModel" "isLogged" "Z", Cond.methodLink RX3 117 yX3_copy, Cond.static yX3_copy, Cond.initialized RX3, Cond.code yX3_copy cX3_copy 3 none, Cond.methodLink RX3 143 yX3_step, Cond.instanceMethod yX3_step, Cond.selects RX3 yX3_step yX3_step, Cond.code yX3_step cX3_step 12 (some .boolean), Cond.fieldLink RX3 29 "SwingCircuitsModel" "before" "[J", Cond.fieldLink RX3 90 "SwingCircuitsModel" "num" "J", Cond.fieldLink RX3 94 "SwingCircuitsModel" "den" "J", Cond.fieldLink RX3 125 "SwingCircuitsModel" "nextCell" "I", Cond.fieldLink RX3 128 "SwingCircuitsModel" "nextAt" "I", Cond.fieldLink RX3 16 "SwingCircuitsModel" "rise" "[I", Cond.fieldLink RX3 19 "SwingCircuitsModel" "fall" "[I", Cond.fieldLink RX3 101 "SwingCircuitsModel" "linkMany" "I", Cond.constantLong RX3 141 (500), Cond.fieldLink RX3 35 "SwingCircuitsModel" "logCell" "[I", Cond.fieldLink RX3 38 "SwingCircuitsModel" "logAt" "[I", Cond.fieldLink RX3 41 "SwingCircuitsModel" "logNum" "[J"]
def wsX3_wouldBeSpent_r2 : List Cond := [Cond.fieldLink RX3 44 "SwingCircuitsModel" "logDen" "[J", Cond.methodLink RX3 121 yX3_waitOf, Cond.instanceMethod yX3_waitOf, Cond.selects RX3 yX3_waitOf yX3_waitOf, Cond.code yX3_waitOf cX3_waitOf 6 none, Cond.fieldLink RX3 13 "SwingCircuitsModel" "high" "[I", Cond.fieldLink RX3 9 "SwingCircuitsModel" "low" "[I", Cond.methodLink RX3 104 yX3_isFilling, Cond.instanceMethod yX3_isFilling, Cond.selects RX3 yX3_isFilling yX3_isFilling, Cond.code yX3_isFilling cX3_isFilling 2 (some .boolean), Cond.methodLink RX3 107 yX3_make, Cond.instanceMethod yX3_make, Cond.selects RX3 yX3_make yX3_make, Cond.code yX3_make cX3_make 7 none, Cond.methodLink RX3 84 Lib.MathLoose.abs_long.x, Cond.static Lib.MathLoose.abs_long.x, Cond.initialized "java/lang/Math", Cond.code Lib.MathLoose.abs_long.x Lib.MathLoose.abs_long.code 2 (some .long), Cond.methodLink RX3 80 yX3_common, Cond.static yX3_common, Cond.code yX3_common cX3_common 4 (some .long), Cond.methodLink RX3 131 yX3_store, Cond.instanceMethod yX3_store]
def wsX3_wouldBeSpent_r3 : List Cond := [Cond.selects RX3 yX3_store yX3_store, Cond.code yX3_store cX3_store 2 none, Cond.methodLink RX3 134 yX3_act, Cond.instanceMethod yX3_act, Cond.selects RX3 yX3_act yX3_act, Cond.code yX3_act cX3_act 8 none, Cond.fieldLink RX3 22 "SwingCircuitsModel" "links" "[I", Cond.methodLink RX3 137 yX3_isSpent, Cond.instanceMethod yX3_isSpent, Cond.selects RX3 yX3_isSpent yX3_isSpent, Cond.code yX3_isSpent cX3_isSpent 2 (some .boolean), Cond.methodLink RX3 113 yX3_isOver, Cond.static yX3_isOver, Cond.code yX3_isOver cX3_isOver 4 (some .boolean), Cond.constantLong RX3 111 (1000000)]
def wsX3_wouldBeSpent : List Cond := .code yX3_wouldBeSpent cX3_wouldBeSpent 2 (some .boolean) :: ((wsX3_wouldBeSpent_r1 ++ (wsX3_wouldBeSpent_r2 ++ wsX3_wouldBeSpent_r3)) ++ wsX30)
def wsX3_count_r1 : List Cond := [Cond.fieldLink RX3 69 "SwingCircuitsModel" "thrown" "I", Cond.fieldLink RX3 73 "SwingCircuitsModel" "cells" "I", Cond.fieldLink RX3 101 "SwingCircuitsModel" "linkMany" "I", Cond.fieldLink RX3 25 "SwingCircuitsModel" "now" "[J", Cond.fieldLink RX3 149 "SwingCircuitsModel" "drawn" "I", Cond.fieldLink RX3 152 "SwingCircuitsModel" "measured" "I", Cond.methodLink RX3 146 yX3_wouldBeSpent, Cond.instanceMethod yX3_wouldBeSpent, Cond.selects RX3 yX3_wouldBeSpent yX3_wouldBeSpent, Cond.initialized RX3, Cond.code yX3_wouldBeSpent cX3_wouldBeSpent 2 (some .boolean), Cond.fieldLink RX3 32 "SwingCircuitsModel" "aside" "[J", Cond.fieldLink RX3 47 "SwingCircuitsModel" "isLogged" "Z", Cond.methodLink RX3 117 yX3_copy, Cond.static yX3_copy, Cond.code yX3_copy cX3_copy 3 none, Cond.methodLink RX3 143 yX3_step, Cond.instanceMethod yX3_step, Cond.selects RX3 yX3_step yX3_step, Cond.code yX3_step cX3_step 12 (some .boolean), Cond.fieldLink RX3 29 "SwingCircuitsModel" "before" "[J", Cond.fieldLink RX3 90 "SwingCircuitsModel" "num" "J", Cond.fieldLink RX3 94 "SwingCircuitsModel" "den" "J", Cond.fieldLink RX3 125 "SwingCircuitsModel" "nextCell" "I"]
def wsX3_count_r2 : List Cond := [Cond.fieldLink RX3 128 "SwingCircuitsModel" "nextAt" "I", Cond.fieldLink RX3 16 "SwingCircuitsModel" "rise" "[I", Cond.fieldLink RX3 19 "SwingCircuitsModel" "fall" "[I", Cond.constantLong RX3 141 (500), Cond.fieldLink RX3 35 "SwingCircuitsModel" "logCell" "[I", Cond.fieldLink RX3 38 "SwingCircuitsModel" "logAt" "[I", Cond.fieldLink RX3 41 "SwingCircuitsModel" "logNum" "[J", Cond.fieldLink RX3 44 "SwingCircuitsModel" "logDen" "[J", Cond.methodLink RX3 121 yX3_waitOf, Cond.instanceMethod yX3_waitOf, Cond.selects RX3 yX3_waitOf yX3_waitOf, Cond.code yX3_waitOf cX3_waitOf 6 none, Cond.fieldLink RX3 13 "SwingCircuitsModel" "high" "[I", Cond.fieldLink RX3 9 "SwingCircuitsModel" "low" "[I", Cond.methodLink RX3 104 yX3_isFilling, Cond.instanceMethod yX3_isFilling, Cond.selects RX3 yX3_isFilling yX3_isFilling, Cond.code yX3_isFilling cX3_isFilling 2 (some .boolean), Cond.methodLink RX3 107 yX3_make, Cond.instanceMethod yX3_make, Cond.selects RX3 yX3_make yX3_make, Cond.code yX3_make cX3_make 7 none, Cond.methodLink RX3 84 Lib.MathLoose.abs_long.x, Cond.static Lib.MathLoose.abs_long.x]
def wsX3_count_r3 : List Cond := [Cond.initialized "java/lang/Math", Cond.code Lib.MathLoose.abs_long.x Lib.MathLoose.abs_long.code 2 (some .long), Cond.methodLink RX3 80 yX3_common, Cond.static yX3_common, Cond.code yX3_common cX3_common 4 (some .long), Cond.methodLink RX3 131 yX3_store, Cond.instanceMethod yX3_store, Cond.selects RX3 yX3_store yX3_store, Cond.code yX3_store cX3_store 2 none, Cond.methodLink RX3 134 yX3_act, Cond.instanceMethod yX3_act, Cond.selects RX3 yX3_act yX3_act, Cond.code yX3_act cX3_act 8 none, Cond.fieldLink RX3 22 "SwingCircuitsModel" "links" "[I", Cond.methodLink RX3 137 yX3_isSpent, Cond.instanceMethod yX3_isSpent, Cond.selects RX3 yX3_isSpent yX3_isSpent, Cond.code yX3_isSpent cX3_isSpent 2 (some .boolean), Cond.methodLink RX3 113 yX3_isOver, Cond.static yX3_isOver, Cond.code yX3_isOver cX3_isOver 4 (some .boolean), Cond.constantLong RX3 111 (1000000)]
def wsX3_count : List Cond := .code yX3_count cX3_count 2 (some .int) :: ((wsX3_count_r1 ++ (wsX3_count_r2 ++ wsX3_count_r3)) ++ wsX30)
def wsX3_beat : List Cond := .code yX3_beat cX3_beat 4 none :: ([.fieldLink RX3 13 "SwingCircuitsModel" "high" "[I", .fieldLink RX3 9 "SwingCircuitsModel" "low" "[I", .methodLink RX3 107 yX3_make, .instanceMethod yX3_make, .selects RX3 yX3_make yX3_make, .initialized RX3, .code yX3_make cX3_make 7 none, .methodLink RX3 84 Lib.MathLoose.abs_long.x, .static Lib.MathLoose.abs_long.x, .initialized "java/lang/Math", .code Lib.MathLoose.abs_long.x Lib.MathLoose.abs_long.code 2 (some .long), .fieldLink RX3 90 "SwingCircuitsModel" "num" "J", .fieldLink RX3 94 "SwingCircuitsModel" "den" "J", .methodLink RX3 80 yX3_common, .static yX3_common, .code yX3_common cX3_common 4 (some .long)] ++ wsX30)
def wsX3_of_r1 : List Cond := [Cond.fieldLink RX3 69 "SwingCircuitsModel" "thrown" "I", Cond.fieldLink RX3 16 "SwingCircuitsModel" "rise" "[I", Cond.fieldLink RX3 19 "SwingCircuitsModel" "fall" "[I", Cond.fieldLink RX3 25 "SwingCircuitsModel" "now" "[J", Cond.fieldLink RX3 90 "SwingCircuitsModel" "num" "J", Cond.fieldLink RX3 94 "SwingCircuitsModel" "den" "J", Cond.methodLink RX3 97 yX3_isCell, Cond.instanceMethod yX3_isCell, Cond.selects RX3 yX3_isCell yX3_isCell, Cond.initialized RX3, Cond.code yX3_isCell cX3_isCell 2 (some .boolean), Cond.fieldLink RX3 73 "SwingCircuitsModel" "cells" "I", Cond.methodLink RX3 76 yX3_in, Cond.static yX3_in, Cond.code yX3_in cX3_in 3 (some .boolean), Cond.methodLink RX3 155 yX3_beat, Cond.instanceMethod yX3_beat, Cond.selects RX3 yX3_beat yX3_beat, Cond.code yX3_beat cX3_beat 4 none, Cond.fieldLink RX3 13 "SwingCircuitsModel" "high" "[I", Cond.fieldLink RX3 9 "SwingCircuitsModel" "low" "[I", Cond.methodLink RX3 107 yX3_make, Cond.instanceMethod yX3_make, Cond.selects RX3 yX3_make yX3_make]
def wsX3_of_r2 : List Cond := [Cond.code yX3_make cX3_make 7 none, Cond.methodLink RX3 84 Lib.MathLoose.abs_long.x, Cond.static Lib.MathLoose.abs_long.x, Cond.initialized "java/lang/Math", Cond.code Lib.MathLoose.abs_long.x Lib.MathLoose.abs_long.code 2 (some .long), Cond.methodLink RX3 80 yX3_common, Cond.static yX3_common, Cond.code yX3_common cX3_common 4 (some .long)]
def wsX3_of : List Cond := .code yX3_of cX3_of 3 (some .int) :: ((wsX3_of_r1 ++ wsX3_of_r2) ++ wsX30)
def wsX3_counted : List Cond := .code yX3_counted cX3_counted 2 (some .int) :: ([.fieldLink RX3 69 "SwingCircuitsModel" "thrown" "I", .fieldLink RX3 101 "SwingCircuitsModel" "linkMany" "I", .fieldLink RX3 25 "SwingCircuitsModel" "now" "[J", .methodLink RX3 76 yX3_in, .static yX3_in, .initialized RX3, .code yX3_in cX3_in 3 (some .boolean)] ++ wsX30)
def wsX3_event : List Cond := .code yX3_event cX3_event 3 (some .int) :: ([.fieldLink RX3 69 "SwingCircuitsModel" "thrown" "I", .fieldLink RX3 25 "SwingCircuitsModel" "now" "[J", .fieldLink RX3 35 "SwingCircuitsModel" "logCell" "[I", .fieldLink RX3 38 "SwingCircuitsModel" "logAt" "[I", .fieldLink RX3 41 "SwingCircuitsModel" "logNum" "[J", .fieldLink RX3 44 "SwingCircuitsModel" "logDen" "[J"] ++ wsX30)
def wsX3_areAlike : List Cond := .code yX3_areAlike cX3_areAlike 4 (some .boolean) :: ([.fieldLink RX3 51 "SwingCircuitsModel" "states" "[J"] ++ wsX30)
def wsX3_keep : List Cond := .code yX3_keep cX3_keep 3 none :: ([.fieldLink RX3 51 "SwingCircuitsModel" "states" "[J", .fieldLink RX3 25 "SwingCircuitsModel" "now" "[J"] ++ wsX30)
def wsX3_tell : List Cond := .code yX3_tell cX3_tell 6 none :: ([.fieldLink RX3 170 "SwingCircuitsModel" "wasRing" "Z", .fieldLink RX3 51 "SwingCircuitsModel" "states" "[J", .fieldLink RX3 54 "SwingCircuitsModel" "ringed" "[J", .fieldLink RX3 90 "SwingCircuitsModel" "num" "J", .fieldLink RX3 94 "SwingCircuitsModel" "den" "J", .methodLink RX3 107 yX3_make, .instanceMethod yX3_make, .selects RX3 yX3_make yX3_make, .initialized RX3, .code yX3_make cX3_make 7 none, .methodLink RX3 84 Lib.MathLoose.abs_long.x, .static Lib.MathLoose.abs_long.x, .initialized "java/lang/Math", .code Lib.MathLoose.abs_long.x Lib.MathLoose.abs_long.code 2 (some .long), .methodLink RX3 80 yX3_common, .static yX3_common, .code yX3_common cX3_common 4 (some .long)] ++ wsX30)
def wsX3_seek_r1 : List Cond := [Cond.methodLink RX3 159 yX3_keep, Cond.instanceMethod yX3_keep, Cond.selects RX3 yX3_keep yX3_keep, Cond.initialized RX3, Cond.code yX3_keep cX3_keep 3 none, Cond.fieldLink RX3 51 "SwingCircuitsModel" "states" "[J", Cond.fieldLink RX3 25 "SwingCircuitsModel" "now" "[J", Cond.methodLink RX3 143 yX3_step, Cond.instanceMethod yX3_step, Cond.selects RX3 yX3_step yX3_step, Cond.code yX3_step cX3_step 12 (some .boolean), Cond.fieldLink RX3 73 "SwingCircuitsModel" "cells" "I", Cond.fieldLink RX3 29 "SwingCircuitsModel" "before" "[J", Cond.fieldLink RX3 90 "SwingCircuitsModel" "num" "J", Cond.fieldLink RX3 94 "SwingCircuitsModel" "den" "J", Cond.fieldLink RX3 125 "SwingCircuitsModel" "nextCell" "I", Cond.fieldLink RX3 128 "SwingCircuitsModel" "nextAt" "I", Cond.fieldLink RX3 16 "SwingCircuitsModel" "rise" "[I", Cond.fieldLink RX3 19 "SwingCircuitsModel" "fall" "[I", Cond.fieldLink RX3 101 "SwingCircuitsModel" "linkMany" "I", Cond.fieldLink RX3 47 "SwingCircuitsModel" "isLogged" "Z", Cond.constantLong RX3 141 (500), Cond.fieldLink RX3 35 "SwingCircuitsModel" "logCell" "[I", Cond.fieldLink RX3 38 "SwingCircuitsModel" "logAt" "[I"]
def wsX3_seek_r2 : List Cond := [Cond.fieldLink RX3 41 "SwingCircuitsModel" "logNum" "[J", Cond.fieldLink RX3 44 "SwingCircuitsModel" "logDen" "[J", Cond.methodLink RX3 117 yX3_copy, Cond.static yX3_copy, Cond.code yX3_copy cX3_copy 3 none, Cond.methodLink RX3 121 yX3_waitOf, Cond.instanceMethod yX3_waitOf, Cond.selects RX3 yX3_waitOf yX3_waitOf, Cond.code yX3_waitOf cX3_waitOf 6 none, Cond.fieldLink RX3 13 "SwingCircuitsModel" "high" "[I", Cond.fieldLink RX3 9 "SwingCircuitsModel" "low" "[I", Cond.methodLink RX3 104 yX3_isFilling, Cond.instanceMethod yX3_isFilling, Cond.selects RX3 yX3_isFilling yX3_isFilling, Cond.code yX3_isFilling cX3_isFilling 2 (some .boolean), Cond.methodLink RX3 107 yX3_make, Cond.instanceMethod yX3_make, Cond.selects RX3 yX3_make yX3_make, Cond.code yX3_make cX3_make 7 none, Cond.methodLink RX3 84 Lib.MathLoose.abs_long.x, Cond.static Lib.MathLoose.abs_long.x, Cond.initialized "java/lang/Math", Cond.code Lib.MathLoose.abs_long.x Lib.MathLoose.abs_long.code 2 (some .long), Cond.methodLink RX3 80 yX3_common]
def wsX3_seek_r3 : List Cond := [Cond.static yX3_common, Cond.code yX3_common cX3_common 4 (some .long), Cond.methodLink RX3 131 yX3_store, Cond.instanceMethod yX3_store, Cond.selects RX3 yX3_store yX3_store, Cond.code yX3_store cX3_store 2 none, Cond.methodLink RX3 134 yX3_act, Cond.instanceMethod yX3_act, Cond.selects RX3 yX3_act yX3_act, Cond.code yX3_act cX3_act 8 none, Cond.fieldLink RX3 22 "SwingCircuitsModel" "links" "[I", Cond.methodLink RX3 137 yX3_isSpent, Cond.instanceMethod yX3_isSpent, Cond.selects RX3 yX3_isSpent yX3_isSpent, Cond.code yX3_isSpent cX3_isSpent 2 (some .boolean), Cond.methodLink RX3 113 yX3_isOver, Cond.static yX3_isOver, Cond.code yX3_isOver cX3_isOver 4 (some .boolean), Cond.constantLong RX3 111 (1000000), Cond.methodLink RX3 162 yX3_areAlike, Cond.instanceMethod yX3_areAlike, Cond.selects RX3 yX3_areAlike yX3_areAlike, Cond.code yX3_areAlike cX3_areAlike 4 (some .boolean), Cond.methodLink RX3 166 yX3_tell]
def wsX3_seek_r4 : List Cond := [Cond.instanceMethod yX3_tell, Cond.selects RX3 yX3_tell yX3_tell, Cond.code yX3_tell cX3_tell 6 none, Cond.fieldLink RX3 170 "SwingCircuitsModel" "wasRing" "Z", Cond.fieldLink RX3 54 "SwingCircuitsModel" "ringed" "[J"]
def wsX3_seek : List Cond := .code yX3_seek cX3_seek 4 (some .int) :: ((wsX3_seek_r1 ++ (wsX3_seek_r2 ++ (wsX3_seek_r3 ++ wsX3_seek_r4))) ++ wsX30)
def wsX3_ring_r1 : List Cond := [Cond.fieldLink RX3 69 "SwingCircuitsModel" "thrown" "I", Cond.fieldLink RX3 73 "SwingCircuitsModel" "cells" "I", Cond.fieldLink RX3 25 "SwingCircuitsModel" "now" "[J", Cond.fieldLink RX3 32 "SwingCircuitsModel" "aside" "[J", Cond.fieldLink RX3 47 "SwingCircuitsModel" "isLogged" "Z", Cond.methodLink RX3 76 yX3_in, Cond.static yX3_in, Cond.initialized RX3, Cond.code yX3_in cX3_in 3 (some .boolean), Cond.methodLink RX3 117 yX3_copy, Cond.static yX3_copy, Cond.code yX3_copy cX3_copy 3 none, Cond.methodLink RX3 173 yX3_seek, Cond.instanceMethod yX3_seek, Cond.selects RX3 yX3_seek yX3_seek, Cond.code yX3_seek cX3_seek 4 (some .int), Cond.methodLink RX3 159 yX3_keep, Cond.instanceMethod yX3_keep, Cond.selects RX3 yX3_keep yX3_keep, Cond.code yX3_keep cX3_keep 3 none, Cond.fieldLink RX3 51 "SwingCircuitsModel" "states" "[J", Cond.methodLink RX3 143 yX3_step, Cond.instanceMethod yX3_step, Cond.selects RX3 yX3_step yX3_step]
def wsX3_ring_r2 : List Cond := [Cond.code yX3_step cX3_step 12 (some .boolean), Cond.fieldLink RX3 29 "SwingCircuitsModel" "before" "[J", Cond.fieldLink RX3 90 "SwingCircuitsModel" "num" "J", Cond.fieldLink RX3 94 "SwingCircuitsModel" "den" "J", Cond.fieldLink RX3 125 "SwingCircuitsModel" "nextCell" "I", Cond.fieldLink RX3 128 "SwingCircuitsModel" "nextAt" "I", Cond.fieldLink RX3 16 "SwingCircuitsModel" "rise" "[I", Cond.fieldLink RX3 19 "SwingCircuitsModel" "fall" "[I", Cond.fieldLink RX3 101 "SwingCircuitsModel" "linkMany" "I", Cond.constantLong RX3 141 (500), Cond.fieldLink RX3 35 "SwingCircuitsModel" "logCell" "[I", Cond.fieldLink RX3 38 "SwingCircuitsModel" "logAt" "[I", Cond.fieldLink RX3 41 "SwingCircuitsModel" "logNum" "[J", Cond.fieldLink RX3 44 "SwingCircuitsModel" "logDen" "[J", Cond.methodLink RX3 121 yX3_waitOf, Cond.instanceMethod yX3_waitOf, Cond.selects RX3 yX3_waitOf yX3_waitOf, Cond.code yX3_waitOf cX3_waitOf 6 none, Cond.fieldLink RX3 13 "SwingCircuitsModel" "high" "[I", Cond.fieldLink RX3 9 "SwingCircuitsModel" "low" "[I", Cond.methodLink RX3 104 yX3_isFilling, Cond.instanceMethod yX3_isFilling, Cond.selects RX3 yX3_isFilling yX3_isFilling, Cond.code yX3_isFilling cX3_isFilling 2 (some .boolean)]
def wsX3_ring_r3 : List Cond := [Cond.methodLink RX3 107 yX3_make, Cond.instanceMethod yX3_make, Cond.selects RX3 yX3_make yX3_make, Cond.code yX3_make cX3_make 7 none, Cond.methodLink RX3 84 Lib.MathLoose.abs_long.x, Cond.static Lib.MathLoose.abs_long.x, Cond.initialized "java/lang/Math", Cond.code Lib.MathLoose.abs_long.x Lib.MathLoose.abs_long.code 2 (some .long), Cond.methodLink RX3 80 yX3_common, Cond.static yX3_common, Cond.code yX3_common cX3_common 4 (some .long), Cond.methodLink RX3 131 yX3_store, Cond.instanceMethod yX3_store, Cond.selects RX3 yX3_store yX3_store, Cond.code yX3_store cX3_store 2 none, Cond.methodLink RX3 134 yX3_act, Cond.instanceMethod yX3_act, Cond.selects RX3 yX3_act yX3_act, Cond.code yX3_act cX3_act 8 none, Cond.fieldLink RX3 22 "SwingCircuitsModel" "links" "[I", Cond.methodLink RX3 137 yX3_isSpent, Cond.instanceMethod yX3_isSpent, Cond.selects RX3 yX3_isSpent yX3_isSpent, Cond.code yX3_isSpent cX3_isSpent 2 (some .boolean)]
def wsX3_ring_r4 : List Cond := [Cond.methodLink RX3 113 yX3_isOver, Cond.static yX3_isOver, Cond.code yX3_isOver cX3_isOver 4 (some .boolean), Cond.constantLong RX3 111 (1000000), Cond.methodLink RX3 162 yX3_areAlike, Cond.instanceMethod yX3_areAlike, Cond.selects RX3 yX3_areAlike yX3_areAlike, Cond.code yX3_areAlike cX3_areAlike 4 (some .boolean), Cond.methodLink RX3 166 yX3_tell, Cond.instanceMethod yX3_tell, Cond.selects RX3 yX3_tell yX3_tell, Cond.code yX3_tell cX3_tell 6 none, Cond.fieldLink RX3 170 "SwingCircuitsModel" "wasRing" "Z", Cond.fieldLink RX3 54 "SwingCircuitsModel" "ringed" "[J"]
def wsX3_ring : List Cond := .code yX3_ring cX3_ring 3 (some .int) :: ((wsX3_ring_r1 ++ (wsX3_ring_r2 ++ (wsX3_ring_r3 ++ wsX3_ring_r4))) ++ wsX30)
def wsX3_ringed : List Cond := .code yX3_ringed cX3_ringed 2 (some .long) :: ([.fieldLink RX3 69 "SwingCircuitsModel" "thrown" "I", .fieldLink RX3 170 "SwingCircuitsModel" "wasRing" "Z", .fieldLink RX3 54 "SwingCircuitsModel" "ringed" "[J", .constantLong RX3 177 (-1), .methodLink RX3 76 yX3_in, .static yX3_in, .initialized RX3, .code yX3_in cX3_in 3 (some .boolean)] ++ wsX30)
def wsX3_drawer : List Cond := .code yX3_drawer cX3_drawer 3 (some .int) :: ([.fieldLink RX3 69 "SwingCircuitsModel" "thrown" "I", .fieldLink RX3 149 "SwingCircuitsModel" "drawn" "I", .fieldLink RX3 57 "SwingCircuitsModel" "drawer" "[I", .methodLink RX3 76 yX3_in, .static yX3_in, .initialized RX3, .code yX3_in cX3_in 3 (some .boolean)] ++ wsX30)
def wsX3_isFraction : List Cond := .code yX3_isFraction cX3_isFraction 2 (some .boolean) :: ([.constant RX3 179 (1000000), .methodLink RX3 76 yX3_in, .static yX3_in, .initialized RX3, .code yX3_in cX3_in 3 (some .boolean)])
def wsX3_ways : List Cond := .code yX3_ways cX3_ways 8 (some .int) :: ([.fieldLink RX3 149 "SwingCircuitsModel" "drawn" "I", .fieldLink RX3 57 "SwingCircuitsModel" "drawer" "[I", .fieldLink RX3 90 "SwingCircuitsModel" "num" "J", .fieldLink RX3 94 "SwingCircuitsModel" "den" "J", .methodLink RX3 155 yX3_beat, .instanceMethod yX3_beat, .selects RX3 yX3_beat yX3_beat, .initialized RX3, .code yX3_beat cX3_beat 4 none, .fieldLink RX3 13 "SwingCircuitsModel" "high" "[I", .fieldLink RX3 9 "SwingCircuitsModel" "low" "[I", .methodLink RX3 107 yX3_make, .instanceMethod yX3_make, .selects RX3 yX3_make yX3_make, .code yX3_make cX3_make 7 none, .methodLink RX3 84 Lib.MathLoose.abs_long.x, .static Lib.MathLoose.abs_long.x, .initialized "java/lang/Math", .code Lib.MathLoose.abs_long.x Lib.MathLoose.abs_long.code 2 (some .long), .methodLink RX3 80 yX3_common, .static yX3_common, .code yX3_common cX3_common 4 (some .long)] ++ wsX30)
def wsX3_parts_r1 : List Cond := [Cond.fieldLink RX3 69 "SwingCircuitsModel" "thrown" "I", Cond.methodLink RX3 97 yX3_isCell, Cond.instanceMethod yX3_isCell, Cond.selects RX3 yX3_isCell yX3_isCell, Cond.initialized RX3, Cond.code yX3_isCell cX3_isCell 2 (some .boolean), Cond.fieldLink RX3 73 "SwingCircuitsModel" "cells" "I", Cond.methodLink RX3 76 yX3_in, Cond.static yX3_in, Cond.code yX3_in cX3_in 3 (some .boolean), Cond.methodLink RX3 180 yX3_isFraction, Cond.static yX3_isFraction, Cond.code yX3_isFraction cX3_isFraction 2 (some .boolean), Cond.constant RX3 179 (1000000), Cond.methodLink RX3 183 yX3_ways, Cond.instanceMethod yX3_ways, Cond.selects RX3 yX3_ways yX3_ways, Cond.code yX3_ways cX3_ways 8 (some .int), Cond.fieldLink RX3 149 "SwingCircuitsModel" "drawn" "I", Cond.fieldLink RX3 57 "SwingCircuitsModel" "drawer" "[I", Cond.fieldLink RX3 90 "SwingCircuitsModel" "num" "J", Cond.fieldLink RX3 94 "SwingCircuitsModel" "den" "J", Cond.methodLink RX3 155 yX3_beat, Cond.instanceMethod yX3_beat]
def wsX3_parts_r2 : List Cond := [Cond.selects RX3 yX3_beat yX3_beat, Cond.code yX3_beat cX3_beat 4 none, Cond.fieldLink RX3 13 "SwingCircuitsModel" "high" "[I", Cond.fieldLink RX3 9 "SwingCircuitsModel" "low" "[I", Cond.methodLink RX3 107 yX3_make, Cond.instanceMethod yX3_make, Cond.selects RX3 yX3_make yX3_make, Cond.code yX3_make cX3_make 7 none, Cond.methodLink RX3 84 Lib.MathLoose.abs_long.x, Cond.static Lib.MathLoose.abs_long.x, Cond.initialized "java/lang/Math", Cond.code Lib.MathLoose.abs_long.x Lib.MathLoose.abs_long.code 2 (some .long), Cond.methodLink RX3 80 yX3_common, Cond.static yX3_common, Cond.code yX3_common cX3_common 4 (some .long)]
def wsX3_parts : List Cond := .code yX3_parts cX3_parts 4 (some .int) :: ((wsX3_parts_r1 ++ wsX3_parts_r2) ++ wsX30)
def wsX3_part_r1 : List Cond := [Cond.fieldLink RX3 69 "SwingCircuitsModel" "thrown" "I", Cond.methodLink RX3 97 yX3_isCell, Cond.instanceMethod yX3_isCell, Cond.selects RX3 yX3_isCell yX3_isCell, Cond.initialized RX3, Cond.code yX3_isCell cX3_isCell 2 (some .boolean), Cond.fieldLink RX3 73 "SwingCircuitsModel" "cells" "I", Cond.methodLink RX3 76 yX3_in, Cond.static yX3_in, Cond.code yX3_in cX3_in 3 (some .boolean), Cond.methodLink RX3 180 yX3_isFraction, Cond.static yX3_isFraction, Cond.code yX3_isFraction cX3_isFraction 2 (some .boolean), Cond.constant RX3 179 (1000000), Cond.methodLink RX3 183 yX3_ways, Cond.instanceMethod yX3_ways, Cond.selects RX3 yX3_ways yX3_ways, Cond.code yX3_ways cX3_ways 8 (some .int), Cond.fieldLink RX3 149 "SwingCircuitsModel" "drawn" "I", Cond.fieldLink RX3 57 "SwingCircuitsModel" "drawer" "[I", Cond.fieldLink RX3 90 "SwingCircuitsModel" "num" "J", Cond.fieldLink RX3 94 "SwingCircuitsModel" "den" "J", Cond.methodLink RX3 155 yX3_beat, Cond.instanceMethod yX3_beat]
def wsX3_part_r2 : List Cond := [Cond.selects RX3 yX3_beat yX3_beat, Cond.code yX3_beat cX3_beat 4 none, Cond.fieldLink RX3 13 "SwingCircuitsModel" "high" "[I", Cond.fieldLink RX3 9 "SwingCircuitsModel" "low" "[I", Cond.methodLink RX3 107 yX3_make, Cond.instanceMethod yX3_make, Cond.selects RX3 yX3_make yX3_make, Cond.code yX3_make cX3_make 7 none, Cond.methodLink RX3 84 Lib.MathLoose.abs_long.x, Cond.static Lib.MathLoose.abs_long.x, Cond.initialized "java/lang/Math", Cond.code Lib.MathLoose.abs_long.x Lib.MathLoose.abs_long.code 2 (some .long), Cond.methodLink RX3 80 yX3_common, Cond.static yX3_common, Cond.code yX3_common cX3_common 4 (some .long)]
def wsX3_part : List Cond := .code yX3_part cX3_part 5 (some .int) :: ((wsX3_part_r1 ++ wsX3_part_r2) ++ wsX30)
def wsX3_measure_r1 : List Cond := [Cond.fieldLink RX3 69 "SwingCircuitsModel" "thrown" "I", Cond.fieldLink RX3 152 "SwingCircuitsModel" "measured" "I", Cond.fieldLink RX3 60 "SwingCircuitsModel" "measuredNum" "[J", Cond.fieldLink RX3 90 "SwingCircuitsModel" "num" "J", Cond.fieldLink RX3 63 "SwingCircuitsModel" "measuredDen" "[J", Cond.fieldLink RX3 94 "SwingCircuitsModel" "den" "J", Cond.methodLink RX3 180 yX3_isFraction, Cond.static yX3_isFraction, Cond.initialized RX3, Cond.code yX3_isFraction cX3_isFraction 2 (some .boolean), Cond.constant RX3 179 (1000000), Cond.methodLink RX3 76 yX3_in, Cond.static yX3_in, Cond.code yX3_in cX3_in 3 (some .boolean), Cond.methodLink RX3 107 yX3_make, Cond.instanceMethod yX3_make, Cond.selects RX3 yX3_make yX3_make, Cond.code yX3_make cX3_make 7 none, Cond.methodLink RX3 84 Lib.MathLoose.abs_long.x, Cond.static Lib.MathLoose.abs_long.x, Cond.initialized "java/lang/Math", Cond.code Lib.MathLoose.abs_long.x Lib.MathLoose.abs_long.code 2 (some .long), Cond.methodLink RX3 80 yX3_common, Cond.static yX3_common]
def wsX3_measure_r2 : List Cond := [Cond.code yX3_common cX3_common 4 (some .long)]
def wsX3_measure : List Cond := .code yX3_measure cX3_measure 3 (some .int) :: ((wsX3_measure_r1 ++ wsX3_measure_r2) ++ wsX30)
def wsX3_forget : List Cond := .code yX3_forget cX3_forget 2 (some .int) :: ([.fieldLink RX3 69 "SwingCircuitsModel" "thrown" "I", .fieldLink RX3 152 "SwingCircuitsModel" "measured" "I"] ++ wsX30)
def wsX3_isSo_r1 : List Cond := [Cond.fieldLink RX3 152 "SwingCircuitsModel" "measured" "I", Cond.fieldLink RX3 25 "SwingCircuitsModel" "now" "[J", Cond.fieldLink RX3 32 "SwingCircuitsModel" "aside" "[J", Cond.fieldLink RX3 47 "SwingCircuitsModel" "isLogged" "Z", Cond.fieldLink RX3 125 "SwingCircuitsModel" "nextCell" "I", Cond.fieldLink RX3 128 "SwingCircuitsModel" "nextAt" "I", Cond.fieldLink RX3 90 "SwingCircuitsModel" "num" "J", Cond.fieldLink RX3 60 "SwingCircuitsModel" "measuredNum" "[J", Cond.fieldLink RX3 94 "SwingCircuitsModel" "den" "J", Cond.fieldLink RX3 63 "SwingCircuitsModel" "measuredDen" "[J", Cond.methodLink RX3 117 yX3_copy, Cond.static yX3_copy, Cond.initialized RX3, Cond.code yX3_copy cX3_copy 3 none, Cond.methodLink RX3 66 yX3_resetAll, Cond.instanceMethod yX3_resetAll, Cond.selects RX3 yX3_resetAll yX3_resetAll, Cond.code yX3_resetAll cX3_resetAll 2 none, Cond.fieldLink RX3 9 "SwingCircuitsModel" "low" "[I", Cond.methodLink RX3 143 yX3_step, Cond.instanceMethod yX3_step, Cond.selects RX3 yX3_step yX3_step, Cond.code yX3_step cX3_step 12 (some .boolean), Cond.fieldLink RX3 73 "SwingCircuitsModel" "cells" "I"]
def wsX3_isSo_r2 : List Cond := [Cond.fieldLink RX3 29 "SwingCircuitsModel" "before" "[J", Cond.fieldLink RX3 16 "SwingCircuitsModel" "rise" "[I", Cond.fieldLink RX3 19 "SwingCircuitsModel" "fall" "[I", Cond.fieldLink RX3 101 "SwingCircuitsModel" "linkMany" "I", Cond.constantLong RX3 141 (500), Cond.fieldLink RX3 35 "SwingCircuitsModel" "logCell" "[I", Cond.fieldLink RX3 38 "SwingCircuitsModel" "logAt" "[I", Cond.fieldLink RX3 41 "SwingCircuitsModel" "logNum" "[J", Cond.fieldLink RX3 44 "SwingCircuitsModel" "logDen" "[J", Cond.methodLink RX3 121 yX3_waitOf, Cond.instanceMethod yX3_waitOf, Cond.selects RX3 yX3_waitOf yX3_waitOf, Cond.code yX3_waitOf cX3_waitOf 6 none, Cond.fieldLink RX3 13 "SwingCircuitsModel" "high" "[I", Cond.methodLink RX3 104 yX3_isFilling, Cond.instanceMethod yX3_isFilling, Cond.selects RX3 yX3_isFilling yX3_isFilling, Cond.code yX3_isFilling cX3_isFilling 2 (some .boolean), Cond.methodLink RX3 107 yX3_make, Cond.instanceMethod yX3_make, Cond.selects RX3 yX3_make yX3_make, Cond.code yX3_make cX3_make 7 none, Cond.methodLink RX3 84 Lib.MathLoose.abs_long.x, Cond.static Lib.MathLoose.abs_long.x]
def wsX3_isSo_r3 : List Cond := [Cond.initialized "java/lang/Math", Cond.code Lib.MathLoose.abs_long.x Lib.MathLoose.abs_long.code 2 (some .long), Cond.methodLink RX3 80 yX3_common, Cond.static yX3_common, Cond.code yX3_common cX3_common 4 (some .long), Cond.methodLink RX3 131 yX3_store, Cond.instanceMethod yX3_store, Cond.selects RX3 yX3_store yX3_store, Cond.code yX3_store cX3_store 2 none, Cond.methodLink RX3 134 yX3_act, Cond.instanceMethod yX3_act, Cond.selects RX3 yX3_act yX3_act, Cond.code yX3_act cX3_act 8 none, Cond.fieldLink RX3 22 "SwingCircuitsModel" "links" "[I", Cond.methodLink RX3 137 yX3_isSpent, Cond.instanceMethod yX3_isSpent, Cond.selects RX3 yX3_isSpent yX3_isSpent, Cond.code yX3_isSpent cX3_isSpent 2 (some .boolean), Cond.methodLink RX3 113 yX3_isOver, Cond.static yX3_isOver, Cond.code yX3_isOver cX3_isOver 4 (some .boolean), Cond.constantLong RX3 111 (1000000)]
def wsX3_isSo : List Cond := .code yX3_isSo cX3_isSo 9 (some .boolean) :: ((wsX3_isSo_r1 ++ (wsX3_isSo_r2 ++ wsX3_isSo_r3)) ++ wsX30)
def wsX3_explains_r1 : List Cond := [Cond.fieldLink RX3 16 "SwingCircuitsModel" "rise" "[I", Cond.fieldLink RX3 19 "SwingCircuitsModel" "fall" "[I", Cond.methodLink RX3 187 yX3_isSo, Cond.instanceMethod yX3_isSo, Cond.selects RX3 yX3_isSo yX3_isSo, Cond.initialized RX3, Cond.code yX3_isSo cX3_isSo 9 (some .boolean), Cond.fieldLink RX3 152 "SwingCircuitsModel" "measured" "I", Cond.fieldLink RX3 25 "SwingCircuitsModel" "now" "[J", Cond.fieldLink RX3 32 "SwingCircuitsModel" "aside" "[J", Cond.fieldLink RX3 47 "SwingCircuitsModel" "isLogged" "Z", Cond.fieldLink RX3 125 "SwingCircuitsModel" "nextCell" "I", Cond.fieldLink RX3 128 "SwingCircuitsModel" "nextAt" "I", Cond.fieldLink RX3 90 "SwingCircuitsModel" "num" "J", Cond.fieldLink RX3 60 "SwingCircuitsModel" "measuredNum" "[J", Cond.fieldLink RX3 94 "SwingCircuitsModel" "den" "J", Cond.fieldLink RX3 63 "SwingCircuitsModel" "measuredDen" "[J", Cond.methodLink RX3 117 yX3_copy, Cond.static yX3_copy, Cond.code yX3_copy cX3_copy 3 none, Cond.methodLink RX3 66 yX3_resetAll, Cond.instanceMethod yX3_resetAll, Cond.selects RX3 yX3_resetAll yX3_resetAll, Cond.code yX3_resetAll cX3_resetAll 2 none]
def wsX3_explains_r2 : List Cond := [Cond.fieldLink RX3 9 "SwingCircuitsModel" "low" "[I", Cond.methodLink RX3 143 yX3_step, Cond.instanceMethod yX3_step, Cond.selects RX3 yX3_step yX3_step, Cond.code yX3_step cX3_step 12 (some .boolean), Cond.fieldLink RX3 73 "SwingCircuitsModel" "cells" "I", Cond.fieldLink RX3 29 "SwingCircuitsModel" "before" "[J", Cond.fieldLink RX3 101 "SwingCircuitsModel" "linkMany" "I", Cond.constantLong RX3 141 (500), Cond.fieldLink RX3 35 "SwingCircuitsModel" "logCell" "[I", Cond.fieldLink RX3 38 "SwingCircuitsModel" "logAt" "[I", Cond.fieldLink RX3 41 "SwingCircuitsModel" "logNum" "[J", Cond.fieldLink RX3 44 "SwingCircuitsModel" "logDen" "[J", Cond.methodLink RX3 121 yX3_waitOf, Cond.instanceMethod yX3_waitOf, Cond.selects RX3 yX3_waitOf yX3_waitOf, Cond.code yX3_waitOf cX3_waitOf 6 none, Cond.fieldLink RX3 13 "SwingCircuitsModel" "high" "[I", Cond.methodLink RX3 104 yX3_isFilling, Cond.instanceMethod yX3_isFilling, Cond.selects RX3 yX3_isFilling yX3_isFilling, Cond.code yX3_isFilling cX3_isFilling 2 (some .boolean), Cond.methodLink RX3 107 yX3_make, Cond.instanceMethod yX3_make]
def wsX3_explains_r3 : List Cond := [Cond.selects RX3 yX3_make yX3_make, Cond.code yX3_make cX3_make 7 none, Cond.methodLink RX3 84 Lib.MathLoose.abs_long.x, Cond.static Lib.MathLoose.abs_long.x, Cond.initialized "java/lang/Math", Cond.code Lib.MathLoose.abs_long.x Lib.MathLoose.abs_long.code 2 (some .long), Cond.methodLink RX3 80 yX3_common, Cond.static yX3_common, Cond.code yX3_common cX3_common 4 (some .long), Cond.methodLink RX3 131 yX3_store, Cond.instanceMethod yX3_store, Cond.selects RX3 yX3_store yX3_store, Cond.code yX3_store cX3_store 2 none, Cond.methodLink RX3 134 yX3_act, Cond.instanceMethod yX3_act, Cond.selects RX3 yX3_act yX3_act, Cond.code yX3_act cX3_act 8 none, Cond.fieldLink RX3 22 "SwingCircuitsModel" "links" "[I", Cond.methodLink RX3 137 yX3_isSpent, Cond.instanceMethod yX3_isSpent, Cond.selects RX3 yX3_isSpent yX3_isSpent, Cond.code yX3_isSpent cX3_isSpent 2 (some .boolean), Cond.methodLink RX3 113 yX3_isOver, Cond.static yX3_isOver]
def wsX3_explains_r4 : List Cond := [Cond.code yX3_isOver cX3_isOver 4 (some .boolean), Cond.constantLong RX3 111 (1000000)]
def wsX3_explains : List Cond := .code yX3_explains cX3_explains 7 (some .boolean) :: ((wsX3_explains_r1 ++ (wsX3_explains_r2 ++ (wsX3_explains_r3 ++ wsX3_explains_r4))) ++ wsX30)
def wsX3_explaining_r1 : List Cond := [Cond.fieldLink RX3 73 "SwingCircuitsModel" "cells" "I", Cond.fieldLink RX3 149 "SwingCircuitsModel" "drawn" "I", Cond.fieldLink RX3 57 "SwingCircuitsModel" "drawer" "[I", Cond.methodLink RX3 190 yX3_explains, Cond.instanceMethod yX3_explains, Cond.selects RX3 yX3_explains yX3_explains, Cond.initialized RX3, Cond.code yX3_explains cX3_explains 7 (some .boolean), Cond.fieldLink RX3 16 "SwingCircuitsModel" "rise" "[I", Cond.fieldLink RX3 19 "SwingCircuitsModel" "fall" "[I", Cond.methodLink RX3 187 yX3_isSo, Cond.instanceMethod yX3_isSo, Cond.selects RX3 yX3_isSo yX3_isSo, Cond.code yX3_isSo cX3_isSo 9 (some .boolean), Cond.fieldLink RX3 152 "SwingCircuitsModel" "measured" "I", Cond.fieldLink RX3 25 "SwingCircuitsModel" "now" "[J", Cond.fieldLink RX3 32 "SwingCircuitsModel" "aside" "[J", Cond.fieldLink RX3 47 "SwingCircuitsModel" "isLogged" "Z", Cond.fieldLink RX3 125 "SwingCircuitsModel" "nextCell" "I", Cond.fieldLink RX3 128 "SwingCircuitsModel" "nextAt" "I", Cond.fieldLink RX3 90 "SwingCircuitsModel" "num" "J", Cond.fieldLink RX3 60 "SwingCircuitsModel" "measuredNum" "[J", Cond.fieldLink RX3 94 "SwingCircuitsModel" "den" "J", Cond.fieldLink RX3 63 "SwingCircuitsModel" "measuredDen" "[J"]
def wsX3_explaining_r2 : List Cond := [Cond.methodLink RX3 117 yX3_copy, Cond.static yX3_copy, Cond.code yX3_copy cX3_copy 3 none, Cond.methodLink RX3 66 yX3_resetAll, Cond.instanceMethod yX3_resetAll, Cond.selects RX3 yX3_resetAll yX3_resetAll, Cond.code yX3_resetAll cX3_resetAll 2 none, Cond.fieldLink RX3 9 "SwingCircuitsModel" "low" "[I", Cond.methodLink RX3 143 yX3_step, Cond.instanceMethod yX3_step, Cond.selects RX3 yX3_step yX3_step, Cond.code yX3_step cX3_step 12 (some .boolean), Cond.fieldLink RX3 29 "SwingCircuitsModel" "before" "[J", Cond.fieldLink RX3 101 "SwingCircuitsModel" "linkMany" "I", Cond.constantLong RX3 141 (500), Cond.fieldLink RX3 35 "SwingCircuitsModel" "logCell" "[I", Cond.fieldLink RX3 38 "SwingCircuitsModel" "logAt" "[I", Cond.fieldLink RX3 41 "SwingCircuitsModel" "logNum" "[J", Cond.fieldLink RX3 44 "SwingCircuitsModel" "logDen" "[J", Cond.methodLink RX3 121 yX3_waitOf, Cond.instanceMethod yX3_waitOf, Cond.selects RX3 yX3_waitOf yX3_waitOf, Cond.code yX3_waitOf cX3_waitOf 6 none, Cond.fieldLink RX3 13 "SwingCircuitsModel" "high" "[I"]
def wsX3_explaining_r3 : List Cond := [Cond.methodLink RX3 104 yX3_isFilling, Cond.instanceMethod yX3_isFilling, Cond.selects RX3 yX3_isFilling yX3_isFilling, Cond.code yX3_isFilling cX3_isFilling 2 (some .boolean), Cond.methodLink RX3 107 yX3_make, Cond.instanceMethod yX3_make, Cond.selects RX3 yX3_make yX3_make, Cond.code yX3_make cX3_make 7 none, Cond.methodLink RX3 84 Lib.MathLoose.abs_long.x, Cond.static Lib.MathLoose.abs_long.x, Cond.initialized "java/lang/Math", Cond.code Lib.MathLoose.abs_long.x Lib.MathLoose.abs_long.code 2 (some .long), Cond.methodLink RX3 80 yX3_common, Cond.static yX3_common, Cond.code yX3_common cX3_common 4 (some .long), Cond.methodLink RX3 131 yX3_store, Cond.instanceMethod yX3_store, Cond.selects RX3 yX3_store yX3_store, Cond.code yX3_store cX3_store 2 none, Cond.methodLink RX3 134 yX3_act, Cond.instanceMethod yX3_act, Cond.selects RX3 yX3_act yX3_act, Cond.code yX3_act cX3_act 8 none, Cond.fieldLink RX3 22 "SwingCircuitsModel" "links" "[I"]
def wsX3_explaining_r4 : List Cond := [Cond.methodLink RX3 137 yX3_isSpent, Cond.instanceMethod yX3_isSpent, Cond.selects RX3 yX3_isSpent yX3_isSpent, Cond.code yX3_isSpent cX3_isSpent 2 (some .boolean), Cond.methodLink RX3 113 yX3_isOver, Cond.static yX3_isOver, Cond.code yX3_isOver cX3_isOver 4 (some .boolean), Cond.constantLong RX3 111 (1000000)]
def wsX3_explaining : List Cond := .code yX3_explaining cX3_explaining 7 (some .int) :: ((wsX3_explaining_r1 ++ (wsX3_explaining_r2 ++ (wsX3_explaining_r3 ++ wsX3_explaining_r4))) ++ wsX30)
def wsX3_faults_r1 : List Cond := [Cond.fieldLink RX3 69 "SwingCircuitsModel" "thrown" "I", Cond.methodLink RX3 97 yX3_isCell, Cond.instanceMethod yX3_isCell, Cond.selects RX3 yX3_isCell yX3_isCell, Cond.initialized RX3, Cond.code yX3_isCell cX3_isCell 2 (some .boolean), Cond.fieldLink RX3 73 "SwingCircuitsModel" "cells" "I", Cond.methodLink RX3 76 yX3_in, Cond.static yX3_in, Cond.code yX3_in cX3_in 3 (some .boolean), Cond.methodLink RX3 194 yX3_explaining, Cond.instanceMethod yX3_explaining, Cond.selects RX3 yX3_explaining yX3_explaining, Cond.code yX3_explaining cX3_explaining 7 (some .int), Cond.fieldLink RX3 149 "SwingCircuitsModel" "drawn" "I", Cond.fieldLink RX3 57 "SwingCircuitsModel" "drawer" "[I", Cond.methodLink RX3 190 yX3_explains, Cond.instanceMethod yX3_explains, Cond.selects RX3 yX3_explains yX3_explains, Cond.code yX3_explains cX3_explains 7 (some .boolean), Cond.fieldLink RX3 16 "SwingCircuitsModel" "rise" "[I", Cond.fieldLink RX3 19 "SwingCircuitsModel" "fall" "[I", Cond.methodLink RX3 187 yX3_isSo, Cond.instanceMethod yX3_isSo]
def wsX3_faults_r2 : List Cond := [Cond.selects RX3 yX3_isSo yX3_isSo, Cond.code yX3_isSo cX3_isSo 9 (some .boolean), Cond.fieldLink RX3 152 "SwingCircuitsModel" "measured" "I", Cond.fieldLink RX3 25 "SwingCircuitsModel" "now" "[J", Cond.fieldLink RX3 32 "SwingCircuitsModel" "aside" "[J", Cond.fieldLink RX3 47 "SwingCircuitsModel" "isLogged" "Z", Cond.fieldLink RX3 125 "SwingCircuitsModel" "nextCell" "I", Cond.fieldLink RX3 128 "SwingCircuitsModel" "nextAt" "I", Cond.fieldLink RX3 90 "SwingCircuitsModel" "num" "J", Cond.fieldLink RX3 60 "SwingCircuitsModel" "measuredNum" "[J", Cond.fieldLink RX3 94 "SwingCircuitsModel" "den" "J", Cond.fieldLink RX3 63 "SwingCircuitsModel" "measuredDen" "[J", Cond.methodLink RX3 117 yX3_copy, Cond.static yX3_copy, Cond.code yX3_copy cX3_copy 3 none, Cond.methodLink RX3 66 yX3_resetAll, Cond.instanceMethod yX3_resetAll, Cond.selects RX3 yX3_resetAll yX3_resetAll, Cond.code yX3_resetAll cX3_resetAll 2 none, Cond.fieldLink RX3 9 "SwingCircuitsModel" "low" "[I", Cond.methodLink RX3 143 yX3_step, Cond.instanceMethod yX3_step, Cond.selects RX3 yX3_step yX3_step, Cond.code yX3_step cX3_step 12 (some .boolean)]
def wsX3_faults_r3 : List Cond := [Cond.fieldLink RX3 29 "SwingCircuitsModel" "before" "[J", Cond.fieldLink RX3 101 "SwingCircuitsModel" "linkMany" "I", Cond.constantLong RX3 141 (500), Cond.fieldLink RX3 35 "SwingCircuitsModel" "logCell" "[I", Cond.fieldLink RX3 38 "SwingCircuitsModel" "logAt" "[I", Cond.fieldLink RX3 41 "SwingCircuitsModel" "logNum" "[J", Cond.fieldLink RX3 44 "SwingCircuitsModel" "logDen" "[J", Cond.methodLink RX3 121 yX3_waitOf, Cond.instanceMethod yX3_waitOf, Cond.selects RX3 yX3_waitOf yX3_waitOf, Cond.code yX3_waitOf cX3_waitOf 6 none, Cond.fieldLink RX3 13 "SwingCircuitsModel" "high" "[I", Cond.methodLink RX3 104 yX3_isFilling, Cond.instanceMethod yX3_isFilling, Cond.selects RX3 yX3_isFilling yX3_isFilling, Cond.code yX3_isFilling cX3_isFilling 2 (some .boolean), Cond.methodLink RX3 107 yX3_make, Cond.instanceMethod yX3_make, Cond.selects RX3 yX3_make yX3_make, Cond.code yX3_make cX3_make 7 none, Cond.methodLink RX3 84 Lib.MathLoose.abs_long.x, Cond.static Lib.MathLoose.abs_long.x, Cond.initialized "java/lang/Math", Cond.code Lib.MathLoose.abs_long.x Lib.MathLoose.abs_long.code 2 (some .long)]
def wsX3_faults_r4 : List Cond := [Cond.methodLink RX3 80 yX3_common, Cond.static yX3_common, Cond.code yX3_common cX3_common 4 (some .long), Cond.methodLink RX3 131 yX3_store, Cond.instanceMethod yX3_store, Cond.selects RX3 yX3_store yX3_store, Cond.code yX3_store cX3_store 2 none, Cond.methodLink RX3 134 yX3_act, Cond.instanceMethod yX3_act, Cond.selects RX3 yX3_act yX3_act, Cond.code yX3_act cX3_act 8 none, Cond.fieldLink RX3 22 "SwingCircuitsModel" "links" "[I", Cond.methodLink RX3 137 yX3_isSpent, Cond.instanceMethod yX3_isSpent, Cond.selects RX3 yX3_isSpent yX3_isSpent, Cond.code yX3_isSpent cX3_isSpent 2 (some .boolean), Cond.methodLink RX3 113 yX3_isOver, Cond.static yX3_isOver, Cond.code yX3_isOver cX3_isOver 4 (some .boolean), Cond.constantLong RX3 111 (1000000)]
def wsX3_faults : List Cond := .code yX3_faults cX3_faults 2 (some .int) :: ((wsX3_faults_r1 ++ (wsX3_faults_r2 ++ (wsX3_faults_r3 ++ wsX3_faults_r4))) ++ wsX30)
def wsX3_fault_r1 : List Cond := [Cond.fieldLink RX3 69 "SwingCircuitsModel" "thrown" "I", Cond.methodLink RX3 97 yX3_isCell, Cond.instanceMethod yX3_isCell, Cond.selects RX3 yX3_isCell yX3_isCell, Cond.initialized RX3, Cond.code yX3_isCell cX3_isCell 2 (some .boolean), Cond.fieldLink RX3 73 "SwingCircuitsModel" "cells" "I", Cond.methodLink RX3 76 yX3_in, Cond.static yX3_in, Cond.code yX3_in cX3_in 3 (some .boolean), Cond.methodLink RX3 194 yX3_explaining, Cond.instanceMethod yX3_explaining, Cond.selects RX3 yX3_explaining yX3_explaining, Cond.code yX3_explaining cX3_explaining 7 (some .int), Cond.fieldLink RX3 149 "SwingCircuitsModel" "drawn" "I", Cond.fieldLink RX3 57 "SwingCircuitsModel" "drawer" "[I", Cond.methodLink RX3 190 yX3_explains, Cond.instanceMethod yX3_explains, Cond.selects RX3 yX3_explains yX3_explains, Cond.code yX3_explains cX3_explains 7 (some .boolean), Cond.fieldLink RX3 16 "SwingCircuitsModel" "rise" "[I", Cond.fieldLink RX3 19 "SwingCircuitsModel" "fall" "[I", Cond.methodLink RX3 187 yX3_isSo, Cond.instanceMethod yX3_isSo]
def wsX3_fault_r2 : List Cond := [Cond.selects RX3 yX3_isSo yX3_isSo, Cond.code yX3_isSo cX3_isSo 9 (some .boolean), Cond.fieldLink RX3 152 "SwingCircuitsModel" "measured" "I", Cond.fieldLink RX3 25 "SwingCircuitsModel" "now" "[J", Cond.fieldLink RX3 32 "SwingCircuitsModel" "aside" "[J", Cond.fieldLink RX3 47 "SwingCircuitsModel" "isLogged" "Z", Cond.fieldLink RX3 125 "SwingCircuitsModel" "nextCell" "I", Cond.fieldLink RX3 128 "SwingCircuitsModel" "nextAt" "I", Cond.fieldLink RX3 90 "SwingCircuitsModel" "num" "J", Cond.fieldLink RX3 60 "SwingCircuitsModel" "measuredNum" "[J", Cond.fieldLink RX3 94 "SwingCircuitsModel" "den" "J", Cond.fieldLink RX3 63 "SwingCircuitsModel" "measuredDen" "[J", Cond.methodLink RX3 117 yX3_copy, Cond.static yX3_copy, Cond.code yX3_copy cX3_copy 3 none, Cond.methodLink RX3 66 yX3_resetAll, Cond.instanceMethod yX3_resetAll, Cond.selects RX3 yX3_resetAll yX3_resetAll, Cond.code yX3_resetAll cX3_resetAll 2 none, Cond.fieldLink RX3 9 "SwingCircuitsModel" "low" "[I", Cond.methodLink RX3 143 yX3_step, Cond.instanceMethod yX3_step, Cond.selects RX3 yX3_step yX3_step, Cond.code yX3_step cX3_step 12 (some .boolean)]
def wsX3_fault_r3 : List Cond := [Cond.fieldLink RX3 29 "SwingCircuitsModel" "before" "[J", Cond.fieldLink RX3 101 "SwingCircuitsModel" "linkMany" "I", Cond.constantLong RX3 141 (500), Cond.fieldLink RX3 35 "SwingCircuitsModel" "logCell" "[I", Cond.fieldLink RX3 38 "SwingCircuitsModel" "logAt" "[I", Cond.fieldLink RX3 41 "SwingCircuitsModel" "logNum" "[J", Cond.fieldLink RX3 44 "SwingCircuitsModel" "logDen" "[J", Cond.methodLink RX3 121 yX3_waitOf, Cond.instanceMethod yX3_waitOf, Cond.selects RX3 yX3_waitOf yX3_waitOf, Cond.code yX3_waitOf cX3_waitOf 6 none, Cond.fieldLink RX3 13 "SwingCircuitsModel" "high" "[I", Cond.methodLink RX3 104 yX3_isFilling, Cond.instanceMethod yX3_isFilling, Cond.selects RX3 yX3_isFilling yX3_isFilling, Cond.code yX3_isFilling cX3_isFilling 2 (some .boolean), Cond.methodLink RX3 107 yX3_make, Cond.instanceMethod yX3_make, Cond.selects RX3 yX3_make yX3_make, Cond.code yX3_make cX3_make 7 none, Cond.methodLink RX3 84 Lib.MathLoose.abs_long.x, Cond.static Lib.MathLoose.abs_long.x, Cond.initialized "java/lang/Math", Cond.code Lib.MathLoose.abs_long.x Lib.MathLoose.abs_long.code 2 (some .long)]
def wsX3_fault_r4 : List Cond := [Cond.methodLink RX3 80 yX3_common, Cond.static yX3_common, Cond.code yX3_common cX3_common 4 (some .long), Cond.methodLink RX3 131 yX3_store, Cond.instanceMethod yX3_store, Cond.selects RX3 yX3_store yX3_store, Cond.code yX3_store cX3_store 2 none, Cond.methodLink RX3 134 yX3_act, Cond.instanceMethod yX3_act, Cond.selects RX3 yX3_act yX3_act, Cond.code yX3_act cX3_act 8 none, Cond.fieldLink RX3 22 "SwingCircuitsModel" "links" "[I", Cond.methodLink RX3 137 yX3_isSpent, Cond.instanceMethod yX3_isSpent, Cond.selects RX3 yX3_isSpent yX3_isSpent, Cond.code yX3_isSpent cX3_isSpent 2 (some .boolean), Cond.methodLink RX3 113 yX3_isOver, Cond.static yX3_isOver, Cond.code yX3_isOver cX3_isOver 4 (some .boolean), Cond.constantLong RX3 111 (1000000)]
def wsX3_fault : List Cond := .code yX3_fault cX3_fault 3 (some .int) :: ((wsX3_fault_r1 ++ (wsX3_fault_r2 ++ (wsX3_fault_r3 ++ wsX3_fault_r4))) ++ wsX30)
def wsX3_fits_r1 : List Cond := [Cond.fieldLink RX3 69 "SwingCircuitsModel" "thrown" "I", Cond.methodLink RX3 97 yX3_isCell, Cond.instanceMethod yX3_isCell, Cond.selects RX3 yX3_isCell yX3_isCell, Cond.initialized RX3, Cond.code yX3_isCell cX3_isCell 2 (some .boolean), Cond.fieldLink RX3 73 "SwingCircuitsModel" "cells" "I", Cond.methodLink RX3 76 yX3_in, Cond.static yX3_in, Cond.code yX3_in cX3_in 3 (some .boolean), Cond.methodLink RX3 187 yX3_isSo, Cond.instanceMethod yX3_isSo, Cond.selects RX3 yX3_isSo yX3_isSo, Cond.code yX3_isSo cX3_isSo 9 (some .boolean), Cond.fieldLink RX3 152 "SwingCircuitsModel" "measured" "I", Cond.fieldLink RX3 25 "SwingCircuitsModel" "now" "[J", Cond.fieldLink RX3 32 "SwingCircuitsModel" "aside" "[J", Cond.fieldLink RX3 47 "SwingCircuitsModel" "isLogged" "Z", Cond.fieldLink RX3 125 "SwingCircuitsModel" "nextCell" "I", Cond.fieldLink RX3 128 "SwingCircuitsModel" "nextAt" "I", Cond.fieldLink RX3 90 "SwingCircuitsModel" "num" "J", Cond.fieldLink RX3 60 "SwingCircuitsModel" "measuredNum" "[J", Cond.fieldLink RX3 94 "SwingCircuitsModel" "den" "J", Cond.fieldLink RX3 63 "SwingCircuitsModel" "measuredDen" "[J"]
def wsX3_fits_r2 : List Cond := [Cond.methodLink RX3 117 yX3_copy, Cond.static yX3_copy, Cond.code yX3_copy cX3_copy 3 none, Cond.methodLink RX3 66 yX3_resetAll, Cond.instanceMethod yX3_resetAll, Cond.selects RX3 yX3_resetAll yX3_resetAll, Cond.code yX3_resetAll cX3_resetAll 2 none, Cond.fieldLink RX3 9 "SwingCircuitsModel" "low" "[I", Cond.methodLink RX3 143 yX3_step, Cond.instanceMethod yX3_step, Cond.selects RX3 yX3_step yX3_step, Cond.code yX3_step cX3_step 12 (some .boolean), Cond.fieldLink RX3 29 "SwingCircuitsModel" "before" "[J", Cond.fieldLink RX3 16 "SwingCircuitsModel" "rise" "[I", Cond.fieldLink RX3 19 "SwingCircuitsModel" "fall" "[I", Cond.fieldLink RX3 101 "SwingCircuitsModel" "linkMany" "I", Cond.constantLong RX3 141 (500), Cond.fieldLink RX3 35 "SwingCircuitsModel" "logCell" "[I", Cond.fieldLink RX3 38 "SwingCircuitsModel" "logAt" "[I", Cond.fieldLink RX3 41 "SwingCircuitsModel" "logNum" "[J", Cond.fieldLink RX3 44 "SwingCircuitsModel" "logDen" "[J", Cond.methodLink RX3 121 yX3_waitOf, Cond.instanceMethod yX3_waitOf, Cond.selects RX3 yX3_waitOf yX3_waitOf]
def wsX3_fits_r3 : List Cond := [Cond.code yX3_waitOf cX3_waitOf 6 none, Cond.fieldLink RX3 13 "SwingCircuitsModel" "high" "[I", Cond.methodLink RX3 104 yX3_isFilling, Cond.instanceMethod yX3_isFilling, Cond.selects RX3 yX3_isFilling yX3_isFilling, Cond.code yX3_isFilling cX3_isFilling 2 (some .boolean), Cond.methodLink RX3 107 yX3_make, Cond.instanceMethod yX3_make, Cond.selects RX3 yX3_make yX3_make, Cond.code yX3_make cX3_make 7 none, Cond.methodLink RX3 84 Lib.MathLoose.abs_long.x, Cond.static Lib.MathLoose.abs_long.x, Cond.initialized "java/lang/Math", Cond.code Lib.MathLoose.abs_long.x Lib.MathLoose.abs_long.code 2 (some .long), Cond.methodLink RX3 80 yX3_common, Cond.static yX3_common, Cond.code yX3_common cX3_common 4 (some .long), Cond.methodLink RX3 131 yX3_store, Cond.instanceMethod yX3_store, Cond.selects RX3 yX3_store yX3_store, Cond.code yX3_store cX3_store 2 none, Cond.methodLink RX3 134 yX3_act, Cond.instanceMethod yX3_act, Cond.selects RX3 yX3_act yX3_act]
def wsX3_fits_r4 : List Cond := [Cond.code yX3_act cX3_act 8 none, Cond.fieldLink RX3 22 "SwingCircuitsModel" "links" "[I", Cond.methodLink RX3 137 yX3_isSpent, Cond.instanceMethod yX3_isSpent, Cond.selects RX3 yX3_isSpent yX3_isSpent, Cond.code yX3_isSpent cX3_isSpent 2 (some .boolean), Cond.methodLink RX3 113 yX3_isOver, Cond.static yX3_isOver, Cond.code yX3_isOver cX3_isOver 4 (some .boolean), Cond.constantLong RX3 111 (1000000)]
def wsX3_fits : List Cond := .code yX3_fits cX3_fits 2 (some .int) :: ((wsX3_fits_r1 ++ (wsX3_fits_r2 ++ (wsX3_fits_r3 ++ wsX3_fits_r4))) ++ wsX30)
def wsJ9_abs_067f4 : List Cond := .code yJ9_abs_067f4 cJ9_abs_067f4 2 (some .long) :: ([])
def wsL_of_r1 : List Cond := [Cond.classLink RL 13 "java/util/NoSuchElementException", Cond.methodLink RL 7 yX2_of, Cond.instanceMethod yX2_of, Cond.selects RX2 yX2_of yX2_of, Cond.initialized RX2, Cond.code yX2_of cX2_of 3 (some .int), Cond.classLink RX2 148 "java/util/NoSuchElementException", Cond.initialized "java/util/NoSuchElementException", Cond.fieldLink RX2 19 "SwingCircuits" "now" "LSwingCircuits$Swing;", Cond.fieldLink RX2 155 "SwingCircuits$Swing" "num" "[J", Cond.fieldLink RX2 158 "SwingCircuits$Swing" "den" "[J", Cond.fieldLink RX2 161 "SwingCircuits$Swing" "filling" "[Z", Cond.fieldLink RX2 30 "SwingCircuits" "tops" "[I", Cond.fieldLink RX2 34 "SwingCircuits" "bottoms" "[I", Cond.methodLink RX2 94 yX2_isCell, Cond.instanceMethod yX2_isCell, Cond.selects RX2 yX2_isCell yX2_isCell, Cond.code yX2_isCell cX2_isCell 2 (some .boolean), Cond.fieldLink RX2 12 "SwingCircuits" "circuit" "LSwingCircuits$Circuit;", Cond.fieldLink RX2 76 "SwingCircuits$Circuit" "cells" "I", Cond.methodLink RX2 165 yX2_beatTerm, Cond.instanceMethod yX2_beatTerm, Cond.selects RX2 yX2_beatTerm yX2_beatTerm, Cond.code yX2_beatTerm cX2_beatTerm 7 (some .int)]
def wsL_of_r2 : List Cond := [Cond.fieldLink RX2 85 "SwingCircuits$Circuit" "rise" "[I", Cond.fieldLink RX2 88 "SwingCircuits$Circuit" "fall" "[I", Cond.methodLink RX2 260 yX0_span, Cond.instanceMethod yX0_span, Cond.selects RX0 yX0_span yX0_span, Cond.initialized RX0, Cond.code yX0_span cX0_span 2 (some .int), Cond.fieldLink RX0 19 "SwingCircuits$Circuit" "high" "[I", Cond.fieldLink RX0 15 "SwingCircuits$Circuit" "low" "[I", Cond.methodLink RX2 257 yX2_commonOf, Cond.static yX2_commonOf, Cond.code yX2_commonOf cX2_commonOf 11 (some .long)]
def wsL_of : List Cond := .codeWith yL_of cL_of 5 (some .int) [(0, 10, 13, 13)] :: ((wsL_of_r1 ++ wsL_of_r2) ++ wsX20 ++ wsX10 ++ wsX00 ++ wsNE)
def wsL_law0_r1 : List Cond := [Cond.classLink RL 8 RX2, Cond.instantiable RX2 17, Cond.initialized RX2, Cond.classLink RL 16 RX3, Cond.instantiable RX3 28, Cond.initialized RX3, Cond.arrayClass .long, Cond.methodLink RL 15 yX2_init, Cond.instanceMethod yX2_init, Cond.code yX2_init cX2_init 1 none, Cond.methodLink RX2 3 objectInit, Cond.instanceMethod objectInit, Cond.code objectInit ⟨#[0xb1]⟩ 1 none, Cond.classLink RX2 9 RX0, Cond.instantiable RX0 12, Cond.initialized RX0, Cond.fieldLink RX2 12 "SwingCircuits" "circuit" "LSwingCircuits$Circuit;", Cond.classLink RX2 16 RX1, Cond.instantiable RX1 10, Cond.initialized RX1, Cond.fieldLink RX2 19 "SwingCircuits" "now" "LSwingCircuits$Swing;", Cond.fieldLink RX2 23 "SwingCircuits" "trial" "LSwingCircuits$Swing;", Cond.fieldLink RX2 26 "SwingCircuits" "happened" "I", Cond.arrayClass .int]
def wsL_law0_r2 : List Cond := [Cond.fieldLink RX2 30 "SwingCircuits" "tops" "[I", Cond.fieldLink RX2 34 "SwingCircuits" "bottoms" "[I", Cond.fieldLink RX2 37 "SwingCircuits" "kept" "[J", Cond.fieldLink RX2 41 "SwingCircuits" "trail" "[J", Cond.fieldLink RX2 44 "SwingCircuits" "ringAnswers" "[J", Cond.fieldLink RX2 47 "SwingCircuits" "ringFound" "Z", Cond.fieldLink RX2 51 "SwingCircuits" "stock" "[I", Cond.fieldLink RX2 54 "SwingCircuits" "stocked" "I", Cond.fieldLink RX2 57 "SwingCircuits" "measuredNum" "[I", Cond.fieldLink RX2 60 "SwingCircuits" "measuredDen" "[I", Cond.fieldLink RX2 63 "SwingCircuits" "measures" "I", Cond.fieldLink RX2 66 "SwingCircuits" "waysFound" "[I", Cond.fieldLink RX2 69 "SwingCircuits" "faultsFound" "[I", Cond.instanceMethod yX0_init, Cond.code yX0_init cX0_init 1 none, Cond.methodLink RX0 3 objectInit, Cond.fieldLink RX0 9 "SwingCircuits$Circuit" "cells" "I", Cond.fieldLink RX0 15 "SwingCircuits$Circuit" "low" "[I", Cond.fieldLink RX0 19 "SwingCircuits$Circuit" "high" "[I", Cond.fieldLink RX0 22 "SwingCircuits$Circuit" "rise" "[I", Cond.fieldLink RX0 25 "SwingCircuits$Circuit" "fall" "[I", Cond.fieldLink RX0 28 "SwingCircuits$Circuit" "links" "I", Cond.fieldLink RX0 31 "SwingCircuits$Circuit" "from" "[I", Cond.fieldLink RX0 34 "SwingCircuits$Circuit" "at" "[I"]
def wsL_law0_r3 : List Cond := [Cond.fieldLink RX0 37 "SwingCircuits$Circuit" "nth" "[I", Cond.fieldLink RX0 40 "SwingCircuits$Circuit" "to" "[I", Cond.fieldLink RX0 43 "SwingCircuits$Circuit" "act" "[I", Cond.fieldLink RX0 46 "SwingCircuits$Circuit" "by" "[I", Cond.instanceMethod yX1_init, Cond.code yX1_init cX1_init 1 none, Cond.methodLink RX1 3 objectInit, Cond.fieldLink RX1 9 "SwingCircuits$Swing" "timeNum" "J", Cond.fieldLink RX1 15 "SwingCircuits$Swing" "timeDen" "J", Cond.fieldLink RX1 18 "SwingCircuits$Swing" "num" "[J", Cond.fieldLink RX1 22 "SwingCircuits$Swing" "den" "[J", Cond.arrayClass .boolean, Cond.fieldLink RX1 25 "SwingCircuits$Swing" "filling" "[Z", Cond.fieldLink RX1 29 "SwingCircuits$Swing" "counts" "[I", Cond.fieldLink RX1 33 "SwingCircuits$Swing" "turned" "I", Cond.fieldLink RX1 37 "SwingCircuits$Swing" "side" "I", Cond.fieldLink RX1 40 "SwingCircuits$Swing" "waitNum" "J", Cond.fieldLink RX1 43 "SwingCircuits$Swing" "waitDen" "J", Cond.methodLink RL 18 yX3_init, Cond.instanceMethod yX3_init, Cond.code yX3_init cX3_init 1 none, Cond.methodLink RX3 1 objectInit, Cond.fieldLink RX3 9 "SwingCircuitsModel" "low" "[I", Cond.fieldLink RX3 13 "SwingCircuitsModel" "high" "[I"]
def wsL_law0_r4 : List Cond := [Cond.fieldLink RX3 16 "SwingCircuitsModel" "rise" "[I", Cond.fieldLink RX3 19 "SwingCircuitsModel" "fall" "[I", Cond.fieldLink RX3 22 "SwingCircuitsModel" "links" "[I", Cond.fieldLink RX3 25 "SwingCircuitsModel" "now" "[J", Cond.fieldLink RX3 29 "SwingCircuitsModel" "before" "[J", Cond.fieldLink RX3 32 "SwingCircuitsModel" "aside" "[J", Cond.fieldLink RX3 35 "SwingCircuitsModel" "logCell" "[I", Cond.fieldLink RX3 38 "SwingCircuitsModel" "logAt" "[I", Cond.fieldLink RX3 41 "SwingCircuitsModel" "logNum" "[J", Cond.fieldLink RX3 44 "SwingCircuitsModel" "logDen" "[J", Cond.fieldLink RX3 47 "SwingCircuitsModel" "isLogged" "Z", Cond.fieldLink RX3 51 "SwingCircuitsModel" "states" "[J", Cond.fieldLink RX3 54 "SwingCircuitsModel" "ringed" "[J", Cond.fieldLink RX3 57 "SwingCircuitsModel" "drawer" "[I", Cond.fieldLink RX3 60 "SwingCircuitsModel" "measuredNum" "[J", Cond.fieldLink RX3 63 "SwingCircuitsModel" "measuredDen" "[J", Cond.methodLink RX3 66 yX3_resetAll, Cond.instanceMethod yX3_resetAll, Cond.selects RX3 yX3_resetAll yX3_resetAll, Cond.code yX3_resetAll cX3_resetAll 2 none, Cond.methodLink RL 19 yX2_cell, Cond.instanceMethod yX2_cell, Cond.selects RX2 yX2_cell yX2_cell, Cond.code yX2_cell cX2_cell 7 (some .int)]
def wsL_law0_r5 : List Cond := [Cond.fieldLink RX2 76 "SwingCircuits$Circuit" "cells" "I", Cond.fieldLink RX2 79 "SwingCircuits$Circuit" "low" "[I", Cond.fieldLink RX2 82 "SwingCircuits$Circuit" "high" "[I", Cond.fieldLink RX2 85 "SwingCircuits$Circuit" "rise" "[I", Cond.fieldLink RX2 88 "SwingCircuits$Circuit" "fall" "[I", Cond.methodLink RX2 72 yX2_isRate, Cond.static yX2_isRate, Cond.code yX2_isRate cX2_isRate 1 (some .boolean), Cond.methodLink RX2 91 yX2_startAgain, Cond.instanceMethod yX2_startAgain, Cond.selects RX2 yX2_startAgain yX2_startAgain, Cond.code yX2_startAgain cX2_startAgain 2 none, Cond.methodLink RX2 223 yX1_restart, Cond.instanceMethod yX1_restart, Cond.selects RX1 yX1_restart yX1_restart, Cond.code yX1_restart cX1_restart 3 none, Cond.fieldLink RX1 46 "SwingCircuits$Circuit" "low" "[I", Cond.methodLink RL 23 yX3_cell, Cond.instanceMethod yX3_cell, Cond.selects RX3 yX3_cell yX3_cell, Cond.code yX3_cell cX3_cell 5 (some .int), Cond.fieldLink RX3 69 "SwingCircuitsModel" "thrown" "I", Cond.fieldLink RX3 73 "SwingCircuitsModel" "cells" "I", Cond.methodLink RX3 76 yX3_in]
def wsL_law0_r6 : List Cond := [Cond.static yX3_in, Cond.code yX3_in cX3_in 3 (some .boolean), Cond.methodLink RL 24 yX2_link, Cond.instanceMethod yX2_link, Cond.selects RX2 yX2_link yX2_link, Cond.code yX2_link cX2_link 8 (some .int), Cond.fieldLink RX2 101 "SwingCircuits$Circuit" "links" "I", Cond.fieldLink RX2 104 "SwingCircuits$Circuit" "from" "[I", Cond.fieldLink RX2 107 "SwingCircuits$Circuit" "at" "[I", Cond.fieldLink RX2 110 "SwingCircuits$Circuit" "nth" "[I", Cond.fieldLink RX2 113 "SwingCircuits$Circuit" "to" "[I", Cond.fieldLink RX2 116 "SwingCircuits$Circuit" "act" "[I", Cond.fieldLink RX2 119 "SwingCircuits$Circuit" "by" "[I", Cond.methodLink RX2 94 yX2_isCell, Cond.instanceMethod yX2_isCell, Cond.selects RX2 yX2_isCell yX2_isCell, Cond.code yX2_isCell cX2_isCell 2 (some .boolean), Cond.methodLink RX2 97 yX2_isAct, Cond.static yX2_isAct, Cond.code yX2_isAct cX2_isAct 2 (some .boolean), Cond.methodLink RL 28 yX3_link, Cond.instanceMethod yX3_link, Cond.selects RX3 yX3_link yX3_link, Cond.code yX3_link cX3_link 9 (some .int)]
def wsL_law0_r7 : List Cond := [Cond.fieldLink RX3 101 "SwingCircuitsModel" "linkMany" "I", Cond.methodLink RX3 97 yX3_isCell, Cond.instanceMethod yX3_isCell, Cond.selects RX3 yX3_isCell yX3_isCell, Cond.code yX3_isCell cX3_isCell 2 (some .boolean), Cond.methodLink RL 29 yX2_clear, Cond.instanceMethod yX2_clear, Cond.selects RX2 yX2_clear yX2_clear, Cond.code yX2_clear cX2_clear 2 (some .int), Cond.methodLink RL 33 yX3_clear, Cond.instanceMethod yX3_clear, Cond.selects RX3 yX3_clear yX3_clear, Cond.code yX3_clear cX3_clear 2 (some .int), Cond.methodLink RL 34 yX2_reset, Cond.instanceMethod yX2_reset, Cond.selects RX2 yX2_reset yX2_reset, Cond.code yX2_reset cX2_reset 2 (some .int), Cond.methodLink RL 37 yX3_reset, Cond.instanceMethod yX3_reset, Cond.selects RX3 yX3_reset yX3_reset, Cond.code yX3_reset cX3_reset 2 (some .int), Cond.methodLink RL 38 yX2_set, Cond.instanceMethod yX2_set, Cond.selects RX2 yX2_set yX2_set]
def wsL_law0_r8 : List Cond := [Cond.code yX2_set cX2_set 6 (some .int), Cond.methodLink RX2 122 yX0_ratesOf, Cond.instanceMethod yX0_ratesOf, Cond.selects RX0 yX0_ratesOf yX0_ratesOf, Cond.code yX0_ratesOf cX0_ratesOf 2 (some (.array .int)), Cond.methodLink RL 42 yX3_set, Cond.instanceMethod yX3_set, Cond.selects RX3 yX3_set yX3_set, Cond.code yX3_set cX3_set 5 (some .int), Cond.methodLink RL 43 yX2_run, Cond.instanceMethod yX2_run, Cond.selects RX2 yX2_run yX2_run, Cond.code yX2_run cX2_run 4 (some .int), Cond.methodLink RX2 126 yX1_copyFrom, Cond.instanceMethod yX1_copyFrom, Cond.selects RX1 yX1_copyFrom yX1_copyFrom, Cond.code yX1_copyFrom cX1_copyFrom 3 none, Cond.methodLink RX2 130 yX1_advance, Cond.instanceMethod yX1_advance, Cond.selects RX1 yX1_advance yX1_advance, Cond.code yX1_advance cX1_advance 2 (some .boolean), Cond.fieldLink RX1 51 "SwingCircuits$Circuit" "cells" "I", Cond.methodLink RX1 54 yX1_chooseTurning, Cond.instanceMethod yX1_chooseTurning]
def wsL_law0_r9 : List Cond := [Cond.selects RX1 yX1_chooseTurning yX1_chooseTurning, Cond.code yX1_chooseTurning cX1_chooseTurning 7 none, Cond.fieldLink RX1 68 "SwingCircuits$Circuit" "high" "[I", Cond.fieldLink RX1 71 "SwingCircuits$Circuit" "rise" "[I", Cond.fieldLink RX1 74 "SwingCircuits$Circuit" "fall" "[I", Cond.methodLink RX1 58 yX1_letTimePass, Cond.instanceMethod yX1_letTimePass, Cond.selects RX1 yX1_letTimePass yX1_letTimePass, Cond.code yX1_letTimePass cX1_letTimePass 11 none, Cond.static yX2_commonOf, Cond.code yX2_commonOf cX2_commonOf 11 (some .long), Cond.methodLink RX1 61 yX1_passOn, Cond.instanceMethod yX1_passOn, Cond.selects RX1 yX1_passOn yX1_passOn, Cond.code yX1_passOn cX1_passOn 3 none, Cond.fieldLink RX1 81 "SwingCircuits$Circuit" "links" "I", Cond.fieldLink RX1 84 "SwingCircuits$Circuit" "from" "[I", Cond.fieldLink RX1 87 "SwingCircuits$Circuit" "at" "[I", Cond.fieldLink RX1 90 "SwingCircuits$Circuit" "nth" "[I", Cond.methodLink RX1 93 yX1_doAct, Cond.instanceMethod yX1_doAct, Cond.selects RX1 yX1_doAct yX1_doAct, Cond.code yX1_doAct cX1_doAct 4 none, Cond.fieldLink RX1 97 "SwingCircuits$Circuit" "to" "[I"]
def wsL_law0_r10 : List Cond := [Cond.fieldLink RX1 100 "SwingCircuits$Circuit" "act" "[I", Cond.fieldLink RX1 103 "SwingCircuits$Circuit" "by" "[I", Cond.methodLink RX1 106 yX1_keepBetweenBars, Cond.instanceMethod yX1_keepBetweenBars, Cond.selects RX1 yX1_keepBetweenBars yX1_keepBetweenBars, Cond.code yX1_keepBetweenBars cX1_keepBetweenBars 3 none, Cond.methodLink RX1 64 yX1_isSpent, Cond.instanceMethod yX1_isSpent, Cond.selects RX1 yX1_isSpent yX1_isSpent, Cond.code yX1_isSpent cX1_isSpent 3 (some .boolean), Cond.methodLink RX1 109 yX1_isTooLong, Cond.static yX1_isTooLong, Cond.code yX1_isTooLong cX1_isTooLong 4 (some .boolean), Cond.constantLong RX1 113 (1000000), Cond.constantLong RX1 115 (-1000000), Cond.methodLink RX2 134 yX2_noteEvent, Cond.instanceMethod yX2_noteEvent, Cond.selects RX2 yX2_noteEvent yX2_noteEvent, Cond.code yX2_noteEvent cX2_noteEvent 1 none, Cond.fieldLink RX2 231 "SwingCircuits$Swing" "side" "I", Cond.fieldLink RX2 234 "SwingCircuits$Swing" "turned" "I", Cond.methodLink RX2 227 yX1_packedEvent, Cond.instanceMethod yX1_packedEvent, Cond.selects RX1 yX1_packedEvent yX1_packedEvent]
def wsL_law0_r11 : List Cond := [Cond.code yX1_packedEvent cX1_packedEvent 1 (some .long), Cond.static yX2_packed, Cond.code yX2_packed cX2_packed 4 (some .long), Cond.methodLink RL 47 yX3_run, Cond.instanceMethod yX3_run, Cond.selects RX3 yX3_run yX3_run, Cond.code yX3_run cX3_run 3 (some .int), Cond.methodLink RX3 143 yX3_step, Cond.instanceMethod yX3_step, Cond.selects RX3 yX3_step yX3_step, Cond.code yX3_step cX3_step 12 (some .boolean), Cond.fieldLink RX3 90 "SwingCircuitsModel" "num" "J", Cond.fieldLink RX3 94 "SwingCircuitsModel" "den" "J", Cond.fieldLink RX3 125 "SwingCircuitsModel" "nextCell" "I", Cond.fieldLink RX3 128 "SwingCircuitsModel" "nextAt" "I", Cond.constantLong RX3 141 (500), Cond.methodLink RX3 117 yX3_copy, Cond.static yX3_copy, Cond.code yX3_copy cX3_copy 3 none, Cond.methodLink RX3 121 yX3_waitOf, Cond.instanceMethod yX3_waitOf, Cond.selects RX3 yX3_waitOf yX3_waitOf, Cond.code yX3_waitOf cX3_waitOf 6 none, Cond.methodLink RX3 104 yX3_isFilling]
def wsL_law0_r12 : List Cond := [Cond.instanceMethod yX3_isFilling, Cond.selects RX3 yX3_isFilling yX3_isFilling, Cond.code yX3_isFilling cX3_isFilling 2 (some .boolean), Cond.methodLink RX3 107 yX3_make, Cond.instanceMethod yX3_make, Cond.selects RX3 yX3_make yX3_make, Cond.code yX3_make cX3_make 7 none, Cond.methodLink RX3 84 Lib.MathLoose.abs_long.x, Cond.static Lib.MathLoose.abs_long.x, Cond.initialized "java/lang/Math", Cond.code Lib.MathLoose.abs_long.x Lib.MathLoose.abs_long.code 2 (some .long), Cond.methodLink RX3 80 yX3_common, Cond.static yX3_common, Cond.code yX3_common cX3_common 4 (some .long), Cond.methodLink RX3 131 yX3_store, Cond.instanceMethod yX3_store, Cond.selects RX3 yX3_store yX3_store, Cond.code yX3_store cX3_store 2 none, Cond.methodLink RX3 134 yX3_act, Cond.instanceMethod yX3_act, Cond.selects RX3 yX3_act yX3_act, Cond.code yX3_act cX3_act 8 none, Cond.methodLink RX3 137 yX3_isSpent, Cond.instanceMethod yX3_isSpent]
def wsL_law0_r13 : List Cond := [Cond.selects RX3 yX3_isSpent yX3_isSpent, Cond.code yX3_isSpent cX3_isSpent 2 (some .boolean), Cond.methodLink RX3 113 yX3_isOver, Cond.static yX3_isOver, Cond.code yX3_isOver cX3_isOver 4 (some .boolean), Cond.constantLong RX3 111 (1000000), Cond.methodLink RL 48 yX2_count, Cond.instanceMethod yX2_count, Cond.selects RX2 yX2_count yX2_count, Cond.code yX2_count cX2_count 2 (some .int), Cond.fieldLink RX2 137 "SwingCircuits$Swing" "timeNum" "J", Cond.fieldLink RX2 141 "SwingCircuits$Swing" "timeDen" "J", Cond.methodLink RX2 144 yX2_isNextSpent, Cond.instanceMethod yX2_isNextSpent, Cond.selects RX2 yX2_isNextSpent yX2_isNextSpent, Cond.code yX2_isNextSpent cX2_isNextSpent 1 (some .boolean), Cond.methodLink RL 51 yX3_count, Cond.instanceMethod yX3_count, Cond.selects RX3 yX3_count yX3_count, Cond.code yX3_count cX3_count 2 (some .int), Cond.fieldLink RX3 149 "SwingCircuitsModel" "drawn" "I", Cond.fieldLink RX3 152 "SwingCircuitsModel" "measured" "I", Cond.methodLink RX3 146 yX3_wouldBeSpent, Cond.instanceMethod yX3_wouldBeSpent]
def wsL_law0_r14 : List Cond := [Cond.selects RX3 yX3_wouldBeSpent yX3_wouldBeSpent, Cond.code yX3_wouldBeSpent cX3_wouldBeSpent 2 (some .boolean), Cond.methodLink RL 52 yL_of, Cond.static yL_of, Cond.initialized RL, Cond.codeWith yL_of cL_of 5 (some .int) [(0, 10, 13, 13)], Cond.classLink RL 13 "java/util/NoSuchElementException", Cond.methodLink RL 7 yX2_of, Cond.instanceMethod yX2_of, Cond.selects RX2 yX2_of yX2_of, Cond.code yX2_of cX2_of 3 (some .int), Cond.classLink RX2 148 "java/util/NoSuchElementException", Cond.initialized "java/util/NoSuchElementException", Cond.fieldLink RX2 155 "SwingCircuits$Swing" "num" "[J", Cond.fieldLink RX2 158 "SwingCircuits$Swing" "den" "[J", Cond.fieldLink RX2 161 "SwingCircuits$Swing" "filling" "[Z", Cond.methodLink RX2 165 yX2_beatTerm, Cond.instanceMethod yX2_beatTerm, Cond.selects RX2 yX2_beatTerm yX2_beatTerm, Cond.code yX2_beatTerm cX2_beatTerm 7 (some .int), Cond.methodLink RX2 260 yX0_span, Cond.instanceMethod yX0_span, Cond.selects RX0 yX0_span yX0_span, Cond.code yX0_span cX0_span 2 (some .int)]
def wsL_law0_r15 : List Cond := [Cond.methodLink RX2 257 yX2_commonOf, Cond.methodLink RL 57 yX3_of, Cond.instanceMethod yX3_of, Cond.selects RX3 yX3_of yX3_of, Cond.code yX3_of cX3_of 3 (some .int), Cond.methodLink RX3 155 yX3_beat, Cond.instanceMethod yX3_beat, Cond.selects RX3 yX3_beat yX3_beat, Cond.code yX3_beat cX3_beat 4 none, Cond.methodLink RL 58 yX3_thrown, Cond.instanceMethod yX3_thrown, Cond.selects RX3 yX3_thrown yX3_thrown, Cond.code yX3_thrown cX3_thrown 1 (some .int), Cond.methodLink RL 61 yX2_counted, Cond.instanceMethod yX2_counted, Cond.selects RX2 yX2_counted yX2_counted, Cond.code yX2_counted cX2_counted 2 (some .int), Cond.fieldLink RX2 171 "SwingCircuits$Swing" "counts" "[I", Cond.methodLink RL 64 yX3_counted, Cond.instanceMethod yX3_counted, Cond.selects RX3 yX3_counted yX3_counted, Cond.code yX3_counted cX3_counted 2 (some .int), Cond.methodLink RL 65 yX2_event, Cond.instanceMethod yX2_event]
def wsL_law0_r16 : List Cond := [Cond.selects RX2 yX2_event yX2_event, Cond.code yX2_event cX2_event 3 (some .int), Cond.methodLink RX2 174 yX2_turnedIn, Cond.static yX2_turnedIn, Cond.code yX2_turnedIn cX2_turnedIn 2 (some .int), Cond.methodLink RX2 178 yX2_sideIn, Cond.static yX2_sideIn, Cond.code yX2_sideIn cX2_sideIn 2 (some .int), Cond.methodLink RX2 181 yX2_timeNumIn, Cond.static yX2_timeNumIn, Cond.code yX2_timeNumIn cX2_timeNumIn 2 (some .long), Cond.methodLink RX2 185 yX2_timeDenIn, Cond.static yX2_timeDenIn, Cond.code yX2_timeDenIn cX2_timeDenIn 2 (some .long), Cond.constantLong RX2 267 (1048575), Cond.methodLink RL 68 yX3_event, Cond.instanceMethod yX3_event, Cond.selects RX3 yX3_event yX3_event, Cond.code yX3_event cX3_event 3 (some .int), Cond.methodLink RL 69 yX2_ring, Cond.instanceMethod yX2_ring, Cond.selects RX2 yX2_ring yX2_ring, Cond.code yX2_ring cX2_ring 4 (some .int), Cond.methodLink RX2 188 yX2_writeTrail]
def wsL_law0_r17 : List Cond := [Cond.instanceMethod yX2_writeTrail, Cond.selects RX2 yX2_writeTrail yX2_writeTrail, Cond.code yX2_writeTrail cX2_writeTrail 4 none, Cond.methodLink RX2 237 yX2_packed, Cond.methodLink RX2 241 yX1_packedMarks, Cond.instanceMethod yX1_packedMarks, Cond.selects RX1 yX1_packedMarks yX1_packedMarks, Cond.code yX1_packedMarks cX1_packedMarks 4 (some .long), Cond.constantLong RX1 120 (2), Cond.methodLink RX2 192 yX2_sameAhead, Cond.instanceMethod yX2_sameAhead, Cond.selects RX2 yX2_sameAhead yX2_sameAhead, Cond.code yX2_sameAhead cX2_sameAhead 3 (some .int), Cond.methodLink RX2 244 yX2_isSameState, Cond.instanceMethod yX2_isSameState, Cond.selects RX2 yX2_isSameState yX2_isSameState, Cond.code yX2_isSameState cX2_isSameState 4 (some .boolean), Cond.methodLink RX2 196 yX2_keepRing, Cond.instanceMethod yX2_keepRing, Cond.selects RX2 yX2_keepRing yX2_keepRing, Cond.code yX2_keepRing cX2_keepRing 10 none, Cond.methodLink RX2 247 yX2_eventInRow, Cond.instanceMethod yX2_eventInRow, Cond.selects RX2 yX2_eventInRow yX2_eventInRow]
def wsL_law0_r18 : List Cond := [Cond.code yX2_eventInRow cX2_eventInRow 2 (some .long), Cond.methodLink RX2 251 yX2_betweenNum, Cond.static yX2_betweenNum, Cond.code yX2_betweenNum cX2_betweenNum 4 (some .long), Cond.methodLink RX2 254 yX2_betweenDen, Cond.static yX2_betweenDen, Cond.code yX2_betweenDen cX2_betweenDen 4 (some .long), Cond.methodLink RL 72 yX3_ring, Cond.instanceMethod yX3_ring, Cond.selects RX3 yX3_ring yX3_ring, Cond.code yX3_ring cX3_ring 3 (some .int), Cond.methodLink RX3 173 yX3_seek, Cond.instanceMethod yX3_seek, Cond.selects RX3 yX3_seek yX3_seek, Cond.code yX3_seek cX3_seek 4 (some .int), Cond.methodLink RX3 159 yX3_keep, Cond.instanceMethod yX3_keep, Cond.selects RX3 yX3_keep yX3_keep, Cond.code yX3_keep cX3_keep 3 none, Cond.methodLink RX3 162 yX3_areAlike, Cond.instanceMethod yX3_areAlike, Cond.selects RX3 yX3_areAlike yX3_areAlike, Cond.code yX3_areAlike cX3_areAlike 4 (some .boolean), Cond.methodLink RX3 166 yX3_tell]
def wsL_law0_r19 : List Cond := [Cond.instanceMethod yX3_tell, Cond.selects RX3 yX3_tell yX3_tell, Cond.code yX3_tell cX3_tell 6 none, Cond.fieldLink RX3 170 "SwingCircuitsModel" "wasRing" "Z", Cond.methodLink RL 73 yX2_ringed, Cond.instanceMethod yX2_ringed, Cond.selects RX2 yX2_ringed yX2_ringed, Cond.code yX2_ringed cX2_ringed 2 (some .long), Cond.constantLong RX2 200 (-1), Cond.methodLink RL 77 yX3_ringed, Cond.instanceMethod yX3_ringed, Cond.selects RX3 yX3_ringed yX3_ringed, Cond.code yX3_ringed cX3_ringed 2 (some .long), Cond.constantLong RX3 177 (-1), Cond.methodLink RL 78 yX2_drawer, Cond.instanceMethod yX2_drawer, Cond.selects RX2 yX2_drawer yX2_drawer, Cond.code yX2_drawer cX2_drawer 2 (some .int), Cond.methodLink RX2 202 yX2_isStocked, Cond.instanceMethod yX2_isStocked, Cond.selects RX2 yX2_isStocked yX2_isStocked, Cond.code yX2_isStocked cX2_isStocked 3 (some .boolean), Cond.methodLink RL 81 yX3_drawer, Cond.instanceMethod yX3_drawer]
def wsL_law0_r20 : List Cond := [Cond.selects RX3 yX3_drawer yX3_drawer, Cond.code yX3_drawer cX3_drawer 3 (some .int), Cond.methodLink RL 82 yX2_parts, Cond.instanceMethod yX2_parts, Cond.selects RX2 yX2_parts yX2_parts, Cond.code yX2_parts cX2_parts 4 (some .int), Cond.methodLink RX2 205 yX2_isTerm, Cond.static yX2_isTerm, Cond.code yX2_isTerm cX2_isTerm 1 (some .boolean), Cond.constant RX2 222 (1000000), Cond.methodLink RX2 208 yX2_findWays, Cond.instanceMethod yX2_findWays, Cond.selects RX2 yX2_findWays yX2_findWays, Cond.code yX2_findWays cX2_findWays 11 (some .int), Cond.methodLink RL 85 yX3_parts, Cond.instanceMethod yX3_parts, Cond.selects RX3 yX3_parts yX3_parts, Cond.code yX3_parts cX3_parts 4 (some .int), Cond.methodLink RX3 180 yX3_isFraction, Cond.static yX3_isFraction, Cond.code yX3_isFraction cX3_isFraction 2 (some .boolean), Cond.constant RX3 179 (1000000), Cond.methodLink RX3 183 yX3_ways, Cond.instanceMethod yX3_ways]
def wsL_law0_r21 : List Cond := [Cond.selects RX3 yX3_ways yX3_ways, Cond.code yX3_ways cX3_ways 8 (some .int), Cond.methodLink RL 86 yX2_part, Cond.instanceMethod yX2_part, Cond.selects RX2 yX2_part yX2_part, Cond.code yX2_part cX2_part 6 (some .int), Cond.methodLink RX2 212 yX2_parts, Cond.methodLink RL 89 yX3_part, Cond.instanceMethod yX3_part, Cond.selects RX3 yX3_part yX3_part, Cond.code yX3_part cX3_part 5 (some .int), Cond.methodLink RL 90 yX2_measure, Cond.instanceMethod yX2_measure, Cond.selects RX2 yX2_measure yX2_measure, Cond.code yX2_measure cX2_measure 3 (some .int), Cond.methodLink RL 93 yX3_measure, Cond.instanceMethod yX3_measure, Cond.selects RX3 yX3_measure yX3_measure, Cond.code yX3_measure cX3_measure 3 (some .int), Cond.methodLink RL 94 yX2_forget, Cond.instanceMethod yX2_forget, Cond.selects RX2 yX2_forget yX2_forget, Cond.code yX2_forget cX2_forget 2 (some .int), Cond.methodLink RL 97 yX3_forget]
def wsL_law0_r22 : List Cond := [Cond.instanceMethod yX3_forget, Cond.selects RX3 yX3_forget yX3_forget, Cond.code yX3_forget cX3_forget 2 (some .int), Cond.methodLink RL 98 yX2_faults, Cond.instanceMethod yX2_faults, Cond.selects RX2 yX2_faults yX2_faults, Cond.code yX2_faults cX2_faults 2 (some .int), Cond.methodLink RX2 216 yX2_findFaults, Cond.instanceMethod yX2_findFaults, Cond.selects RX2 yX2_findFaults yX2_findFaults, Cond.code yX2_findFaults cX2_findFaults 8 (some .int), Cond.methodLink RX2 219 yX2_isMeasuredSo, Cond.instanceMethod yX2_isMeasuredSo, Cond.selects RX2 yX2_isMeasuredSo yX2_isMeasuredSo, Cond.code yX2_isMeasuredSo cX2_isMeasuredSo 8 (some .boolean), Cond.methodLink RX2 263 yX2_isMeasure, Cond.instanceMethod yX2_isMeasure, Cond.selects RX2 yX2_isMeasure yX2_isMeasure, Cond.code yX2_isMeasure cX2_isMeasure 6 (some .boolean), Cond.methodLink RL 101 yX3_faults, Cond.instanceMethod yX3_faults, Cond.selects RX3 yX3_faults yX3_faults, Cond.code yX3_faults cX3_faults 2 (some .int), Cond.methodLink RX3 194 yX3_explaining]
def wsL_law0_r23 : List Cond := [Cond.instanceMethod yX3_explaining, Cond.selects RX3 yX3_explaining yX3_explaining, Cond.code yX3_explaining cX3_explaining 7 (some .int), Cond.methodLink RX3 190 yX3_explains, Cond.instanceMethod yX3_explains, Cond.selects RX3 yX3_explains yX3_explains, Cond.code yX3_explains cX3_explains 7 (some .boolean), Cond.methodLink RX3 187 yX3_isSo, Cond.instanceMethod yX3_isSo, Cond.selects RX3 yX3_isSo yX3_isSo, Cond.code yX3_isSo cX3_isSo 9 (some .boolean), Cond.methodLink RL 102 yX2_fault, Cond.instanceMethod yX2_fault, Cond.selects RX2 yX2_fault yX2_fault, Cond.code yX2_fault cX2_fault 4 (some .int), Cond.methodLink RL 105 yX3_fault, Cond.instanceMethod yX3_fault, Cond.selects RX3 yX3_fault yX3_fault, Cond.code yX3_fault cX3_fault 3 (some .int), Cond.methodLink RL 106 yX2_fits, Cond.instanceMethod yX2_fits, Cond.selects RX2 yX2_fits yX2_fits, Cond.code yX2_fits cX2_fits 2 (some .int), Cond.methodLink RL 109 yX3_fits]
def wsL_law0_r24 : List Cond := [Cond.instanceMethod yX3_fits, Cond.selects RX3 yX3_fits yX3_fits, Cond.code yX3_fits cX3_fits 2 (some .int)]
def wsL_law0 : List Cond := (wsL_law0_r1 ++ (wsL_law0_r2 ++ (wsL_law0_r3 ++ (wsL_law0_r4 ++ (wsL_law0_r5 ++ (wsL_law0_r6 ++ (wsL_law0_r7 ++ (wsL_law0_r8 ++ (wsL_law0_r9 ++ (wsL_law0_r10 ++ (wsL_law0_r11 ++ (wsL_law0_r12 ++ (wsL_law0_r13 ++ (wsL_law0_r14 ++ (wsL_law0_r15 ++ (wsL_law0_r16 ++ (wsL_law0_r17 ++ (wsL_law0_r18 ++ (wsL_law0_r19 ++ (wsL_law0_r20 ++ (wsL_law0_r21 ++ (wsL_law0_r22 ++ (wsL_law0_r23 ++ wsL_law0_r24))))))))))))))))))))))) ++ wsX20 ++ wsX30 ++ wsX00 ++ wsX10 ++ ([] : List Cond)
def wsL_law : List Cond := wsL_law0 ++ wsNE
theorem own_at {big ws : List Cond} (ps : List Nat) (hp : ws = ps.filterMap (fun i => big[i]?)) : ∀ w ∈ ws, w ∈ big := by
  intro w hw
  rw [hp] at hw
  obtain ⟨i, -, hi⟩ := List.mem_filterMap.mp hw
  exact List.mem_of_getElem? hi
theorem wsL_law0_r1_p0_in : ∀ w ∈ ([Cond.classLink RL 8 RX2, Cond.instantiable RX2 17, Cond.initialized RX2, Cond.classLink RL 16 RX3, Cond.instantiable RX3 28, Cond.initialized RX3, Cond.arrayClass .long, Cond.methodLink RL 15 yX2_init, Cond.instanceMethod yX2_init, Cond.code yX2_init cX2_init 1 none, Cond.methodLink RX2 3 objectInit, Cond.instanceMethod objectInit] : List Cond), w ∈ lw_tbl := own_at [51, 52, 42, 534, 535, 45, 172, 53, 54, 55, 56, 57] (by decide +kernel)
theorem wsL_law0_r1_p1_in : ∀ w ∈ ([Cond.code objectInit ⟨#[0xb1]⟩ 1 none, Cond.classLink RX2 9 RX0, Cond.instantiable RX0 12, Cond.initialized RX0, Cond.fieldLink RX2 12 "SwingCircuits" "circuit" "LSwingCircuits$Circuit;", Cond.classLink RX2 16 RX1, Cond.instantiable RX1 10, Cond.initialized RX1, Cond.fieldLink RX2 19 "SwingCircuits" "now" "LSwingCircuits$Swing;", Cond.fieldLink RX2 23 "SwingCircuits" "trial" "LSwingCircuits$Swing;", Cond.fieldLink RX2 26 "SwingCircuits" "happened" "I", Cond.arrayClass .int] : List Cond), w ∈ lw_tbl := own_at [58, 59, 60, 43, 174, 127, 128, 44, 175, 176, 177, 126] (by decide +kernel)
theorem wsL_law0_r1_in : ∀ w ∈ wsL_law0_r1, w ∈ lw_tbl := (List.forall_mem_append.mpr ⟨wsL_law0_r1_p0_in, wsL_law0_r1_p1_in⟩)
theorem wsL_law0_r2_p0_in : ∀ w ∈ ([Cond.fieldLink RX2 30 "SwingCircuits" "tops" "[I", Cond.fieldLink RX2 34 "SwingCircuits" "bottoms" "[I", Cond.fieldLink RX2 37 "SwingCircuits" "kept" "[J", Cond.fieldLink RX2 41 "SwingCircuits" "trail" "[J", Cond.fieldLink RX2 44 "SwingCircuits" "ringAnswers" "[J", Cond.fieldLink RX2 47 "SwingCircuits" "ringFound" "Z", Cond.fieldLink RX2 51 "SwingCircuits" "stock" "[I", Cond.fieldLink RX2 54 "SwingCircuits" "stocked" "I", Cond.fieldLink RX2 57 "SwingCircuits" "measuredNum" "[I", Cond.fieldLink RX2 60 "SwingCircuits" "measuredDen" "[I", Cond.fieldLink RX2 63 "SwingCircuits" "measures" "I", Cond.fieldLink RX2 66 "SwingCircuits" "waysFound" "[I"] : List Cond), w ∈ lw_tbl := own_at [178, 179, 180, 181, 182, 183, 184, 185, 186, 187, 188, 189] (by decide +kernel)
theorem wsL_law0_r2_p1_in : ∀ w ∈ ([Cond.fieldLink RX2 69 "SwingCircuits" "faultsFound" "[I", Cond.instanceMethod yX0_init, Cond.code yX0_init cX0_init 1 none, Cond.methodLink RX0 3 objectInit, Cond.fieldLink RX0 9 "SwingCircuits$Circuit" "cells" "I", Cond.fieldLink RX0 15 "SwingCircuits$Circuit" "low" "[I", Cond.fieldLink RX0 19 "SwingCircuits$Circuit" "high" "[I", Cond.fieldLink RX0 22 "SwingCircuits$Circuit" "rise" "[I", Cond.fieldLink RX0 25 "SwingCircuits$Circuit" "fall" "[I", Cond.fieldLink RX0 28 "SwingCircuits$Circuit" "links" "I", Cond.fieldLink RX0 31 "SwingCircuits$Circuit" "from" "[I", Cond.fieldLink RX0 34 "SwingCircuits$Circuit" "at" "[I"] : List Cond), w ∈ lw_tbl := own_at [190, 62, 63, 64, 65, 68, 71, 74, 77, 80, 83, 86] (by decide +kernel)
theorem wsL_law0_r2_in : ∀ w ∈ wsL_law0_r2, w ∈ lw_tbl := (List.forall_mem_append.mpr ⟨wsL_law0_r2_p0_in, wsL_law0_r2_p1_in⟩)
theorem wsL_law0_r3_p0_in : ∀ w ∈ ([Cond.fieldLink RX0 37 "SwingCircuits$Circuit" "nth" "[I", Cond.fieldLink RX0 40 "SwingCircuits$Circuit" "to" "[I", Cond.fieldLink RX0 43 "SwingCircuits$Circuit" "act" "[I", Cond.fieldLink RX0 46 "SwingCircuits$Circuit" "by" "[I", Cond.instanceMethod yX1_init, Cond.code yX1_init cX1_init 1 none, Cond.methodLink RX1 3 objectInit, Cond.fieldLink RX1 9 "SwingCircuits$Swing" "timeNum" "J", Cond.fieldLink RX1 15 "SwingCircuits$Swing" "timeDen" "J", Cond.fieldLink RX1 18 "SwingCircuits$Swing" "num" "[J", Cond.fieldLink RX1 22 "SwingCircuits$Swing" "den" "[J", Cond.arrayClass .boolean] : List Cond), w ∈ lw_tbl := own_at [89, 92, 95, 98, 130, 131, 132, 133, 135, 137, 139, 173] (by decide +kernel)
theorem wsL_law0_r3_p1_in : ∀ w ∈ ([Cond.fieldLink RX1 25 "SwingCircuits$Swing" "filling" "[Z", Cond.fieldLink RX1 29 "SwingCircuits$Swing" "counts" "[I", Cond.fieldLink RX1 33 "SwingCircuits$Swing" "turned" "I", Cond.fieldLink RX1 37 "SwingCircuits$Swing" "side" "I", Cond.fieldLink RX1 40 "SwingCircuits$Swing" "waitNum" "J", Cond.fieldLink RX1 43 "SwingCircuits$Swing" "waitDen" "J", Cond.methodLink RL 18 yX3_init, Cond.instanceMethod yX3_init, Cond.code yX3_init cX3_init 1 none, Cond.methodLink RX3 1 objectInit, Cond.fieldLink RX3 9 "SwingCircuitsModel" "low" "[I", Cond.fieldLink RX3 13 "SwingCircuitsModel" "high" "[I"] : List Cond), w ∈ lw_tbl := own_at [141, 143, 145, 147, 149, 150, 536, 537, 538, 539, 544, 545] (by decide +kernel)
theorem wsL_law0_r3_in : ∀ w ∈ wsL_law0_r3, w ∈ lw_tbl := (List.forall_mem_append.mpr ⟨wsL_law0_r3_p0_in, wsL_law0_r3_p1_in⟩)
theorem wsL_law0_r4_p0_in : ∀ w ∈ ([Cond.fieldLink RX3 16 "SwingCircuitsModel" "rise" "[I", Cond.fieldLink RX3 19 "SwingCircuitsModel" "fall" "[I", Cond.fieldLink RX3 22 "SwingCircuitsModel" "links" "[I", Cond.fieldLink RX3 25 "SwingCircuitsModel" "now" "[J", Cond.fieldLink RX3 29 "SwingCircuitsModel" "before" "[J", Cond.fieldLink RX3 32 "SwingCircuitsModel" "aside" "[J", Cond.fieldLink RX3 35 "SwingCircuitsModel" "logCell" "[I", Cond.fieldLink RX3 38 "SwingCircuitsModel" "logAt" "[I", Cond.fieldLink RX3 41 "SwingCircuitsModel" "logNum" "[J", Cond.fieldLink RX3 44 "SwingCircuitsModel" "logDen" "[J", Cond.fieldLink RX3 47 "SwingCircuitsModel" "isLogged" "Z", Cond.fieldLink RX3 51 "SwingCircuitsModel" "states" "[J"] : List Cond), w ∈ lw_tbl := own_at [546, 547, 549, 551, 552, 553, 554, 555, 556, 557, 558, 559] (by decide +kernel)
theorem wsL_law0_r4_p1_in : ∀ w ∈ ([Cond.fieldLink RX3 54 "SwingCircuitsModel" "ringed" "[J", Cond.fieldLink RX3 57 "SwingCircuitsModel" "drawer" "[I", Cond.fieldLink RX3 60 "SwingCircuitsModel" "measuredNum" "[J", Cond.fieldLink RX3 63 "SwingCircuitsModel" "measuredDen" "[J", Cond.methodLink RX3 66 yX3_resetAll, Cond.instanceMethod yX3_resetAll, Cond.selects RX3 yX3_resetAll yX3_resetAll, Cond.code yX3_resetAll cX3_resetAll 2 none, Cond.methodLink RL 19 yX2_cell, Cond.instanceMethod yX2_cell, Cond.selects RX2 yX2_cell yX2_cell, Cond.code yX2_cell cX2_cell 7 (some .int)] : List Cond), w ∈ lw_tbl := own_at [561, 562, 564, 565, 540, 542, 22, 543, 226, 227, 228, 229] (by decide +kernel)
theorem wsL_law0_r4_in : ∀ w ∈ wsL_law0_r4, w ∈ lw_tbl := (List.forall_mem_append.mpr ⟨wsL_law0_r4_p0_in, wsL_law0_r4_p1_in⟩)
theorem wsL_law0_r5_p0_in : ∀ w ∈ ([Cond.fieldLink RX2 76 "SwingCircuits$Circuit" "cells" "I", Cond.fieldLink RX2 79 "SwingCircuits$Circuit" "low" "[I", Cond.fieldLink RX2 82 "SwingCircuits$Circuit" "high" "[I", Cond.fieldLink RX2 85 "SwingCircuits$Circuit" "rise" "[I", Cond.fieldLink RX2 88 "SwingCircuits$Circuit" "fall" "[I", Cond.methodLink RX2 72 yX2_isRate, Cond.static yX2_isRate, Cond.code yX2_isRate cX2_isRate 1 (some .boolean), Cond.methodLink RX2 91 yX2_startAgain, Cond.instanceMethod yX2_startAgain, Cond.selects RX2 yX2_startAgain yX2_startAgain, Cond.code yX2_startAgain cX2_startAgain 2 none] : List Cond), w ∈ lw_tbl := own_at [66, 70, 72, 75, 78, 230, 231, 232, 233, 235, 0, 236] (by decide +kernel)
theorem wsL_law0_r5_p1_in : ∀ w ∈ ([Cond.methodLink RX2 223 yX1_restart, Cond.instanceMethod yX1_restart, Cond.selects RX1 yX1_restart yX1_restart, Cond.code yX1_restart cX1_restart 3 none, Cond.fieldLink RX1 46 "SwingCircuits$Circuit" "low" "[I", Cond.methodLink RL 23 yX3_cell, Cond.instanceMethod yX3_cell, Cond.selects RX3 yX3_cell yX3_cell, Cond.code yX3_cell cX3_cell 5 (some .int), Cond.fieldLink RX3 69 "SwingCircuitsModel" "thrown" "I", Cond.fieldLink RX3 73 "SwingCircuitsModel" "cells" "I", Cond.methodLink RX3 76 yX3_in] : List Cond), w ∈ lw_tbl := own_at [237, 238, 239, 240, 69, 633, 634, 635, 636, 567, 548, 637] (by decide +kernel)
theorem wsL_law0_r5_in : ∀ w ∈ wsL_law0_r5, w ∈ lw_tbl := (List.forall_mem_append.mpr ⟨wsL_law0_r5_p0_in, wsL_law0_r5_p1_in⟩)
theorem wsL_law0_r6_p0_in : ∀ w ∈ ([Cond.static yX3_in, Cond.code yX3_in cX3_in 3 (some .boolean), Cond.methodLink RL 24 yX2_link, Cond.instanceMethod yX2_link, Cond.selects RX2 yX2_link yX2_link, Cond.code yX2_link cX2_link 8 (some .int), Cond.fieldLink RX2 101 "SwingCircuits$Circuit" "links" "I", Cond.fieldLink RX2 104 "SwingCircuits$Circuit" "from" "[I", Cond.fieldLink RX2 107 "SwingCircuits$Circuit" "at" "[I", Cond.fieldLink RX2 110 "SwingCircuits$Circuit" "nth" "[I", Cond.fieldLink RX2 113 "SwingCircuits$Circuit" "to" "[I", Cond.fieldLink RX2 116 "SwingCircuits$Circuit" "act" "[I"] : List Cond), w ∈ lw_tbl := own_at [638, 639, 241, 242, 243, 244, 81, 84, 87, 90, 93, 96] (by decide +kernel)
theorem wsL_law0_r6_p1_in : ∀ w ∈ ([Cond.fieldLink RX2 119 "SwingCircuits$Circuit" "by" "[I", Cond.methodLink RX2 94 yX2_isCell, Cond.instanceMethod yX2_isCell, Cond.selects RX2 yX2_isCell yX2_isCell, Cond.code yX2_isCell cX2_isCell 2 (some .boolean), Cond.methodLink RX2 97 yX2_isAct, Cond.static yX2_isAct, Cond.code yX2_isAct cX2_isAct 2 (some .boolean), Cond.methodLink RL 28 yX3_link, Cond.instanceMethod yX3_link, Cond.selects RX3 yX3_link yX3_link, Cond.code yX3_link cX3_link 9 (some .int)] : List Cond), w ∈ lw_tbl := own_at [99, 245, 247, 1, 248, 249, 250, 251, 640, 641, 642, 643] (by decide +kernel)
theorem wsL_law0_r6_in : ∀ w ∈ wsL_law0_r6, w ∈ lw_tbl := (List.forall_mem_append.mpr ⟨wsL_law0_r6_p0_in, wsL_law0_r6_p1_in⟩)
theorem wsL_law0_r7_p0_in : ∀ w ∈ ([Cond.fieldLink RX3 101 "SwingCircuitsModel" "linkMany" "I", Cond.methodLink RX3 97 yX3_isCell, Cond.instanceMethod yX3_isCell, Cond.selects RX3 yX3_isCell yX3_isCell, Cond.code yX3_isCell cX3_isCell 2 (some .boolean), Cond.methodLink RL 29 yX2_clear, Cond.instanceMethod yX2_clear, Cond.selects RX2 yX2_clear yX2_clear, Cond.code yX2_clear cX2_clear 2 (some .int), Cond.methodLink RL 33 yX3_clear, Cond.instanceMethod yX3_clear, Cond.selects RX3 yX3_clear yX3_clear] : List Cond), w ∈ lw_tbl := own_at [550, 644, 646, 23, 647, 252, 253, 254, 255, 648, 649, 650] (by decide +kernel)
theorem wsL_law0_r7_p1_in : ∀ w ∈ ([Cond.code yX3_clear cX3_clear 2 (some .int), Cond.methodLink RL 34 yX2_reset, Cond.instanceMethod yX2_reset, Cond.selects RX2 yX2_reset yX2_reset, Cond.code yX2_reset cX2_reset 2 (some .int), Cond.methodLink RL 37 yX3_reset, Cond.instanceMethod yX3_reset, Cond.selects RX3 yX3_reset yX3_reset, Cond.code yX3_reset cX3_reset 2 (some .int), Cond.methodLink RL 38 yX2_set, Cond.instanceMethod yX2_set, Cond.selects RX2 yX2_set yX2_set] : List Cond), w ∈ lw_tbl := own_at [651, 256, 257, 258, 259, 652, 653, 654, 655, 260, 261, 262] (by decide +kernel)
theorem wsL_law0_r7_in : ∀ w ∈ wsL_law0_r7, w ∈ lw_tbl := (List.forall_mem_append.mpr ⟨wsL_law0_r7_p0_in, wsL_law0_r7_p1_in⟩)
theorem wsL_law0_r8_p0_in : ∀ w ∈ ([Cond.code yX2_set cX2_set 6 (some .int), Cond.methodLink RX2 122 yX0_ratesOf, Cond.instanceMethod yX0_ratesOf, Cond.selects RX0 yX0_ratesOf yX0_ratesOf, Cond.code yX0_ratesOf cX0_ratesOf 2 (some (.array .int)), Cond.methodLink RL 42 yX3_set, Cond.instanceMethod yX3_set, Cond.selects RX3 yX3_set yX3_set, Cond.code yX3_set cX3_set 5 (some .int), Cond.methodLink RL 43 yX2_run, Cond.instanceMethod yX2_run, Cond.selects RX2 yX2_run yX2_run] : List Cond), w ∈ lw_tbl := own_at [263, 264, 265, 266, 267, 656, 657, 658, 659, 268, 269, 270] (by decide +kernel)
theorem wsL_law0_r8_p1_in : ∀ w ∈ ([Cond.code yX2_run cX2_run 4 (some .int), Cond.methodLink RX2 126 yX1_copyFrom, Cond.instanceMethod yX1_copyFrom, Cond.selects RX1 yX1_copyFrom yX1_copyFrom, Cond.code yX1_copyFrom cX1_copyFrom 3 none, Cond.methodLink RX2 130 yX1_advance, Cond.instanceMethod yX1_advance, Cond.selects RX1 yX1_advance yX1_advance, Cond.code yX1_advance cX1_advance 2 (some .boolean), Cond.fieldLink RX1 51 "SwingCircuits$Circuit" "cells" "I", Cond.methodLink RX1 54 yX1_chooseTurning, Cond.instanceMethod yX1_chooseTurning] : List Cond), w ∈ lw_tbl := own_at [271, 272, 273, 274, 275, 276, 277, 278, 279, 67, 280, 282] (by decide +kernel)
theorem wsL_law0_r8_in : ∀ w ∈ wsL_law0_r8, w ∈ lw_tbl := (List.forall_mem_append.mpr ⟨wsL_law0_r8_p0_in, wsL_law0_r8_p1_in⟩)
theorem wsL_law0_r9_p0_in : ∀ w ∈ ([Cond.selects RX1 yX1_chooseTurning yX1_chooseTurning, Cond.code yX1_chooseTurning cX1_chooseTurning 7 none, Cond.fieldLink RX1 68 "SwingCircuits$Circuit" "high" "[I", Cond.fieldLink RX1 71 "SwingCircuits$Circuit" "rise" "[I", Cond.fieldLink RX1 74 "SwingCircuits$Circuit" "fall" "[I", Cond.methodLink RX1 58 yX1_letTimePass, Cond.instanceMethod yX1_letTimePass, Cond.selects RX1 yX1_letTimePass yX1_letTimePass, Cond.code yX1_letTimePass cX1_letTimePass 11 none, Cond.static yX2_commonOf, Cond.code yX2_commonOf cX2_commonOf 11 (some .long), Cond.methodLink RX1 61 yX1_passOn] : List Cond), w ∈ lw_tbl := own_at [2, 283, 73, 76, 79, 284, 286, 3, 287, 289, 290, 291] (by decide +kernel)
theorem wsL_law0_r9_p1_in : ∀ w ∈ ([Cond.instanceMethod yX1_passOn, Cond.selects RX1 yX1_passOn yX1_passOn, Cond.code yX1_passOn cX1_passOn 3 none, Cond.fieldLink RX1 81 "SwingCircuits$Circuit" "links" "I", Cond.fieldLink RX1 84 "SwingCircuits$Circuit" "from" "[I", Cond.fieldLink RX1 87 "SwingCircuits$Circuit" "at" "[I", Cond.fieldLink RX1 90 "SwingCircuits$Circuit" "nth" "[I", Cond.methodLink RX1 93 yX1_doAct, Cond.instanceMethod yX1_doAct, Cond.selects RX1 yX1_doAct yX1_doAct, Cond.code yX1_doAct cX1_doAct 4 none, Cond.fieldLink RX1 97 "SwingCircuits$Circuit" "to" "[I"] : List Cond), w ∈ lw_tbl := own_at [293, 4, 294, 82, 85, 88, 91, 295, 297, 5, 298, 94] (by decide +kernel)
theorem wsL_law0_r9_in : ∀ w ∈ wsL_law0_r9, w ∈ lw_tbl := (List.forall_mem_append.mpr ⟨wsL_law0_r9_p0_in, wsL_law0_r9_p1_in⟩)
theorem wsL_law0_r10_p0_in : ∀ w ∈ ([Cond.fieldLink RX1 100 "SwingCircuits$Circuit" "act" "[I", Cond.fieldLink RX1 103 "SwingCircuits$Circuit" "by" "[I", Cond.methodLink RX1 106 yX1_keepBetweenBars, Cond.instanceMethod yX1_keepBetweenBars, Cond.selects RX1 yX1_keepBetweenBars yX1_keepBetweenBars, Cond.code yX1_keepBetweenBars cX1_keepBetweenBars 3 none, Cond.methodLink RX1 64 yX1_isSpent, Cond.instanceMethod yX1_isSpent, Cond.selects RX1 yX1_isSpent yX1_isSpent, Cond.code yX1_isSpent cX1_isSpent 3 (some .boolean), Cond.methodLink RX1 109 yX1_isTooLong, Cond.static yX1_isTooLong] : List Cond), w ∈ lw_tbl := own_at [97, 100, 299, 301, 6, 302, 303, 305, 7, 306, 307, 308] (by decide +kernel)
theorem wsL_law0_r10_p1_in : ∀ w ∈ ([Cond.code yX1_isTooLong cX1_isTooLong 4 (some .boolean), Cond.constantLong RX1 113 (1000000), Cond.constantLong RX1 115 (-1000000), Cond.methodLink RX2 134 yX2_noteEvent, Cond.instanceMethod yX2_noteEvent, Cond.selects RX2 yX2_noteEvent yX2_noteEvent, Cond.code yX2_noteEvent cX2_noteEvent 1 none, Cond.fieldLink RX2 231 "SwingCircuits$Swing" "side" "I", Cond.fieldLink RX2 234 "SwingCircuits$Swing" "turned" "I", Cond.methodLink RX2 227 yX1_packedEvent, Cond.instanceMethod yX1_packedEvent, Cond.selects RX1 yX1_packedEvent yX1_packedEvent] : List Cond), w ∈ lw_tbl := own_at [309, 310, 311, 312, 314, 8, 315, 148, 146, 316, 317, 318] (by decide +kernel)
theorem wsL_law0_r10_in : ∀ w ∈ wsL_law0_r10, w ∈ lw_tbl := (List.forall_mem_append.mpr ⟨wsL_law0_r10_p0_in, wsL_law0_r10_p1_in⟩)
theorem wsL_law0_r11_p0_in : ∀ w ∈ ([Cond.code yX1_packedEvent cX1_packedEvent 1 (some .long), Cond.static yX2_packed, Cond.code yX2_packed cX2_packed 4 (some .long), Cond.methodLink RL 47 yX3_run, Cond.instanceMethod yX3_run, Cond.selects RX3 yX3_run yX3_run, Cond.code yX3_run cX3_run 3 (some .int), Cond.methodLink RX3 143 yX3_step, Cond.instanceMethod yX3_step, Cond.selects RX3 yX3_step yX3_step, Cond.code yX3_step cX3_step 12 (some .boolean), Cond.fieldLink RX3 90 "SwingCircuitsModel" "num" "J"] : List Cond), w ∈ lw_tbl := own_at [319, 321, 322, 660, 661, 662, 663, 664, 666, 24, 667, 568] (by decide +kernel)
theorem wsL_law0_r11_p1_in : ∀ w ∈ ([Cond.fieldLink RX3 94 "SwingCircuitsModel" "den" "J", Cond.fieldLink RX3 125 "SwingCircuitsModel" "nextCell" "I", Cond.fieldLink RX3 128 "SwingCircuitsModel" "nextAt" "I", Cond.constantLong RX3 141 (500), Cond.methodLink RX3 117 yX3_copy, Cond.static yX3_copy, Cond.code yX3_copy cX3_copy 3 none, Cond.methodLink RX3 121 yX3_waitOf, Cond.instanceMethod yX3_waitOf, Cond.selects RX3 yX3_waitOf yX3_waitOf, Cond.code yX3_waitOf cX3_waitOf 6 none, Cond.methodLink RX3 104 yX3_isFilling] : List Cond), w ∈ lw_tbl := own_at [569, 570, 571, 705, 668, 669, 670, 671, 673, 25, 674, 675] (by decide +kernel)
theorem wsL_law0_r11_in : ∀ w ∈ wsL_law0_r11, w ∈ lw_tbl := (List.forall_mem_append.mpr ⟨wsL_law0_r11_p0_in, wsL_law0_r11_p1_in⟩)
theorem wsL_law0_r12_p0_in : ∀ w ∈ ([Cond.instanceMethod yX3_isFilling, Cond.selects RX3 yX3_isFilling yX3_isFilling, Cond.code yX3_isFilling cX3_isFilling 2 (some .boolean), Cond.methodLink RX3 107 yX3_make, Cond.instanceMethod yX3_make, Cond.selects RX3 yX3_make yX3_make, Cond.code yX3_make cX3_make 7 none, Cond.methodLink RX3 84 Lib.MathLoose.abs_long.x, Cond.static Lib.MathLoose.abs_long.x, Cond.initialized "java/lang/Math", Cond.code Lib.MathLoose.abs_long.x Lib.MathLoose.abs_long.code 2 (some .long), Cond.methodLink RX3 80 yX3_common] : List Cond), w ∈ lw_tbl := own_at [677, 26, 678, 679, 681, 27, 682, 683, 684, 46, 685, 686] (by decide +kernel)
theorem wsL_law0_r12_p1_in : ∀ w ∈ ([Cond.static yX3_common, Cond.code yX3_common cX3_common 4 (some .long), Cond.methodLink RX3 131 yX3_store, Cond.instanceMethod yX3_store, Cond.selects RX3 yX3_store yX3_store, Cond.code yX3_store cX3_store 2 none, Cond.methodLink RX3 134 yX3_act, Cond.instanceMethod yX3_act, Cond.selects RX3 yX3_act yX3_act, Cond.code yX3_act cX3_act 8 none, Cond.methodLink RX3 137 yX3_isSpent, Cond.instanceMethod yX3_isSpent] : List Cond), w ∈ lw_tbl := own_at [687, 688, 689, 691, 28, 692, 693, 695, 29, 696, 697, 699] (by decide +kernel)
theorem wsL_law0_r12_in : ∀ w ∈ wsL_law0_r12, w ∈ lw_tbl := (List.forall_mem_append.mpr ⟨wsL_law0_r12_p0_in, wsL_law0_r12_p1_in⟩)
theorem wsL_law0_r13_p0_in : ∀ w ∈ ([Cond.selects RX3 yX3_isSpent yX3_isSpent, Cond.code yX3_isSpent cX3_isSpent 2 (some .boolean), Cond.methodLink RX3 113 yX3_isOver, Cond.static yX3_isOver, Cond.code yX3_isOver cX3_isOver 4 (some .boolean), Cond.constantLong RX3 111 (1000000), Cond.methodLink RL 48 yX2_count, Cond.instanceMethod yX2_count, Cond.selects RX2 yX2_count yX2_count, Cond.code yX2_count cX2_count 2 (some .int), Cond.fieldLink RX2 137 "SwingCircuits$Swing" "timeNum" "J", Cond.fieldLink RX2 141 "SwingCircuits$Swing" "timeDen" "J"] : List Cond), w ∈ lw_tbl := own_at [30, 700, 701, 702, 703, 704, 323, 324, 325, 326, 134, 136] (by decide +kernel)
theorem wsL_law0_r13_p1_in : ∀ w ∈ ([Cond.methodLink RX2 144 yX2_isNextSpent, Cond.instanceMethod yX2_isNextSpent, Cond.selects RX2 yX2_isNextSpent yX2_isNextSpent, Cond.code yX2_isNextSpent cX2_isNextSpent 1 (some .boolean), Cond.methodLink RL 51 yX3_count, Cond.instanceMethod yX3_count, Cond.selects RX3 yX3_count yX3_count, Cond.code yX3_count cX3_count 2 (some .int), Cond.fieldLink RX3 149 "SwingCircuitsModel" "drawn" "I", Cond.fieldLink RX3 152 "SwingCircuitsModel" "measured" "I", Cond.methodLink RX3 146 yX3_wouldBeSpent, Cond.instanceMethod yX3_wouldBeSpent] : List Cond), w ∈ lw_tbl := own_at [327, 329, 9, 330, 706, 707, 708, 709, 563, 566, 710, 712] (by decide +kernel)
theorem wsL_law0_r13_in : ∀ w ∈ wsL_law0_r13, w ∈ lw_tbl := (List.forall_mem_append.mpr ⟨wsL_law0_r13_p0_in, wsL_law0_r13_p1_in⟩)
theorem wsL_law0_r14_p0_in : ∀ w ∈ ([Cond.selects RX3 yX3_wouldBeSpent yX3_wouldBeSpent, Cond.code yX3_wouldBeSpent cX3_wouldBeSpent 2 (some .boolean), Cond.methodLink RL 52 yL_of, Cond.static yL_of, Cond.initialized RL, Cond.codeWith yL_of cL_of 5 (some .int) [(0, 10, 13, 13)], Cond.classLink RL 13 "java/util/NoSuchElementException", Cond.methodLink RL 7 yX2_of, Cond.instanceMethod yX2_of, Cond.selects RX2 yX2_of yX2_of, Cond.code yX2_of cX2_of 3 (some .int), Cond.classLink RX2 148 "java/util/NoSuchElementException"] : List Cond), w ∈ lw_tbl := own_at [31, 713, 455, 456, 41, 457, 458, 459, 460, 461, 462, 463] (by decide +kernel)
theorem wsL_law0_r14_p1_in : ∀ w ∈ ([Cond.initialized "java/util/NoSuchElementException", Cond.fieldLink RX2 155 "SwingCircuits$Swing" "num" "[J", Cond.fieldLink RX2 158 "SwingCircuits$Swing" "den" "[J", Cond.fieldLink RX2 161 "SwingCircuits$Swing" "filling" "[Z", Cond.methodLink RX2 165 yX2_beatTerm, Cond.instanceMethod yX2_beatTerm, Cond.selects RX2 yX2_beatTerm yX2_beatTerm, Cond.code yX2_beatTerm cX2_beatTerm 7 (some .int), Cond.methodLink RX2 260 yX0_span, Cond.instanceMethod yX0_span, Cond.selects RX0 yX0_span yX0_span, Cond.code yX0_span cX0_span 2 (some .int)] : List Cond), w ∈ lw_tbl := own_at [50, 138, 140, 142, 529, 531, 21, 532, 414, 415, 416, 417] (by decide +kernel)
theorem wsL_law0_r14_in : ∀ w ∈ wsL_law0_r14, w ∈ lw_tbl := (List.forall_mem_append.mpr ⟨wsL_law0_r14_p0_in, wsL_law0_r14_p1_in⟩)
theorem wsL_law0_r15_p0_in : ∀ w ∈ ([Cond.methodLink RX2 257 yX2_commonOf, Cond.methodLink RL 57 yX3_of, Cond.instanceMethod yX3_of, Cond.selects RX3 yX3_of yX3_of, Cond.code yX3_of cX3_of 3 (some .int), Cond.methodLink RX3 155 yX3_beat, Cond.instanceMethod yX3_beat, Cond.selects RX3 yX3_beat yX3_beat, Cond.code yX3_beat cX3_beat 4 none, Cond.methodLink RL 58 yX3_thrown, Cond.instanceMethod yX3_thrown, Cond.selects RX3 yX3_thrown yX3_thrown] : List Cond), w ∈ lw_tbl := own_at [388, 714, 715, 716, 717, 718, 720, 32, 721, 629, 630, 631] (by decide +kernel)
theorem wsL_law0_r15_p1_in : ∀ w ∈ ([Cond.code yX3_thrown cX3_thrown 1 (some .int), Cond.methodLink RL 61 yX2_counted, Cond.instanceMethod yX2_counted, Cond.selects RX2 yX2_counted yX2_counted, Cond.code yX2_counted cX2_counted 2 (some .int), Cond.fieldLink RX2 171 "SwingCircuits$Swing" "counts" "[I", Cond.methodLink RL 64 yX3_counted, Cond.instanceMethod yX3_counted, Cond.selects RX3 yX3_counted yX3_counted, Cond.code yX3_counted cX3_counted 2 (some .int), Cond.methodLink RL 65 yX2_event, Cond.instanceMethod yX2_event] : List Cond), w ∈ lw_tbl := own_at [632, 331, 332, 333, 334, 144, 722, 723, 724, 725, 335, 336] (by decide +kernel)
theorem wsL_law0_r15_in : ∀ w ∈ wsL_law0_r15, w ∈ lw_tbl := (List.forall_mem_append.mpr ⟨wsL_law0_r15_p0_in, wsL_law0_r15_p1_in⟩)
theorem wsL_law0_r16_p0_in : ∀ w ∈ ([Cond.selects RX2 yX2_event yX2_event, Cond.code yX2_event cX2_event 3 (some .int), Cond.methodLink RX2 174 yX2_turnedIn, Cond.static yX2_turnedIn, Cond.code yX2_turnedIn cX2_turnedIn 2 (some .int), Cond.methodLink RX2 178 yX2_sideIn, Cond.static yX2_sideIn, Cond.code yX2_sideIn cX2_sideIn 2 (some .int), Cond.methodLink RX2 181 yX2_timeNumIn, Cond.static yX2_timeNumIn, Cond.code yX2_timeNumIn cX2_timeNumIn 2 (some .long), Cond.methodLink RX2 185 yX2_timeDenIn] : List Cond), w ∈ lw_tbl := own_at [337, 338, 339, 340, 341, 342, 343, 344, 345, 346, 347, 348] (by decide +kernel)
theorem wsL_law0_r16_p1_in : ∀ w ∈ ([Cond.static yX2_timeDenIn, Cond.code yX2_timeDenIn cX2_timeDenIn 2 (some .long), Cond.constantLong RX2 267 (1048575), Cond.methodLink RL 68 yX3_event, Cond.instanceMethod yX3_event, Cond.selects RX3 yX3_event yX3_event, Cond.code yX3_event cX3_event 3 (some .int), Cond.methodLink RL 69 yX2_ring, Cond.instanceMethod yX2_ring, Cond.selects RX2 yX2_ring yX2_ring, Cond.code yX2_ring cX2_ring 4 (some .int), Cond.methodLink RX2 188 yX2_writeTrail] : List Cond), w ∈ lw_tbl := own_at [349, 350, 351, 726, 727, 728, 729, 352, 353, 354, 355, 356] (by decide +kernel)
theorem wsL_law0_r16_in : ∀ w ∈ wsL_law0_r16, w ∈ lw_tbl := (List.forall_mem_append.mpr ⟨wsL_law0_r16_p0_in, wsL_law0_r16_p1_in⟩)
theorem wsL_law0_r17_p0_in : ∀ w ∈ ([Cond.instanceMethod yX2_writeTrail, Cond.selects RX2 yX2_writeTrail yX2_writeTrail, Cond.code yX2_writeTrail cX2_writeTrail 4 none, Cond.methodLink RX2 237 yX2_packed, Cond.methodLink RX2 241 yX1_packedMarks, Cond.instanceMethod yX1_packedMarks, Cond.selects RX1 yX1_packedMarks yX1_packedMarks, Cond.code yX1_packedMarks cX1_packedMarks 4 (some .long), Cond.constantLong RX1 120 (2), Cond.methodLink RX2 192 yX2_sameAhead, Cond.instanceMethod yX2_sameAhead, Cond.selects RX2 yX2_sameAhead yX2_sameAhead] : List Cond), w ∈ lw_tbl := own_at [358, 10, 359, 360, 361, 362, 363, 364, 365, 366, 368, 11] (by decide +kernel)
theorem wsL_law0_r17_p1_in : ∀ w ∈ ([Cond.code yX2_sameAhead cX2_sameAhead 3 (some .int), Cond.methodLink RX2 244 yX2_isSameState, Cond.instanceMethod yX2_isSameState, Cond.selects RX2 yX2_isSameState yX2_isSameState, Cond.code yX2_isSameState cX2_isSameState 4 (some .boolean), Cond.methodLink RX2 196 yX2_keepRing, Cond.instanceMethod yX2_keepRing, Cond.selects RX2 yX2_keepRing yX2_keepRing, Cond.code yX2_keepRing cX2_keepRing 10 none, Cond.methodLink RX2 247 yX2_eventInRow, Cond.instanceMethod yX2_eventInRow, Cond.selects RX2 yX2_eventInRow yX2_eventInRow] : List Cond), w ∈ lw_tbl := own_at [369, 370, 372, 12, 373, 374, 376, 13, 377, 378, 380, 14] (by decide +kernel)
theorem wsL_law0_r17_in : ∀ w ∈ wsL_law0_r17, w ∈ lw_tbl := (List.forall_mem_append.mpr ⟨wsL_law0_r17_p0_in, wsL_law0_r17_p1_in⟩)
theorem wsL_law0_r18_p0_in : ∀ w ∈ ([Cond.code yX2_eventInRow cX2_eventInRow 2 (some .long), Cond.methodLink RX2 251 yX2_betweenNum, Cond.static yX2_betweenNum, Cond.code yX2_betweenNum cX2_betweenNum 4 (some .long), Cond.methodLink RX2 254 yX2_betweenDen, Cond.static yX2_betweenDen, Cond.code yX2_betweenDen cX2_betweenDen 4 (some .long), Cond.methodLink RL 72 yX3_ring, Cond.instanceMethod yX3_ring, Cond.selects RX3 yX3_ring yX3_ring, Cond.code yX3_ring cX3_ring 3 (some .int), Cond.methodLink RX3 173 yX3_seek] : List Cond), w ∈ lw_tbl := own_at [381, 382, 383, 384, 385, 386, 387, 730, 731, 732, 733, 734] (by decide +kernel)
theorem wsL_law0_r18_p1_in : ∀ w ∈ ([Cond.instanceMethod yX3_seek, Cond.selects RX3 yX3_seek yX3_seek, Cond.code yX3_seek cX3_seek 4 (some .int), Cond.methodLink RX3 159 yX3_keep, Cond.instanceMethod yX3_keep, Cond.selects RX3 yX3_keep yX3_keep, Cond.code yX3_keep cX3_keep 3 none, Cond.methodLink RX3 162 yX3_areAlike, Cond.instanceMethod yX3_areAlike, Cond.selects RX3 yX3_areAlike yX3_areAlike, Cond.code yX3_areAlike cX3_areAlike 4 (some .boolean), Cond.methodLink RX3 166 yX3_tell] : List Cond), w ∈ lw_tbl := own_at [736, 33, 737, 738, 740, 34, 741, 742, 744, 35, 745, 746] (by decide +kernel)
theorem wsL_law0_r18_in : ∀ w ∈ wsL_law0_r18, w ∈ lw_tbl := (List.forall_mem_append.mpr ⟨wsL_law0_r18_p0_in, wsL_law0_r18_p1_in⟩)
theorem wsL_law0_r19_p0_in : ∀ w ∈ ([Cond.instanceMethod yX3_tell, Cond.selects RX3 yX3_tell yX3_tell, Cond.code yX3_tell cX3_tell 6 none, Cond.fieldLink RX3 170 "SwingCircuitsModel" "wasRing" "Z", Cond.methodLink RL 73 yX2_ringed, Cond.instanceMethod yX2_ringed, Cond.selects RX2 yX2_ringed yX2_ringed, Cond.code yX2_ringed cX2_ringed 2 (some .long), Cond.constantLong RX2 200 (-1), Cond.methodLink RL 77 yX3_ringed, Cond.instanceMethod yX3_ringed, Cond.selects RX3 yX3_ringed yX3_ringed] : List Cond), w ∈ lw_tbl := own_at [748, 36, 749, 560, 389, 390, 391, 392, 393, 750, 751, 752] (by decide +kernel)
theorem wsL_law0_r19_p1_in : ∀ w ∈ ([Cond.code yX3_ringed cX3_ringed 2 (some .long), Cond.constantLong RX3 177 (-1), Cond.methodLink RL 78 yX2_drawer, Cond.instanceMethod yX2_drawer, Cond.selects RX2 yX2_drawer yX2_drawer, Cond.code yX2_drawer cX2_drawer 2 (some .int), Cond.methodLink RX2 202 yX2_isStocked, Cond.instanceMethod yX2_isStocked, Cond.selects RX2 yX2_isStocked yX2_isStocked, Cond.code yX2_isStocked cX2_isStocked 3 (some .boolean), Cond.methodLink RL 81 yX3_drawer, Cond.instanceMethod yX3_drawer] : List Cond), w ∈ lw_tbl := own_at [753, 754, 394, 395, 396, 397, 398, 400, 15, 401, 755, 756] (by decide +kernel)
theorem wsL_law0_r19_in : ∀ w ∈ wsL_law0_r19, w ∈ lw_tbl := (List.forall_mem_append.mpr ⟨wsL_law0_r19_p0_in, wsL_law0_r19_p1_in⟩)
theorem wsL_law0_r20_p0_in : ∀ w ∈ ([Cond.selects RX3 yX3_drawer yX3_drawer, Cond.code yX3_drawer cX3_drawer 3 (some .int), Cond.methodLink RL 82 yX2_parts, Cond.instanceMethod yX2_parts, Cond.selects RX2 yX2_parts yX2_parts, Cond.code yX2_parts cX2_parts 4 (some .int), Cond.methodLink RX2 205 yX2_isTerm, Cond.static yX2_isTerm, Cond.code yX2_isTerm cX2_isTerm 1 (some .boolean), Cond.constant RX2 222 (1000000), Cond.methodLink RX2 208 yX2_findWays, Cond.instanceMethod yX2_findWays] : List Cond), w ∈ lw_tbl := own_at [757, 758, 402, 403, 404, 405, 406, 407, 408, 409, 410, 412] (by decide +kernel)
theorem wsL_law0_r20_p1_in : ∀ w ∈ ([Cond.selects RX2 yX2_findWays yX2_findWays, Cond.code yX2_findWays cX2_findWays 11 (some .int), Cond.methodLink RL 85 yX3_parts, Cond.instanceMethod yX3_parts, Cond.selects RX3 yX3_parts yX3_parts, Cond.code yX3_parts cX3_parts 4 (some .int), Cond.methodLink RX3 180 yX3_isFraction, Cond.static yX3_isFraction, Cond.code yX3_isFraction cX3_isFraction 2 (some .boolean), Cond.constant RX3 179 (1000000), Cond.methodLink RX3 183 yX3_ways, Cond.instanceMethod yX3_ways] : List Cond), w ∈ lw_tbl := own_at [16, 413, 759, 760, 761, 762, 763, 764, 765, 766, 767, 769] (by decide +kernel)
theorem wsL_law0_r20_in : ∀ w ∈ wsL_law0_r20, w ∈ lw_tbl := (List.forall_mem_append.mpr ⟨wsL_law0_r20_p0_in, wsL_law0_r20_p1_in⟩)
theorem wsL_law0_r21_p0_in : ∀ w ∈ ([Cond.selects RX3 yX3_ways yX3_ways, Cond.code yX3_ways cX3_ways 8 (some .int), Cond.methodLink RL 86 yX2_part, Cond.instanceMethod yX2_part, Cond.selects RX2 yX2_part yX2_part, Cond.code yX2_part cX2_part 6 (some .int), Cond.methodLink RX2 212 yX2_parts, Cond.methodLink RL 89 yX3_part, Cond.instanceMethod yX3_part, Cond.selects RX3 yX3_part yX3_part, Cond.code yX3_part cX3_part 5 (some .int), Cond.methodLink RL 90 yX2_measure] : List Cond), w ∈ lw_tbl := own_at [37, 770, 418, 419, 420, 421, 422, 771, 772, 773, 774, 423] (by decide +kernel)
theorem wsL_law0_r21_p1_in : ∀ w ∈ ([Cond.instanceMethod yX2_measure, Cond.selects RX2 yX2_measure yX2_measure, Cond.code yX2_measure cX2_measure 3 (some .int), Cond.methodLink RL 93 yX3_measure, Cond.instanceMethod yX3_measure, Cond.selects RX3 yX3_measure yX3_measure, Cond.code yX3_measure cX3_measure 3 (some .int), Cond.methodLink RL 94 yX2_forget, Cond.instanceMethod yX2_forget, Cond.selects RX2 yX2_forget yX2_forget, Cond.code yX2_forget cX2_forget 2 (some .int), Cond.methodLink RL 97 yX3_forget] : List Cond), w ∈ lw_tbl := own_at [424, 425, 426, 775, 776, 777, 778, 427, 428, 429, 430, 779] (by decide +kernel)
theorem wsL_law0_r21_in : ∀ w ∈ wsL_law0_r21, w ∈ lw_tbl := (List.forall_mem_append.mpr ⟨wsL_law0_r21_p0_in, wsL_law0_r21_p1_in⟩)
theorem wsL_law0_r22_p0_in : ∀ w ∈ ([Cond.instanceMethod yX3_forget, Cond.selects RX3 yX3_forget yX3_forget, Cond.code yX3_forget cX3_forget 2 (some .int), Cond.methodLink RL 98 yX2_faults, Cond.instanceMethod yX2_faults, Cond.selects RX2 yX2_faults yX2_faults, Cond.code yX2_faults cX2_faults 2 (some .int), Cond.methodLink RX2 216 yX2_findFaults, Cond.instanceMethod yX2_findFaults, Cond.selects RX2 yX2_findFaults yX2_findFaults, Cond.code yX2_findFaults cX2_findFaults 8 (some .int), Cond.methodLink RX2 219 yX2_isMeasuredSo] : List Cond), w ∈ lw_tbl := own_at [780, 781, 782, 431, 432, 433, 434, 435, 437, 17, 438, 439] (by decide +kernel)
theorem wsL_law0_r22_p1_in : ∀ w ∈ ([Cond.instanceMethod yX2_isMeasuredSo, Cond.selects RX2 yX2_isMeasuredSo yX2_isMeasuredSo, Cond.code yX2_isMeasuredSo cX2_isMeasuredSo 8 (some .boolean), Cond.methodLink RX2 263 yX2_isMeasure, Cond.instanceMethod yX2_isMeasure, Cond.selects RX2 yX2_isMeasure yX2_isMeasure, Cond.code yX2_isMeasure cX2_isMeasure 6 (some .boolean), Cond.methodLink RL 101 yX3_faults, Cond.instanceMethod yX3_faults, Cond.selects RX3 yX3_faults yX3_faults, Cond.code yX3_faults cX3_faults 2 (some .int), Cond.methodLink RX3 194 yX3_explaining] : List Cond), w ∈ lw_tbl := own_at [441, 18, 442, 443, 445, 19, 446, 783, 784, 785, 786, 787] (by decide +kernel)
theorem wsL_law0_r22_in : ∀ w ∈ wsL_law0_r22, w ∈ lw_tbl := (List.forall_mem_append.mpr ⟨wsL_law0_r22_p0_in, wsL_law0_r22_p1_in⟩)
theorem wsL_law0_r23_p0_in : ∀ w ∈ ([Cond.instanceMethod yX3_explaining, Cond.selects RX3 yX3_explaining yX3_explaining, Cond.code yX3_explaining cX3_explaining 7 (some .int), Cond.methodLink RX3 190 yX3_explains, Cond.instanceMethod yX3_explains, Cond.selects RX3 yX3_explains yX3_explains, Cond.code yX3_explains cX3_explains 7 (some .boolean), Cond.methodLink RX3 187 yX3_isSo, Cond.instanceMethod yX3_isSo, Cond.selects RX3 yX3_isSo yX3_isSo, Cond.code yX3_isSo cX3_isSo 9 (some .boolean), Cond.methodLink RL 102 yX2_fault] : List Cond), w ∈ lw_tbl := own_at [789, 38, 790, 791, 793, 39, 794, 795, 797, 40, 798, 447] (by decide +kernel)
theorem wsL_law0_r23_p1_in : ∀ w ∈ ([Cond.instanceMethod yX2_fault, Cond.selects RX2 yX2_fault yX2_fault, Cond.code yX2_fault cX2_fault 4 (some .int), Cond.methodLink RL 105 yX3_fault, Cond.instanceMethod yX3_fault, Cond.selects RX3 yX3_fault yX3_fault, Cond.code yX3_fault cX3_fault 3 (some .int), Cond.methodLink RL 106 yX2_fits, Cond.instanceMethod yX2_fits, Cond.selects RX2 yX2_fits yX2_fits, Cond.code yX2_fits cX2_fits 2 (some .int), Cond.methodLink RL 109 yX3_fits] : List Cond), w ∈ lw_tbl := own_at [448, 449, 450, 799, 800, 801, 802, 451, 452, 453, 454, 803] (by decide +kernel)
theorem wsL_law0_r23_in : ∀ w ∈ wsL_law0_r23, w ∈ lw_tbl := (List.forall_mem_append.mpr ⟨wsL_law0_r23_p0_in, wsL_law0_r23_p1_in⟩)
theorem wsL_law0_r24_in : ∀ w ∈ wsL_law0_r24, w ∈ lw_tbl := own_at [804, 805, 806] (by decide +kernel)
theorem wsX00_in : ∀ w ∈ wsX00, w ∈ lw_tbl := own_at [101, 103, 105, 107, 109, 111, 113, 115, 117, 119, 121, 123] (by decide +kernel)
theorem wsX10_in : ∀ w ∈ wsX10, w ∈ lw_tbl := own_at [151, 153, 155, 157, 159, 161, 163, 165, 167, 169] (by decide +kernel)
theorem wsX20_in : ∀ w ∈ wsX20, w ∈ lw_tbl := own_at [191, 193, 195, 197, 199, 201, 203, 205, 207, 209, 211, 213, 215, 217, 219, 221, 223] (by decide +kernel)
theorem wsX30_in : ∀ w ∈ wsX30, w ∈ lw_tbl := own_at [572, 574, 576, 578, 580, 582, 584, 586, 588, 590, 592, 594, 596, 598, 600, 602, 604, 606, 608, 610, 612, 614, 616, 618, 620, 622, 624, 626] (by decide +kernel)
theorem wsL_law_in0 : ∀ w ∈ wsL_law0, w ∈ lw_tbl := (List.forall_mem_append.mpr ⟨(List.forall_mem_append.mpr ⟨(List.forall_mem_append.mpr ⟨(List.forall_mem_append.mpr ⟨(List.forall_mem_append.mpr ⟨(List.forall_mem_append.mpr ⟨wsL_law0_r1_in, (List.forall_mem_append.mpr ⟨wsL_law0_r2_in, (List.forall_mem_append.mpr ⟨wsL_law0_r3_in, (List.forall_mem_append.mpr ⟨wsL_law0_r4_in, (List.forall_mem_append.mpr ⟨wsL_law0_r5_in, (List.forall_mem_append.mpr ⟨wsL_law0_r6_in, (List.forall_mem_append.mpr ⟨wsL_law0_r7_in, (List.forall_mem_append.mpr ⟨wsL_law0_r8_in, (List.forall_mem_append.mpr ⟨wsL_law0_r9_in, (List.forall_mem_append.mpr ⟨wsL_law0_r10_in, (List.forall_mem_append.mpr ⟨wsL_law0_r11_in, (List.forall_mem_append.mpr ⟨wsL_law0_r12_in, (List.forall_mem_append.mpr ⟨wsL_law0_r13_in, (List.forall_mem_append.mpr ⟨wsL_law0_r14_in, (List.forall_mem_append.mpr ⟨wsL_law0_r15_in, (List.forall_mem_append.mpr ⟨wsL_law0_r16_in, (List.forall_mem_append.mpr ⟨wsL_law0_r17_in, (List.forall_mem_append.mpr ⟨wsL_law0_r18_in, (List.forall_mem_append.mpr ⟨wsL_law0_r19_in, (List.forall_mem_append.mpr ⟨wsL_law0_r20_in, (List.forall_mem_append.mpr ⟨wsL_law0_r21_in, (List.forall_mem_append.mpr ⟨wsL_law0_r22_in, (List.forall_mem_append.mpr ⟨wsL_law0_r23_in, wsL_law0_r24_in⟩)⟩)⟩)⟩)⟩)⟩)⟩)⟩)⟩)⟩)⟩)⟩)⟩)⟩)⟩)⟩)⟩)⟩)⟩)⟩)⟩)⟩)⟩), wsX20_in⟩), wsX30_in⟩), wsX00_in⟩), wsX10_in⟩), (fun _ h => absurd h List.not_mem_nil)⟩)
theorem own_t1 : ∀ w ∈ Bundle.throwableAtoms, w ∈ lw_tbl ∨ goodWord w = false := List.forall_mem_cons.mpr ⟨Or.inl (List.mem_of_getElem? (i := 47) (by decide +kernel)), List.forall_mem_cons.mpr ⟨Or.inl (List.mem_of_getElem? (i := 485) (by decide +kernel)), List.forall_mem_cons.mpr ⟨Or.inl (List.mem_of_getElem? (i := 494) (by decide +kernel)), List.forall_mem_cons.mpr ⟨Or.inl (List.mem_of_getElem? (i := 496) (by decide +kernel)), List.forall_mem_cons.mpr ⟨Or.inl (List.mem_of_getElem? (i := 499) (by decide +kernel)), List.forall_mem_cons.mpr ⟨Or.inl (List.mem_of_getElem? (i := 501) (by decide +kernel)), List.forall_mem_cons.mpr ⟨Or.inl (List.mem_of_getElem? (i := 486) (by decide +kernel)), List.forall_mem_cons.mpr ⟨Or.inl (List.mem_of_getElem? (i := 487) (by decide +kernel)), List.forall_mem_cons.mpr ⟨Or.inl (List.mem_of_getElem? (i := 57) (by decide +kernel)), List.forall_mem_cons.mpr ⟨Or.inl (List.mem_of_getElem? (i := 58) (by decide +kernel)), List.forall_mem_cons.mpr ⟨Or.inl (List.mem_of_getElem? (i := 488) (by decide +kernel)), List.forall_mem_cons.mpr ⟨Or.inl (List.mem_of_getElem? (i := 493) (by decide +kernel)), List.forall_mem_cons.mpr ⟨Or.inl (List.mem_of_getElem? (i := 497) (by decide +kernel)), List.forall_mem_cons.mpr ⟨Or.inl (List.mem_of_getElem? (i := 517) (by decide +kernel)), List.forall_mem_cons.mpr ⟨Or.inl (List.mem_of_getElem? (i := 475) (by decide +kernel)), List.forall_mem_cons.mpr ⟨Or.inl (List.mem_of_getElem? (i := 518) (by decide +kernel)), List.forall_mem_cons.mpr ⟨Or.inl (List.mem_of_getElem? (i := 477) (by decide +kernel)), List.forall_mem_cons.mpr ⟨Or.inl (List.mem_of_getElem? (i := 519) (by decide +kernel)), List.forall_mem_cons.mpr ⟨Or.inl (List.mem_of_getElem? (i := 479) (by decide +kernel)), List.forall_mem_cons.mpr ⟨Or.inl (List.mem_of_getElem? (i := 489) (by decide +kernel)), List.forall_mem_cons.mpr ⟨Or.inl (List.mem_of_getElem? (i := 490) (by decide +kernel)), List.forall_mem_cons.mpr ⟨Or.inl (List.mem_of_getElem? (i := 491) (by decide +kernel)), List.forall_mem_cons.mpr ⟨Or.inl (List.mem_of_getElem? (i := 492) (by decide +kernel)), List.forall_mem_cons.mpr ⟨Or.inl (List.mem_of_getElem? (i := 481) (by decide +kernel)), (fun _ h => absurd h List.not_mem_nil)⟩⟩⟩⟩⟩⟩⟩⟩⟩⟩⟩⟩⟩⟩⟩⟩⟩⟩⟩⟩⟩⟩⟩⟩
theorem own_t2 : ∀ w ∈ Bundle.throwableSAtoms, w ∈ lw_tbl ∨ goodWord w = false := List.forall_mem_cons.mpr ⟨Or.inl (List.mem_of_getElem? (i := 513) (by decide +kernel)), List.forall_mem_cons.mpr ⟨Or.inl (List.mem_of_getElem? (i := 514) (by decide +kernel)), List.forall_mem_cons.mpr ⟨Or.inl (List.mem_of_getElem? (i := 516) (by decide +kernel)), List.forall_mem_cons.mpr ⟨Or.inl (List.mem_of_getElem? (i := 481) (by decide +kernel)), (fun _ h => absurd h List.not_mem_nil)⟩⟩⟩⟩
theorem own_t30 : ∀ w ∈ Bundle.passSAtoms ne_NE ne_RE 13 ne_code, w ∈ lw_tbl ∨ goodWord w = false := List.forall_mem_cons.mpr ⟨Or.inl (List.mem_of_getElem? (i := 504) (by decide +kernel)), List.forall_mem_cons.mpr ⟨Or.inl (List.mem_of_getElem? (i := 505) (by decide +kernel)), List.forall_mem_cons.mpr ⟨Or.inl (List.mem_of_getElem? (i := 506) (by decide +kernel)), List.forall_mem_cons.mpr ⟨Or.inl (List.mem_of_getElem? (i := 507) (by decide +kernel)), List.forall_mem_cons.mpr ⟨Or.inl (List.mem_of_getElem? (i := 467) (by decide +kernel)), (fun _ h => absurd h List.not_mem_nil)⟩⟩⟩⟩⟩
theorem own_t31 : ∀ w ∈ Bundle.passSAtoms ne_RE ne_EX 7 Bundle.six, w ∈ lw_tbl ∨ goodWord w = false := List.forall_mem_cons.mpr ⟨Or.inl (List.mem_of_getElem? (i := 507) (by decide +kernel)), List.forall_mem_cons.mpr ⟨Or.inl (List.mem_of_getElem? (i := 508) (by decide +kernel)), List.forall_mem_cons.mpr ⟨Or.inl (List.mem_of_getElem? (i := 509) (by decide +kernel)), List.forall_mem_cons.mpr ⟨Or.inl (List.mem_of_getElem? (i := 510) (by decide +kernel)), List.forall_mem_cons.mpr ⟨Or.inl (List.mem_of_getElem? (i := 469) (by decide +kernel)), (fun _ h => absurd h List.not_mem_nil)⟩⟩⟩⟩⟩
theorem own_t32 : ∀ w ∈ Bundle.passSAtoms ne_EX Bundle.tN 7 Bundle.six, w ∈ lw_tbl ∨ goodWord w = false := List.forall_mem_cons.mpr ⟨Or.inl (List.mem_of_getElem? (i := 510) (by decide +kernel)), List.forall_mem_cons.mpr ⟨Or.inl (List.mem_of_getElem? (i := 511) (by decide +kernel)), List.forall_mem_cons.mpr ⟨Or.inl (List.mem_of_getElem? (i := 512) (by decide +kernel)), List.forall_mem_cons.mpr ⟨Or.inl (List.mem_of_getElem? (i := 513) (by decide +kernel)), List.forall_mem_cons.mpr ⟨Or.inl (List.mem_of_getElem? (i := 471) (by decide +kernel)), (fun _ h => absurd h List.not_mem_nil)⟩⟩⟩⟩⟩
theorem own_t4 : ∀ w ∈ ne_last, w ∈ lw_tbl ∨ goodWord w = false := List.forall_mem_cons.mpr ⟨Or.inl (List.mem_of_getElem? (i := 503) (by decide +kernel)), List.forall_mem_cons.mpr ⟨Or.inl (List.mem_of_getElem? (i := 464) (by decide +kernel)), List.forall_mem_cons.mpr ⟨Or.inl (List.mem_of_getElem? (i := 465) (by decide +kernel)), List.forall_mem_cons.mpr ⟨Or.inl (List.mem_of_getElem? (i := 472) (by decide +kernel)), List.forall_mem_cons.mpr ⟨Or.inl (List.mem_of_getElem? (i := 473) (by decide +kernel)), List.forall_mem_cons.mpr ⟨Or.inl (List.mem_of_getElem? (i := 474) (by decide +kernel)), List.forall_mem_cons.mpr ⟨Or.inl (List.mem_of_getElem? (i := 476) (by decide +kernel)), List.forall_mem_cons.mpr ⟨Or.inl (List.mem_of_getElem? (i := 478) (by decide +kernel)), List.forall_mem_cons.mpr ⟨Or.inl (List.mem_of_getElem? (i := 480) (by decide +kernel)), List.forall_mem_cons.mpr ⟨Or.inr (by decide +kernel), List.forall_mem_cons.mpr ⟨Or.inr (by decide +kernel), List.forall_mem_cons.mpr ⟨Or.inl (List.mem_of_getElem? (i := 484) (by decide +kernel)), List.forall_mem_cons.mpr ⟨Or.inl (List.mem_of_getElem? (i := 483) (by decide +kernel)), List.forall_mem_cons.mpr ⟨Or.inl (List.mem_of_getElem? (i := 482) (by decide +kernel)), (fun _ h => absurd h List.not_mem_nil)⟩⟩⟩⟩⟩⟩⟩⟩⟩⟩⟩⟩⟩⟩
theorem own_t : ∀ w ∈ ne_all, w ∈ lw_tbl ∨ goodWord w = false := List.forall_mem_append.mpr ⟨List.forall_mem_append.mpr ⟨List.forall_mem_append.mpr ⟨own_t1, own_t2⟩, List.forall_mem_append.mpr ⟨own_t30, List.forall_mem_append.mpr ⟨own_t31, own_t32⟩⟩⟩, own_t4⟩
theorem wsL_law_x0 : ∀ w ∈ wsNE, w ∈ lw_tbl := fun w h => by
  obtain ⟨h1, h2⟩ := List.mem_filter.mp h
  rcases own_t w (List.mem_filter.mp h1).1 with h3 | h3
  · exact h3
  · rw [h3] at h2; cases h2
theorem wsL_law_in : ∀ w ∈ wsL_law, w ∈ lw_tbl := fun w h => (List.mem_append.mp h).elim (fun h => wsL_law_in0 w h) (fun h => wsL_law_x0 w h)
theorem inlX0 : ∀ w ∈ wsX00, w ∈ wsL_law := fun _ h => List.mem_append_left _ (List.mem_append_left _ (List.mem_append_left _ (List.mem_append_right _ h)))
theorem inX0 : ∀ w ∈ wsX00, w ∈ lw_tbl := fun w h => wsL_law_in w (inlX0 w h)
theorem inlX1 : ∀ w ∈ wsX10, w ∈ wsL_law := fun _ h => List.mem_append_left _ (List.mem_append_left _ (List.mem_append_right _ h))
theorem inX1 : ∀ w ∈ wsX10, w ∈ lw_tbl := fun w h => wsL_law_in w (inlX1 w h)
theorem inlX2 : ∀ w ∈ wsX20, w ∈ wsL_law := fun _ h => List.mem_append_left _ (List.mem_append_left _ (List.mem_append_left _ (List.mem_append_left _ (List.mem_append_left _ (List.mem_append_right _ h)))))
theorem inX2 : ∀ w ∈ wsX20, w ∈ lw_tbl := fun w h => wsL_law_in w (inlX2 w h)
theorem inlX3 : ∀ w ∈ wsX30, w ∈ wsL_law := fun _ h => List.mem_append_left _ (List.mem_append_left _ (List.mem_append_left _ (List.mem_append_left _ (List.mem_append_right _ h))))
theorem inX3 : ∀ w ∈ wsX30, w ∈ lw_tbl := fun w h => wsL_law_in w (inlX3 w h)
theorem inJ9 : ∀ w ∈ wsJ90, w ∈ lw_tbl := by decide +kernel
theorem inJ0 : ∀ w ∈ wsJ00, w ∈ lw_tbl := by decide +kernel
abbrev vwCl : List vw_C := [(RX0, TX0, 12), (RX1, TX1, 10), (RX2, TX2, 17), (RX3, TX3, 28)]
end
