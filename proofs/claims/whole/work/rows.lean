section
-- ===== PART A: goes FIRST, ahead of the names: the tables' words, and 'selects' of the private methods out of them =====
/-- a private method of a class that the tables say can be made, by its rows of tables_1 -/
def lw_okq (q : MethodName × Nat) : Prop := (q.1.cls ≠ "java/lang/invoke/MethodHandle" ∧ q.1.cls ≠ "java/lang/invoke/VarHandle") ∧ Cond.instantiable q.1.cls q.2 ∈ tables_1 ∧ Cond.privateMethod q.1 ∈ tables_1 ∧ Cond.instanceMethod q.1 ∈ tables_1
theorem lw_p0 : lw_okq (⟨"FiveDice", "isLarge", "()Z"⟩, 18) := ⟨⟨by decide +kernel, by decide +kernel⟩, List.mem_of_getElem? (i := 15) (by decide +kernel), List.mem_of_getElem? (i := 277) (by decide +kernel), List.mem_of_getElem? (i := 278) (by decide +kernel)⟩
theorem lw_p1 : lw_okq (⟨"FiveDice$Heaps", "addLargestDie", "(II)V"⟩, 8) := ⟨⟨by decide +kernel, by decide +kernel⟩, List.mem_of_getElem? (i := 42) (by decide +kernel), List.mem_of_getElem? (i := 290) (by decide +kernel), List.mem_of_getElem? (i := 291) (by decide +kernel)⟩
theorem lw_p2 : lw_okq (⟨"FiveDice$Heaps", "addSmallerDie", "(II)V"⟩, 8) := ⟨⟨by decide +kernel, by decide +kernel⟩, List.mem_of_getElem? (i := 42) (by decide +kernel), List.mem_of_getElem? (i := 297) (by decide +kernel), List.mem_of_getElem? (i := 298) (by decide +kernel)⟩
theorem lw_p3 : lw_okq (⟨"FiveDice$Worths", "layGround", "(I)V"⟩, 3) := ⟨⟨by decide +kernel, by decide +kernel⟩, List.mem_of_getElem? (i := 118) (by decide +kernel), List.mem_of_getElem? (i := 353) (by decide +kernel), List.mem_of_getElem? (i := 354) (by decide +kernel)⟩
theorem lw_p4 : lw_okq (⟨"FiveDice$Turn", "throwOthers", "([J[J)V"⟩, 3) := ⟨⟨by decide +kernel, by decide +kernel⟩, List.mem_of_getElem? (i := 124) (by decide +kernel), List.mem_of_getElem? (i := 397) (by decide +kernel), List.mem_of_getElem? (i := 398) (by decide +kernel)⟩
theorem lw_p5 : lw_okq (⟨"FiveDice$Turn", "bringToUnit", "([J)V"⟩, 3) := ⟨⟨by decide +kernel, by decide +kernel⟩, List.mem_of_getElem? (i := 124) (by decide +kernel), List.mem_of_getElem? (i := 405) (by decide +kernel), List.mem_of_getElem? (i := 406) (by decide +kernel)⟩
theorem lw_p6 : lw_okq (⟨"FiveDice$Turn", "chooseHolds", "([J[J)V"⟩, 3) := ⟨⟨by decide +kernel, by decide +kernel⟩, List.mem_of_getElem? (i := 124) (by decide +kernel), List.mem_of_getElem? (i := 409) (by decide +kernel), List.mem_of_getElem? (i := 410) (by decide +kernel)⟩
theorem lw_p7 : lw_okq (⟨"FiveDice", "comeToTurn", "()V"⟩, 18) := ⟨⟨by decide +kernel, by decide +kernel⟩, List.mem_of_getElem? (i := 15) (by decide +kernel), List.mem_of_getElem? (i := 417) (by decide +kernel), List.mem_of_getElem? (i := 418) (by decide +kernel)⟩
theorem lw_p8 : lw_okq (⟨"FiveDice", "comeToHeap", "(I)I"⟩, 18) := ⟨⟨by decide +kernel, by decide +kernel⟩, List.mem_of_getElem? (i := 15) (by decide +kernel), List.mem_of_getElem? (i := 439) (by decide +kernel), List.mem_of_getElem? (i := 440) (by decide +kernel)⟩
theorem lw_p9 : lw_okq (⟨"FiveDice", "stand", "()J"⟩, 18) := ⟨⟨by decide +kernel, by decide +kernel⟩, List.mem_of_getElem? (i := 15) (by decide +kernel), List.mem_of_getElem? (i := 443) (by decide +kernel), List.mem_of_getElem? (i := 444) (by decide +kernel)⟩
theorem lw_p10 : lw_okq (⟨"FiveDice", "worthHere", "()J"⟩, 18) := ⟨⟨by decide +kernel, by decide +kernel⟩, List.mem_of_getElem? (i := 15) (by decide +kernel), List.mem_of_getElem? (i := 447) (by decide +kernel), List.mem_of_getElem? (i := 448) (by decide +kernel)⟩
theorem lw_p11 : lw_okq (⟨"FiveDice", "valueIn", "(LFiveDice$Turn;)J"⟩, 18) := ⟨⟨by decide +kernel, by decide +kernel⟩, List.mem_of_getElem? (i := 15) (by decide +kernel), List.mem_of_getElem? (i := 451) (by decide +kernel), List.mem_of_getElem? (i := 452) (by decide +kernel)⟩
theorem lw_p12 : lw_okq (⟨"FiveDice", "unitPower", "()I"⟩, 18) := ⟨⟨by decide +kernel, by decide +kernel⟩, List.mem_of_getElem? (i := 15) (by decide +kernel), List.mem_of_getElem? (i := 463) (by decide +kernel), List.mem_of_getElem? (i := 464) (by decide +kernel)⟩
theorem lw_p13 : lw_okq (⟨"FiveDice", "mayHold", "()Z"⟩, 18) := ⟨⟨by decide +kernel, by decide +kernel⟩, List.mem_of_getElem? (i := 15) (by decide +kernel), List.mem_of_getElem? (i := 478) (by decide +kernel), List.mem_of_getElem? (i := 479) (by decide +kernel)⟩
theorem lw_p14 : lw_okq (⟨"FiveDice", "hasHeap", "()Z"⟩, 18) := ⟨⟨by decide +kernel, by decide +kernel⟩, List.mem_of_getElem? (i := 15) (by decide +kernel), List.mem_of_getElem? (i := 482) (by decide +kernel), List.mem_of_getElem? (i := 483) (by decide +kernel)⟩
theorem lw_p15 : lw_okq (⟨"FiveDice", "isRow", "(I)Z"⟩, 18) := ⟨⟨by decide +kernel, by decide +kernel⟩, List.mem_of_getElem? (i := 15) (by decide +kernel), List.mem_of_getElem? (i := 502) (by decide +kernel), List.mem_of_getElem? (i := 503) (by decide +kernel)⟩
def lw_privs_1 : List (MethodName × Nat) := [(⟨"FiveDice", "isLarge", "()Z"⟩, 18), (⟨"FiveDice$Heaps", "addLargestDie", "(II)V"⟩, 8), (⟨"FiveDice$Heaps", "addSmallerDie", "(II)V"⟩, 8), (⟨"FiveDice$Worths", "layGround", "(I)V"⟩, 3), (⟨"FiveDice$Turn", "throwOthers", "([J[J)V"⟩, 3), (⟨"FiveDice$Turn", "bringToUnit", "([J)V"⟩, 3), (⟨"FiveDice$Turn", "chooseHolds", "([J[J)V"⟩, 3), (⟨"FiveDice", "comeToTurn", "()V"⟩, 18), (⟨"FiveDice", "comeToHeap", "(I)I"⟩, 18), (⟨"FiveDice", "stand", "()J"⟩, 18), (⟨"FiveDice", "worthHere", "()J"⟩, 18), (⟨"FiveDice", "valueIn", "(LFiveDice$Turn;)J"⟩, 18), (⟨"FiveDice", "unitPower", "()I"⟩, 18), (⟨"FiveDice", "mayHold", "()Z"⟩, 18), (⟨"FiveDice", "hasHeap", "()Z"⟩, 18), (⟨"FiveDice", "isRow", "(I)Z"⟩, 18)]
theorem lw_r1 : ∀ q ∈ lw_privs_1, lw_okq q := List.forall_mem_cons.mpr ⟨lw_p0, List.forall_mem_cons.mpr ⟨lw_p1, List.forall_mem_cons.mpr ⟨lw_p2, List.forall_mem_cons.mpr ⟨lw_p3, List.forall_mem_cons.mpr ⟨lw_p4, List.forall_mem_cons.mpr ⟨lw_p5, List.forall_mem_cons.mpr ⟨lw_p6, List.forall_mem_cons.mpr ⟨lw_p7, List.forall_mem_cons.mpr ⟨lw_p8, List.forall_mem_cons.mpr ⟨lw_p9, List.forall_mem_cons.mpr ⟨lw_p10, List.forall_mem_cons.mpr ⟨lw_p11, List.forall_mem_cons.mpr ⟨lw_p12, List.forall_mem_cons.mpr ⟨lw_p13, List.forall_mem_cons.mpr ⟨lw_p14, List.forall_mem_cons.mpr ⟨lw_p15, fun _ h => absurd h List.not_mem_nil⟩⟩⟩⟩⟩⟩⟩⟩⟩⟩⟩⟩⟩⟩⟩⟩
theorem lw_p16 : lw_okq (⟨"FiveDice", "isFilled", "(I)Z"⟩, 18) := ⟨⟨by decide +kernel, by decide +kernel⟩, List.mem_of_getElem? (i := 15) (by decide +kernel), List.mem_of_getElem? (i := 506) (by decide +kernel), List.mem_of_getElem? (i := 507) (by decide +kernel)⟩
theorem lw_p17 : lw_okq (⟨"FiveDice$Chances", "makeReady", "()V"⟩, 8) := ⟨⟨by decide +kernel, by decide +kernel⟩, List.mem_of_getElem? (i := 154) (by decide +kernel), List.mem_of_getElem? (i := 555) (by decide +kernel), List.mem_of_getElem? (i := 556) (by decide +kernel)⟩
theorem lw_p18 : lw_okq (⟨"FiveDice$Chances", "measureSheets", "()I"⟩, 8) := ⟨⟨by decide +kernel, by decide +kernel⟩, List.mem_of_getElem? (i := 154) (by decide +kernel), List.mem_of_getElem? (i := 559) (by decide +kernel), List.mem_of_getElem? (i := 560) (by decide +kernel)⟩
theorem lw_p19 : lw_okq (⟨"FiveDice$Chances", "leastOfRow", "(I)I"⟩, 8) := ⟨⟨by decide +kernel, by decide +kernel⟩, List.mem_of_getElem? (i := 154) (by decide +kernel), List.mem_of_getElem? (i := 564) (by decide +kernel), List.mem_of_getElem? (i := 565) (by decide +kernel)⟩
theorem lw_p20 : lw_okq (⟨"FiveDice$Chances", "mostOfRow", "(I)I"⟩, 8) := ⟨⟨by decide +kernel, by decide +kernel⟩, List.mem_of_getElem? (i := 154) (by decide +kernel), List.mem_of_getElem? (i := 572) (by decide +kernel), List.mem_of_getElem? (i := 573) (by decide +kernel)⟩
theorem lw_p21 : lw_okq (⟨"FiveDice$Chances", "ofSheet", "(III)J"⟩, 8) := ⟨⟨by decide +kernel, by decide +kernel⟩, List.mem_of_getElem? (i := 154) (by decide +kernel), List.mem_of_getElem? (i := 579) (by decide +kernel), List.mem_of_getElem? (i := 580) (by decide +kernel)⟩
theorem lw_p22 : lw_okq (⟨"FiveDice$Chances", "layGround", "(III)V"⟩, 8) := ⟨⟨by decide +kernel, by decide +kernel⟩, List.mem_of_getElem? (i := 154) (by decide +kernel), List.mem_of_getElem? (i := 584) (by decide +kernel), List.mem_of_getElem? (i := 585) (by decide +kernel)⟩
theorem lw_p23 : lw_okq (⟨"FiveDiceModel", "power", "(JI)J"⟩, 32) := ⟨⟨by decide +kernel, by decide +kernel⟩, List.mem_of_getElem? (i := 631) (by decide +kernel), List.mem_of_getElem? (i := 751) (by decide +kernel), List.mem_of_getElem? (i := 752) (by decide +kernel)⟩
theorem lw_p24 : lw_okq (⟨"FiveDiceModel", "isLarge", "()Z"⟩, 32) := ⟨⟨by decide +kernel, by decide +kernel⟩, List.mem_of_getElem? (i := 631) (by decide +kernel), List.mem_of_getElem? (i := 755) (by decide +kernel), List.mem_of_getElem? (i := 756) (by decide +kernel)⟩
theorem lw_p25 : lw_okq (⟨"FiveDiceModel", "findHeaps", "()V"⟩, 32) := ⟨⟨by decide +kernel, by decide +kernel⟩, List.mem_of_getElem? (i := 631) (by decide +kernel), List.mem_of_getElem? (i := 760) (by decide +kernel), List.mem_of_getElem? (i := 761) (by decide +kernel)⟩
theorem lw_p26 : lw_okq (⟨"FiveDiceModel", "placeOf", "([II)I"⟩, 32) := ⟨⟨by decide +kernel, by decide +kernel⟩, List.mem_of_getElem? (i := 631) (by decide +kernel), List.mem_of_getElem? (i := 764) (by decide +kernel), List.mem_of_getElem? (i := 765) (by decide +kernel)⟩
theorem lw_p27 : lw_okq (⟨"FiveDiceModel", "pointsIn", "(II)I"⟩, 32) := ⟨⟨by decide +kernel, by decide +kernel⟩, List.mem_of_getElem? (i := 631) (by decide +kernel), List.mem_of_getElem? (i := 768) (by decide +kernel), List.mem_of_getElem? (i := 769) (by decide +kernel)⟩
theorem lw_p28 : lw_okq (⟨"FiveDiceModel", "findWorths", "(I)V"⟩, 32) := ⟨⟨by decide +kernel, by decide +kernel⟩, List.mem_of_getElem? (i := 631) (by decide +kernel), List.mem_of_getElem? (i := 772) (by decide +kernel), List.mem_of_getElem? (i := 773) (by decide +kernel)⟩
theorem lw_p29 : lw_okq (⟨"FiveDiceModel", "bestRowOf", "(II)J"⟩, 32) := ⟨⟨by decide +kernel, by decide +kernel⟩, List.mem_of_getElem? (i := 631) (by decide +kernel), List.mem_of_getElem? (i := 776) (by decide +kernel), List.mem_of_getElem? (i := 777) (by decide +kernel)⟩
theorem lw_p30 : lw_okq (⟨"FiveDiceModel", "open", "(I)I"⟩, 32) := ⟨⟨by decide +kernel, by decide +kernel⟩, List.mem_of_getElem? (i := 631) (by decide +kernel), List.mem_of_getElem? (i := 780) (by decide +kernel), List.mem_of_getElem? (i := 781) (by decide +kernel)⟩
theorem lw_p31 : lw_okq (⟨"FiveDiceModel", "unitOf", "(I)J"⟩, 32) := ⟨⟨by decide +kernel, by decide +kernel⟩, List.mem_of_getElem? (i := 631) (by decide +kernel), List.mem_of_getElem? (i := 784) (by decide +kernel), List.mem_of_getElem? (i := 785) (by decide +kernel)⟩
def lw_privs_2 : List (MethodName × Nat) := [(⟨"FiveDice", "isFilled", "(I)Z"⟩, 18), (⟨"FiveDice$Chances", "makeReady", "()V"⟩, 8), (⟨"FiveDice$Chances", "measureSheets", "()I"⟩, 8), (⟨"FiveDice$Chances", "leastOfRow", "(I)I"⟩, 8), (⟨"FiveDice$Chances", "mostOfRow", "(I)I"⟩, 8), (⟨"FiveDice$Chances", "ofSheet", "(III)J"⟩, 8), (⟨"FiveDice$Chances", "layGround", "(III)V"⟩, 8), (⟨"FiveDiceModel", "power", "(JI)J"⟩, 32), (⟨"FiveDiceModel", "isLarge", "()Z"⟩, 32), (⟨"FiveDiceModel", "findHeaps", "()V"⟩, 32), (⟨"FiveDiceModel", "placeOf", "([II)I"⟩, 32), (⟨"FiveDiceModel", "pointsIn", "(II)I"⟩, 32), (⟨"FiveDiceModel", "findWorths", "(I)V"⟩, 32), (⟨"FiveDiceModel", "bestRowOf", "(II)J"⟩, 32), (⟨"FiveDiceModel", "open", "(I)I"⟩, 32), (⟨"FiveDiceModel", "unitOf", "(I)J"⟩, 32)]
theorem lw_r2 : ∀ q ∈ lw_privs_2, lw_okq q := List.forall_mem_cons.mpr ⟨lw_p16, List.forall_mem_cons.mpr ⟨lw_p17, List.forall_mem_cons.mpr ⟨lw_p18, List.forall_mem_cons.mpr ⟨lw_p19, List.forall_mem_cons.mpr ⟨lw_p20, List.forall_mem_cons.mpr ⟨lw_p21, List.forall_mem_cons.mpr ⟨lw_p22, List.forall_mem_cons.mpr ⟨lw_p23, List.forall_mem_cons.mpr ⟨lw_p24, List.forall_mem_cons.mpr ⟨lw_p25, List.forall_mem_cons.mpr ⟨lw_p26, List.forall_mem_cons.mpr ⟨lw_p27, List.forall_mem_cons.mpr ⟨lw_p28, List.forall_mem_cons.mpr ⟨lw_p29, List.forall_mem_cons.mpr ⟨lw_p30, List.forall_mem_cons.mpr ⟨lw_p31, fun _ h => absurd h List.not_mem_nil⟩⟩⟩⟩⟩⟩⟩⟩⟩⟩⟩⟩⟩⟩⟩⟩
theorem lw_p32 : lw_okq (⟨"FiveDiceModel", "findTurn", "()V"⟩, 32) := ⟨⟨by decide +kernel, by decide +kernel⟩, List.mem_of_getElem? (i := 631) (by decide +kernel), List.mem_of_getElem? (i := 789) (by decide +kernel), List.mem_of_getElem? (i := 790) (by decide +kernel)⟩
theorem lw_p33 : lw_okq (⟨"FiveDiceModel", "findThrown", "(I)V"⟩, 32) := ⟨⟨by decide +kernel, by decide +kernel⟩, List.mem_of_getElem? (i := 631) (by decide +kernel), List.mem_of_getElem? (i := 793) (by decide +kernel), List.mem_of_getElem? (i := 794) (by decide +kernel)⟩
theorem lw_p34 : lw_okq (⟨"FiveDiceModel", "isPart", "(II)Z"⟩, 32) := ⟨⟨by decide +kernel, by decide +kernel⟩, List.mem_of_getElem? (i := 631) (by decide +kernel), List.mem_of_getElem? (i := 797) (by decide +kernel), List.mem_of_getElem? (i := 798) (by decide +kernel)⟩
theorem lw_p35 : lw_okq (⟨"FiveDiceModel", "mayFall", "()Z"⟩, 32) := ⟨⟨by decide +kernel, by decide +kernel⟩, List.mem_of_getElem? (i := 631) (by decide +kernel), List.mem_of_getElem? (i := 809) (by decide +kernel), List.mem_of_getElem? (i := 810) (by decide +kernel)⟩
theorem lw_p36 : lw_okq (⟨"FiveDiceModel", "isOver", "()Z"⟩, 32) := ⟨⟨by decide +kernel, by decide +kernel⟩, List.mem_of_getElem? (i := 631) (by decide +kernel), List.mem_of_getElem? (i := 813) (by decide +kernel), List.mem_of_getElem? (i := 814) (by decide +kernel)⟩
theorem lw_p37 : lw_okq (⟨"FiveDiceModel", "came", "(I)I"⟩, 32) := ⟨⟨by decide +kernel, by decide +kernel⟩, List.mem_of_getElem? (i := 631) (by decide +kernel), List.mem_of_getElem? (i := 817) (by decide +kernel), List.mem_of_getElem? (i := 818) (by decide +kernel)⟩
theorem lw_p38 : lw_okq (⟨"FiveDiceModel", "stand", "()J"⟩, 32) := ⟨⟨by decide +kernel, by decide +kernel⟩, List.mem_of_getElem? (i := 631) (by decide +kernel), List.mem_of_getElem? (i := 821) (by decide +kernel), List.mem_of_getElem? (i := 822) (by decide +kernel)⟩
theorem lw_p39 : lw_okq (⟨"FiveDiceModel", "worthHere", "()J"⟩, 32) := ⟨⟨by decide +kernel, by decide +kernel⟩, List.mem_of_getElem? (i := 631) (by decide +kernel), List.mem_of_getElem? (i := 825) (by decide +kernel), List.mem_of_getElem? (i := 826) (by decide +kernel)⟩
theorem lw_p40 : lw_okq (⟨"FiveDiceModel", "holdWorth", "(I)J"⟩, 32) := ⟨⟨by decide +kernel, by decide +kernel⟩, List.mem_of_getElem? (i := 631) (by decide +kernel), List.mem_of_getElem? (i := 829) (by decide +kernel), List.mem_of_getElem? (i := 830) (by decide +kernel)⟩
theorem lw_p41 : lw_okq (⟨"FiveDiceModel", "unitHere", "()J"⟩, 32) := ⟨⟨by decide +kernel, by decide +kernel⟩, List.mem_of_getElem? (i := 631) (by decide +kernel), List.mem_of_getElem? (i := 833) (by decide +kernel), List.mem_of_getElem? (i := 834) (by decide +kernel)⟩
theorem lw_p42 : lw_okq (⟨"FiveDiceModel", "mayHold", "()Z"⟩, 32) := ⟨⟨by decide +kernel, by decide +kernel⟩, List.mem_of_getElem? (i := 631) (by decide +kernel), List.mem_of_getElem? (i := 847) (by decide +kernel), List.mem_of_getElem? (i := 848) (by decide +kernel)⟩
theorem lw_p43 : lw_okq (⟨"FiveDiceModel", "heldOf", "(I)I"⟩, 32) := ⟨⟨by decide +kernel, by decide +kernel⟩, List.mem_of_getElem? (i := 631) (by decide +kernel), List.mem_of_getElem? (i := 851) (by decide +kernel), List.mem_of_getElem? (i := 852) (by decide +kernel)⟩
theorem lw_p44 : lw_okq (⟨"FiveDiceModel", "heapOf", "(I)I"⟩, 32) := ⟨⟨by decide +kernel, by decide +kernel⟩, List.mem_of_getElem? (i := 631) (by decide +kernel), List.mem_of_getElem? (i := 855) (by decide +kernel), List.mem_of_getElem? (i := 856) (by decide +kernel)⟩
theorem lw_p45 : lw_okq (⟨"FiveDiceModel", "isBetter", "(II)Z"⟩, 32) := ⟨⟨by decide +kernel, by decide +kernel⟩, List.mem_of_getElem? (i := 631) (by decide +kernel), List.mem_of_getElem? (i := 881) (by decide +kernel), List.mem_of_getElem? (i := 882) (by decide +kernel)⟩
theorem lw_p46 : lw_okq (⟨"FiveDiceModel", "wants", "(II)I"⟩, 32) := ⟨⟨by decide +kernel, by decide +kernel⟩, List.mem_of_getElem? (i := 631) (by decide +kernel), List.mem_of_getElem? (i := 893) (by decide +kernel), List.mem_of_getElem? (i := 894) (by decide +kernel)⟩
theorem lw_p47 : lw_okq (⟨"FiveDiceModel", "ask", "(II)V"⟩, 32) := ⟨⟨by decide +kernel, by decide +kernel⟩, List.mem_of_getElem? (i := 631) (by decide +kernel), List.mem_of_getElem? (i := 897) (by decide +kernel), List.mem_of_getElem? (i := 898) (by decide +kernel)⟩
def lw_privs_3 : List (MethodName × Nat) := [(⟨"FiveDiceModel", "findTurn", "()V"⟩, 32), (⟨"FiveDiceModel", "findThrown", "(I)V"⟩, 32), (⟨"FiveDiceModel", "isPart", "(II)Z"⟩, 32), (⟨"FiveDiceModel", "mayFall", "()Z"⟩, 32), (⟨"FiveDiceModel", "isOver", "()Z"⟩, 32), (⟨"FiveDiceModel", "came", "(I)I"⟩, 32), (⟨"FiveDiceModel", "stand", "()J"⟩, 32), (⟨"FiveDiceModel", "worthHere", "()J"⟩, 32), (⟨"FiveDiceModel", "holdWorth", "(I)J"⟩, 32), (⟨"FiveDiceModel", "unitHere", "()J"⟩, 32), (⟨"FiveDiceModel", "mayHold", "()Z"⟩, 32), (⟨"FiveDiceModel", "heldOf", "(I)I"⟩, 32), (⟨"FiveDiceModel", "heapOf", "(I)I"⟩, 32), (⟨"FiveDiceModel", "isBetter", "(II)Z"⟩, 32), (⟨"FiveDiceModel", "wants", "(II)I"⟩, 32), (⟨"FiveDiceModel", "ask", "(II)V"⟩, 32)]
theorem lw_r3 : ∀ q ∈ lw_privs_3, lw_okq q := List.forall_mem_cons.mpr ⟨lw_p32, List.forall_mem_cons.mpr ⟨lw_p33, List.forall_mem_cons.mpr ⟨lw_p34, List.forall_mem_cons.mpr ⟨lw_p35, List.forall_mem_cons.mpr ⟨lw_p36, List.forall_mem_cons.mpr ⟨lw_p37, List.forall_mem_cons.mpr ⟨lw_p38, List.forall_mem_cons.mpr ⟨lw_p39, List.forall_mem_cons.mpr ⟨lw_p40, List.forall_mem_cons.mpr ⟨lw_p41, List.forall_mem_cons.mpr ⟨lw_p42, List.forall_mem_cons.mpr ⟨lw_p43, List.forall_mem_cons.mpr ⟨lw_p44, List.forall_mem_cons.mpr ⟨lw_p45, List.forall_mem_cons.mpr ⟨lw_p46, List.forall_mem_cons.mpr ⟨lw_p47, fun _ h => absurd h List.not_mem_nil⟩⟩⟩⟩⟩⟩⟩⟩⟩⟩⟩⟩⟩⟩⟩⟩
theorem lw_p48 : lw_okq (⟨"FiveDiceModel", "chanceOf", "(III)J"⟩, 32) := ⟨⟨by decide +kernel, by decide +kernel⟩, List.mem_of_getElem? (i := 631) (by decide +kernel), List.mem_of_getElem? (i := 901) (by decide +kernel), List.mem_of_getElem? (i := 902) (by decide +kernel)⟩
theorem lw_p49 : lw_okq (⟨"FiveDiceModel", "findChanceTurn", "(II)V"⟩, 32) := ⟨⟨by decide +kernel, by decide +kernel⟩, List.mem_of_getElem? (i := 631) (by decide +kernel), List.mem_of_getElem? (i := 905) (by decide +kernel), List.mem_of_getElem? (i := 906) (by decide +kernel)⟩
def lw_privs_4 : List (MethodName × Nat) := [(⟨"FiveDiceModel", "chanceOf", "(III)J"⟩, 32), (⟨"FiveDiceModel", "findChanceTurn", "(II)V"⟩, 32)]
theorem lw_r4 : ∀ q ∈ lw_privs_4, lw_okq q := List.forall_mem_cons.mpr ⟨lw_p48, List.forall_mem_cons.mpr ⟨lw_p49, fun _ h => absurd h List.not_mem_nil⟩⟩
def lw_privs : List (MethodName × Nat) := lw_privs_1 ++ (lw_privs_2 ++ (lw_privs_3 ++ (lw_privs_4)))
def lw_tbl : List Cond := k2_sels lw_privs ++ tables_1
theorem lw_privs_ok : ∀ q ∈ lw_privs, lw_okq q := by
  show ∀ q ∈ lw_privs_1 ++ (lw_privs_2 ++ (lw_privs_3 ++ (lw_privs_4))), lw_okq q
  exact List.forall_mem_append.mpr ⟨lw_r1, List.forall_mem_append.mpr ⟨lw_r2, List.forall_mem_append.mpr ⟨lw_r3, lw_r4⟩⟩⟩
end
section
def va_AOA (ty : FieldType) (U : State) : Prop := (Cond.arrayOver (.array ty)).before #[] U = true
theorem va_AOA.use {ty : FieldType} {U : State} {A : Array Value} (h : va_AOA ty U) : (Cond.arrayOver (.array ty)).before A U = true := h
/-! ===== BEGIN words of one list among another's, by their places ===== -/
theorem goodIn_r {big : List Cond} (ws : List Cond) (ps : List Nat) (hp : ws = ps.filterMap (fun i => big[i]?)) (h : ws.all goodWord = true) : GoodIn big ws := by
  intro w hw
  have h1 := List.all_eq_true.mp h w hw
  rw [hp] at hw
  obtain ⟨i, -, hi⟩ := List.mem_filterMap.mp hw
  have hm : w ∈ big := by first | exact List.mem_of_getElem? hi | exact List.getElem?_mem hi
  exact ⟨hm, good_of_word h1⟩
theorem goodIn_app {big a b : List Cond} (ha : GoodIn big a) (hb : GoodIn big b) : GoodIn big (a ++ b) := fun w h => (List.mem_append.mp h).elim (ha w) (hb w)
theorem goodIn_ca {big a b : List Cond} {c : Cond} (ha : GoodIn big (c :: a)) (hb : GoodIn big b) : GoodIn big (c :: (a ++ b)) := fun w h => (List.mem_cons.mp h).elim (fun e => ha w (List.mem_cons.mpr (Or.inl e))) (fun h => (List.mem_append.mp h).elim (fun h => ha w (List.mem_cons.mpr (Or.inr h))) (hb w))
theorem goodIn_sub {big ws : List Cond} (hm : ∀ w ∈ ws, w ∈ big) (h : ws.all goodWord = true) : GoodIn big ws := fun w hw => ⟨hm w hw, good_of_word (List.all_eq_true.mp h w hw)⟩
/-! ===== END ===== -/

/-! ===== BEGIN new T[n][m]: the outer array a place, the inner ones among the pooled ===== -/
/-- f, but v at every address of l -/
def vr_up {α : Type} (f : Nat → α) (l : List Nat) (v : α) : Nat → α := fun a => if a ∈ l then v else f a
theorem vr_up_in {α : Type} {f : Nat → α} {l : List Nat} {v : α} {a : Nat} (h : a ∈ l) : vr_up f l v a = v := if_pos h
theorem vr_up_ne {α : Type} {f : Nat → α} {l : List Nat} {v : α} {a : Nat} (h : a ∉ l) : vr_up f l v a = f a := if_neg h
theorem vr_rows {L l : List Nat} {f : Nat → va_E} {e : va_E} (h : ∀ a, a ∈ l → a ∉ L) : va_pl L f ++ l.map (fun a => (a, e)) = va_pl (L ++ l) (vr_up f l e) := by
  unfold va_pl
  rw [List.map_append]
  congr 1
  · apply List.map_congr_left
    intro a ha
    rw [vr_up_ne (fun q => h a q ha)]
  · apply List.map_congr_left
    intro a ha
    rw [vr_up_in ha]
theorem vr_lay {X rows : va_W} {x : Nat × va_E} {pl : va_W} {D : va_G} {cl : List vw_C} {H : Heap} (hP : va_P D cl (((X ++ pl) ++ [x]) ++ rows) H) : va_P D cl ((X ++ [x]) ++ (pl ++ rows)) H := by
  rw [List.append_assoc (X ++ pl)] at hP
  have h := va_P.swap hP
  rw [← List.append_assoc X] at h
  have h2 := va_P.swap h
  rw [List.append_assoc (X ++ [x])] at h2
  exact h2
theorem vr_layD {X rows : va_W} {x : Nat × va_E} {pl : va_W} {A : Nat → Prop} (hD : va_D A (((X ++ pl) ++ [x]) ++ rows)) : va_D A ((X ++ [x]) ++ (pl ++ rows)) := by
  rw [List.append_assoc (X ++ pl)] at hD
  have h := va_D.swap hD
  rw [← List.append_assoc X] at h
  have h2 := va_D.swap h
  rw [List.append_assoc (X ++ [x])] at h2
  exact h2
theorem vr_outer (c : ClassId) (N h0 : Nat) : ∀ i : Nat, Jvm.Free.Multi.outerC c N h0 i = arrV c N (fun j => va_rf (if j < i then some (h0 + 1 + j) else none))
  | 0 => by
    show ({ cls := c, slots := Array.replicate N .null, vm := .none } : Cell) = _
    rw [arrV_new]
    refine congrArg (arrV c N) (funext fun j => ?_)
    simp [va_rf]
  | i + 1 => by
    show (Jvm.Free.Multi.outerC c N h0 i).setSlot i (.ref (h0 + 1 + i)) = _
    rw [vr_outer c N h0 i, arrV_store]
    refine congrArg (arrV c N) (funext fun j => ?_)
    by_cases e : j = i
    · subst e
      simp [updV, va_rf]
    · by_cases h : j < i
      · simp [updV, e, h, Nat.lt_succ_of_lt h]
      · simp [updV, e, h, show ¬ j < i + 1 by omega]
section VGM
variable {p : Program} {l : Launch} {e : Env} {R : Room} {s : State} {m : MethodId} {args : Array Value} {below : List Frame} {meth : Method} {c : Code} {H : Heap} {locs : List Loc} {cells slots : Nat} {Q : State → Prop}
variable {cc : ByteArray} {pc : Nat} {ls : Array Slot} {rest : List Value} {D : va_G} {cl : List vw_C} {A : Nat → Prop} {a : Nat} {tys : List (ClassId × FieldType)} {ws : va_W} {H0 : Heap}
theorem va_mna {X : va_W} {L : List Nat} {f : Nat → va_E} {cc : ByteArray} (hexec : p.tables.exec = Jvm.exec) (hb : c.code = cc) {own : String} {index : Nat} {ty : FieldType} {cy : ClassId} (hown : s.vm.findClass own = some m.cls) (hclink : (Cond.classLink own index ("[" ++ (FieldType.array ty).toString)).before args s = true) (hover : va_AOA ty s) (harr : (Cond.arrayClass ty).before args s = true) (hcy : s.vm.findClass (FieldType.array ty).toString = some cy)
    (hK : va_K D cl tys s) (hP : va_P D cl (X ++ va_pl L f) H) (hD : va_D A (X ++ va_pl L f)) (hS : va_S A H0 H locs) (hA : ∀ q, H0.size ≤ q → A q) {n k : Int32} {N' K' : Nat} {z : vp_A} (hn : ¬ n < 0) (hk : ¬ k < 0) (hN : n.toNatClampNeg = N') (hM : k.toNatClampNeg = K')
    (hb1 : N' * 4 ≤ 536870912) (hb2 : K' * componentBytes ty ≤ 536870912) (hb3 : K' ≤ 536870912) (hdf : fits ty (defaultValue ty) = true) (hdd : (defaultValue ty).isDefault = true) (hcells : cells + (1 + N') ≤ R.cells) (hslots : slots + (N' + N' * K') ≤ R.slots) (hz : ∀ c : ClassId, Jvm.Free.Multi.innerC c K' (defaultValue ty) = vp_cell c z) (hdg : decode cc pc = .ok (.multianewarray index 2, 4))
    (kk : ∀ (q : Nat) (r : Nat → Nat) (cA : ClassId) (H1 : Heap), (∀ i j : Nat, i < N' → j < N' → r i = r j → i = j) → (∀ i : Nat, i < N' → r i ∉ L) → va_K D cl (tys ++ [(cA, .array ty)]) s →
      va_P D cl ((X ++ [(q, .inl (cA, N', .inr (.inr (.inr (.inr (fun i => if i < N' then some (r i) else none))))))]) ++ va_pl (L ++ (List.range N').map r) (vr_up f ((List.range N').map r) (.inl (cy, z)))) H1 → va_D A ((X ++ [(q, .inl (cA, N', .inr (.inr (.inr (.inr (fun i => if i < N' then some (r i) else none))))))]) ++ va_pl (L ++ (List.range N').map r) (vr_up f ((List.range N').map r) (.inl (cy, z)))) → va_S A H0 H1 locs →
      W p l e R s m args below meth c H1 locs (cells + 1 + N') (slots + N' + N' * K') Q (F0 m (pc + 4) ls (.ref q :: rest))) : W p l e R s m args below meth c H locs cells slots Q (F0 m pc ls (.int k :: .int n :: rest)) := by
  subst hN
  subst hM
  intro T hT Xs
  obtain ⟨vm₁, cA, comp, -, fA, fC, hO, -, X', step⟩ := Xs.multianewarray2F hexec hown hclink (va_AOA.use hover) harr (g := F0 m pc ls (.int k :: .int n :: rest)) rfl (by rw [hb]; exact hdg) rfl hn hk hb1 hb2 hb3 hdf hdd hcells hslots
  have ec : some cy = some comp := hcy.symm.trans fC
  cases ec
  generalize hF : Jvm.Free.Multi.fill (T.setVm vm₁) cA cy n.toNatClampNeg k.toNatClampNeg (defaultValue ty) n.toNatClampNeg = F at X' step
  have hTh : (T.setVm vm₁).heap = H := hT
  obtain ⟨f1, f2, -, -⟩ := Jvm.Free.Multi.fill_facts (T.setVm vm₁) cA cy n.toNatClampNeg k.toNatClampNeg (defaultValue ty) n.toNatClampNeg
  rw [hF, hTh] at f1 f2
  have hold : ∀ x : Nat, x < H.size → F.heap[x]? = H[x]? := fun x hx => by
    have := Jvm.Free.Multi.fill_old (T.setVm vm₁) cA cy n.toNatClampNeg k.toNatClampNeg (defaultValue ty) (a := x) (by rw [hTh]; exact hx) n.toNatClampNeg
    rw [hF, hTh] at this
    exact this
  have hrow : ∀ j : Nat, j < n.toNatClampNeg → F.heap[H.size + 1 + j]? = some (vp_cell cy z) := fun j hj => by
    have := Jvm.Free.Multi.fill_inner (T.setVm vm₁) cA cy n.toNatClampNeg k.toNatClampNeg (defaultValue ty) n.toNatClampNeg j hj
    rw [hF, hTh, hz] at this
    exact this
  have hout : Jvm.Free.Multi.outerC cA n.toNatClampNeg H.size n.toNatClampNeg = vp_cell cA (n.toNatClampNeg, .inr (.inr (.inr (.inr (fun i => if i < n.toNatClampNeg then some (H.size + 1 + i) else none))))) := by
    rw [vp_cell_q]
    exact vr_outer cA n.toNatClampNeg H.size n.toNatClampNeg
  rw [hout] at f2
  have hlt : ∀ a, a ∈ L → a < H.size := fun a ha => by
    obtain ⟨k9, hk9⟩ := va_pl_get (X := X) (f := f) ha
    exact (hP k9 _ hk9).lt
  have hnl : ∀ i : Nat, i < n.toNatClampNeg → H.size + 1 + i ∉ L := fun i _ h => by
    have := hlt _ h
    omega
  have hnm : ∀ a, a ∈ (List.range n.toNatClampNeg).map (fun i => H.size + 1 + i) → a ∉ L := fun a ha h => by
    obtain ⟨i, -, rfl⟩ := List.mem_map.mp ha
    have := hlt _ h
    omega
  have hP0 : va_P D cl (X ++ va_pl L f) F.heap := hP.kept (fun k9 x hx => hold x.1 ((hP k9 x hx).lt))
  have hP1 : va_P D cl ((X ++ va_pl L f) ++ [(H.size, .inl (cA, n.toNatClampNeg, .inr (.inr (.inr (.inr (fun i => if i < n.toNatClampNeg then some (H.size + 1 + i) else none))))))]) F.heap := hP0.app (fun k9 x hx => by
    have h0 : k9 < 1 := (List.getElem?_eq_some_iff.mp hx).1
    rw [show k9 = 0 by omega] at hx
    cases hx
    exact f2)
  have hP2 : va_P D cl (((X ++ va_pl L f) ++ [(H.size, .inl (cA, n.toNatClampNeg, .inr (.inr (.inr (.inr (fun i => if i < n.toNatClampNeg then some (H.size + 1 + i) else none))))))]) ++ ((List.range n.toNatClampNeg).map (fun i => H.size + 1 + i)).map (fun a => (a, .inl (cy, z)))) F.heap := hP1.app (fun k9 x hx => by
    obtain ⟨a, ha, rfl⟩ := List.mem_map.mp (List.mem_of_getElem? hx)
    obtain ⟨i, hi, rfl⟩ := List.mem_map.mp ha
    exact hrow i (List.mem_range.mp hi))
  have hD2 : va_D A (((X ++ va_pl L f) ++ [(H.size, .inl (cA, n.toNatClampNeg, .inr (.inr (.inr (.inr (fun i => if i < n.toNatClampNeg then some (H.size + 1 + i) else none))))))]) ++ ((List.range n.toNatClampNeg).map (fun i => H.size + 1 + i)).map (fun a => (a, .inl (cy, z)))) := by
    have hD1 := hD.push (e := .inl (cA, n.toNatClampNeg, .inr (.inr (.inr (.inr (fun i => if i < n.toNatClampNeg then some (H.size + 1 + i) else none)))))) hP rfl (hA _ hS.1)
    generalize hW1 : (X ++ va_pl L f) ++ [(H.size, .inl (cA, n.toNatClampNeg, .inr (.inr (.inr (.inr (fun i => if i < n.toNatClampNeg then some (H.size + 1 + i) else none))))))] = W1 at hD1 hP1 ⊢
    have hle : ∀ (k9 : Nat) (x : Nat × va_E), W1[k9]? = some x → x.1 ≤ H.size := fun k9 x hx => by
      rw [← hW1] at hx
      by_cases hl : k9 < (X ++ va_pl L f).length
      · rw [List.getElem?_append_left hl] at hx
        exact Nat.le_of_lt ((hP k9 x hx).lt)
      · rw [List.getElem?_append_right (by omega)] at hx
        have h0 : k9 - (X ++ va_pl L f).length < 1 := (List.getElem?_eq_some_iff.mp hx).1
        rw [show k9 - (X ++ va_pl L f).length = 0 by omega] at hx
        cases hx
        exact Nat.le_refl _
    have hr : ∀ (k9 : Nat) (x : Nat × va_E), (((List.range n.toNatClampNeg).map (fun i => H.size + 1 + i)).map (fun a => ((a, .inl (cy, z)) : Nat × va_E)))[k9]? = some x → x.1 = H.size + 1 + k9 := fun k9 x hx => by
      rw [List.getElem?_map, List.getElem?_map] at hx
      by_cases h9 : k9 < n.toNatClampNeg
      · rw [List.getElem?_range h9] at hx
        cases hx
        rfl
      · have hn0 : (List.range n.toNatClampNeg)[k9]? = none := List.getElem?_eq_none (by rw [List.length_range]; omega)
        rw [hn0] at hx
        cases hx
    refine ⟨fun i j x y hi hj hxy => ?_, fun k9 x hx => ?_⟩
    · by_cases h1 : i < W1.length <;> by_cases h2 : j < W1.length
      · rw [List.getElem?_append_left h1] at hi
        rw [List.getElem?_append_left h2] at hj
        exact hD1.1 i j x y hi hj hxy
      · rw [List.getElem?_append_left h1] at hi
        rw [List.getElem?_append_right (by omega)] at hj
        have := hle _ _ hi
        have := hr _ _ hj
        omega
      · rw [List.getElem?_append_right (by omega)] at hi
        rw [List.getElem?_append_left h2] at hj
        have := hle _ _ hj
        have := hr _ _ hi
        omega
      · rw [List.getElem?_append_right (by omega)] at hi hj
        have := hr _ _ hi
        have := hr _ _ hj
        omega
    · by_cases h1 : k9 < W1.length
      · rw [List.getElem?_append_left h1] at hx
        exact hD1.2 k9 x hx
      · rw [List.getElem?_append_right (by omega)] at hx
        have := hr _ _ hx
        exact hA _ (by have := hS.1; omega)
  have hAr : ArrOfT s cA (.array ty) := fun N9 z9 => by
    obtain ⟨-, k9, hk9, cm9, hkk9⟩ := (hO 0 0 0).1
    exact ⟨(fun q hq => by cases hq), k9, hk9, cm9, hkk9⟩
  have hK2 : va_K D cl (tys ++ [(cA, .array ty)]) s := ⟨hK.1, fun k9 x hx => by
    by_cases hl : k9 < tys.length
    · rw [List.getElem?_append_left hl] at hx
      exact hK.2 k9 x hx
    · rw [List.getElem?_append_right (by omega)] at hx
      have h0 : k9 - tys.length < 1 := (List.getElem?_eq_some_iff.mp hx).1
      rw [show k9 - tys.length = 0 by omega] at hx
      cases hx
      exact ⟨hAr, fA⟩⟩
  obtain ⟨t, a1, b1⟩ := kk H.size (fun i => H.size + 1 + i) cA F.heap (fun i j _ _ h => by have h9 : H.size + 1 + i = H.size + 1 + j := h; omega) hnl hK2 (by rw [← vr_rows hnm]; exact vr_lay hP2) (by rw [← vr_rows hnm]; exact vr_layD hD2) ⟨by rw [f1]; have := hS.1; omega, fun x h1 h2 => (hold x (Nat.lt_of_lt_of_le h1 hS.1)).trans (hS.2.1 x h1 h2), hS.2.2⟩ F rfl X'
  refine ⟨t, step t ?_, b1⟩
  have e : T.heap.size = H.size := by rw [hT]
  rw [e]
  exact a1
end VGM
/-! ===== END ===== -/

def RX0 : String := "FiveDice$Chances"
def TX0 : u_T := fun k => match k with
  | 0 => ("FiveDice$Chances", "game", "LFiveDice$Game;", true)
  | 1 => ("FiveDice$Chances", "turn", "LFiveDice$Turn;", true)
  | 2 => ("FiveDice$Chances", "least", "[I", true)
  | 3 => ("FiveDice$Chances", "most", "[I", true)
  | 4 => ("FiveDice$Chances", "start", "[I", true)
  | 5 => ("FiveDice$Chances", "grounds", "[J", true)
  | 6 => ("FiveDice$Chances", "kept", "[J", false)
  | _ => ("FiveDice$Chances", "ready", "Z", false)
def tyX0 : Nat → FieldType := fun k => match k with
  | 0 => .object "FiveDice$Game"
  | 1 => .object "FiveDice$Turn"
  | 2 => .array .int
  | 3 => .array .int
  | 4 => .array .int
  | 5 => .array .long
  | 6 => .array .long
  | _ => .boolean
theorem nmX0 : ∀ a, a < 8 → ∀ b, b < 8 → a ≠ b → (TX0 a).2.1 ≠ (TX0 b).2.1 := by decide +kernel
theorem tyX0_ok : ∀ k, k < 8 → parseFieldDescriptor (TX0 k).2.2.1 = some (tyX0 k) := by decide +kernel
abbrev cX0_init : ByteArray := prog_2_method_1_code
def yX0_init : MethodName := ⟨RX0, "<init>", "(LFiveDice$Game;)V"⟩
abbrev cX0_forget : ByteArray := prog_2_method_2_code
def yX0_forget : MethodName := ⟨RX0, "forget", "()V"⟩
abbrev cX0_beforeTurn : ByteArray := prog_2_method_3_code
def yX0_beforeTurn : MethodName := ⟨RX0, "beforeTurn", "(II)J"⟩
abbrev cX0_inTurn : ByteArray := prog_2_method_4_code
def yX0_inTurn : MethodName := ⟨RX0, "inTurn", "(III)LFiveDice$Turn;"⟩
abbrev cX0_makeReady : ByteArray := prog_2_method_5_code
def yX0_makeReady : MethodName := ⟨RX0, "makeReady", "()V"⟩
abbrev cX0_measureSheets : ByteArray := prog_2_method_6_code
def yX0_measureSheets : MethodName := ⟨RX0, "measureSheets", "()I"⟩
abbrev cX0_leastOfRow : ByteArray := prog_2_method_7_code
def yX0_leastOfRow : MethodName := ⟨RX0, "leastOfRow", "(I)I"⟩
abbrev cX0_mostOfRow : ByteArray := prog_2_method_8_code
def yX0_mostOfRow : MethodName := ⟨RX0, "mostOfRow", "(I)I"⟩
abbrev cX0_ofSheet : ByteArray := prog_2_method_9_code
def yX0_ofSheet : MethodName := ⟨RX0, "ofSheet", "(III)J"⟩
abbrev cX0_layGround : ByteArray := prog_2_method_10_code
def yX0_layGround : MethodName := ⟨RX0, "layGround", "(III)V"⟩
def RX1 : String := "FiveDice$Game"
def TX1 : u_T := fun k => match k with
  | 0 => ("FiveDice$Game", "heaps", "LFiveDice$Heaps;", true)
  | 1 => ("FiveDice$Game", "points", "[I", true)
  | 2 => ("FiveDice$Game", "units", "[J", true)
  | 3 => ("FiveDice$Game", "powersOfSides", "[J", true)
  | 4 => ("FiveDice$Game", "throwsATurn", "I", false)
  | _ => ("FiveDice$Game", "rowCount", "I", false)
def tyX1 : Nat → FieldType := fun k => match k with
  | 0 => .object "FiveDice$Heaps"
  | 1 => .array .int
  | 2 => .array .long
  | 3 => .array .long
  | 4 => .int
  | _ => .int
theorem nmX1 : ∀ a, a < 6 → ∀ b, b < 6 → a ≠ b → (TX1 a).2.1 ≠ (TX1 b).2.1 := by decide +kernel
theorem tyX1_ok : ∀ k, k < 6 → parseFieldDescriptor (TX1 k).2.2.1 = some (tyX1 k) := by decide +kernel
abbrev cX1_init : ByteArray := prog_3_method_1_code
def yX1_init : MethodName := ⟨RX1, "<init>", "()V"⟩
abbrev cX1_prepare : ByteArray := prog_3_method_2_code
def yX1_prepare : MethodName := ⟨RX1, "prepare", "(IIII)V"⟩
abbrev cX1_writePoints : ByteArray := prog_3_method_3_code
def yX1_writePoints : MethodName := ⟨RX1, "writePoints", "([LFiveDice$Row;LFiveDice$Tally;)V"⟩
abbrev cX1_pointsAt : ByteArray := prog_3_method_4_code
def yX1_pointsAt : MethodName := ⟨RX1, "pointsAt", "(II)I"⟩
abbrev cX1_freeRows : ByteArray := prog_3_method_5_code
def yX1_freeRows : MethodName := ⟨RX1, "freeRows", "(I)I"⟩
abbrev cX1_fullSheet : ByteArray := prog_3_method_6_code
def yX1_fullSheet : MethodName := ⟨RX1, "fullSheet", "()I"⟩
abbrev cX1_isFree : ByteArray := prog_3_method_7_code
def yX1_isFree : MethodName := ⟨RX1, "isFree", "(II)Z"⟩
abbrev cX1_unitBefore : ByteArray := prog_3_method_8_code
def yX1_unitBefore : MethodName := ⟨RX1, "unitBefore", "(I)J"⟩
def RX2 : String := "FiveDice$Heaps"
def TX2 : u_T := fun k => match k with
  | 0 => ("FiveDice$Heaps", "told", "[I", true)
  | 1 => ("FiveDice$Heaps", "size", "[I", true)
  | 2 => ("FiveDice$Heaps", "withoutLargest", "[I", true)
  | 3 => ("FiveDice$Heaps", "next", "[I", true)
  | 4 => ("FiveDice$Heaps", "dice", "I", false)
  | 5 => ("FiveDice$Heaps", "sides", "I", false)
  | 6 => ("FiveDice$Heaps", "count", "I", false)
  | _ => ("FiveDice$Heaps", "firstWhole", "I", false)
def tyX2 : Nat → FieldType := fun k => match k with
  | 0 => .array .int
  | 1 => .array .int
  | 2 => .array .int
  | 3 => .array .int
  | 4 => .int
  | 5 => .int
  | 6 => .int
  | _ => .int
theorem nmX2 : ∀ a, a < 8 → ∀ b, b < 8 → a ≠ b → (TX2 a).2.1 ≠ (TX2 b).2.1 := by decide +kernel
theorem tyX2_ok : ∀ k, k < 8 → parseFieldDescriptor (TX2 k).2.2.1 = some (tyX2 k) := by decide +kernel
abbrev cX2_init : ByteArray := prog_4_method_1_code
def yX2_init : MethodName := ⟨RX2, "<init>", "()V"⟩
abbrev cX2_build : ByteArray := prog_4_method_2_code
def yX2_build : MethodName := ⟨RX2, "build", "(II)V"⟩
abbrev cX2_addLargestDie : ByteArray := prog_4_method_3_code
def yX2_addLargestDie : MethodName := ⟨RX2, "addLargestDie", "(II)V"⟩
abbrev cX2_addSmallerDie : ByteArray := prog_4_method_4_code
def yX2_addSmallerDie : MethodName := ⟨RX2, "addSmallerDie", "(II)V"⟩
abbrev cX2_wholeCount : ByteArray := prog_4_method_5_code
def yX2_wholeCount : MethodName := ⟨RX2, "wholeCount", "()I"⟩
abbrev cX2_withDie : ByteArray := prog_4_method_6_code
def yX2_withDie : MethodName := ⟨RX2, "withDie", "(II)I"⟩
abbrev cX2_joined : ByteArray := prog_4_method_7_code
def yX2_joined : MethodName := ⟨RX2, "joined", "(III)I"⟩
abbrev cX2_partOf : ByteArray := prog_4_method_8_code
def yX2_partOf : MethodName := ⟨RX2, "partOf", "(II)I"⟩
abbrev cX2_figuresOf : ByteArray := prog_4_method_9_code
def yX2_figuresOf : MethodName := ⟨RX2, "figuresOf", "(I)I"⟩
abbrev cX2_holdsAll : ByteArray := prog_4_method_10_code
def yX2_holdsAll : MethodName := ⟨RX2, "holdsAll", "(II)Z"⟩
def RX3 : String := "FiveDice$Row"
def TX3 : u_T := fun k => match k with
  | 0 => ("FiveDice$Row", "kind", "I", false)
  | 1 => ("FiveDice$Row", "n", "I", false)
  | 2 => ("FiveDice$Row", "p", "I", false)
  | _ => ("FiveDice$Row", "filledWith", "I", false)
def tyX3 : Nat → FieldType := fun k => match k with
  | 0 => .int
  | 1 => .int
  | 2 => .int
  | _ => .int
theorem nmX3 : ∀ a, a < 4 → ∀ b, b < 4 → a ≠ b → (TX3 a).2.1 ≠ (TX3 b).2.1 := by decide +kernel
theorem tyX3_ok : ∀ k, k < 4 → parseFieldDescriptor (TX3 k).2.2.1 = some (tyX3 k) := by decide +kernel
abbrev cX3_init : ByteArray := prog_5_method_1_code
def yX3_init : MethodName := ⟨RX3, "<init>", "()V"⟩
abbrev cX3_become : ByteArray := prog_5_method_2_code
def yX3_become : MethodName := ⟨RX3, "become", "(III)V"⟩
abbrev cX3_pointsOf : ByteArray := prog_5_method_3_code
def yX3_pointsOf : MethodName := ⟨RX3, "pointsOf", "(LFiveDice$Tally;)I"⟩
def RX4 : String := "FiveDice$Tally"
def TX4 : u_T := fun k => match k with
  | _ => ("FiveDice$Tally", "shown", "[I", true)
def tyX4 : Nat → FieldType := fun k => match k with
  | _ => .array .int
theorem nmX4 : ∀ a, a < 1 → ∀ b, b < 1 → a ≠ b → (TX4 a).2.1 ≠ (TX4 b).2.1 := by decide +kernel
theorem tyX4_ok : ∀ k, k < 1 → parseFieldDescriptor (TX4 k).2.2.1 = some (tyX4 k) := by decide +kernel
abbrev cX4_init : ByteArray := prog_6_method_1_code
def yX4_init : MethodName := ⟨RX4, "<init>", "()V"⟩
abbrev cX4_read : ByteArray := prog_6_method_2_code
def yX4_read : MethodName := ⟨RX4, "read", "(III)Z"⟩
abbrev cX4_showing : ByteArray := prog_6_method_3_code
def yX4_showing : MethodName := ⟨RX4, "showing", "(I)I"⟩
abbrev cX4_total : ByteArray := prog_6_method_4_code
def yX4_total : MethodName := ⟨RX4, "total", "()I"⟩
abbrev cX4_mostAlike : ByteArray := prog_6_method_5_code
def yX4_mostAlike : MethodName := ⟨RX4, "mostAlike", "()I"⟩
abbrev cX4_longestRun : ByteArray := prog_6_method_6_code
def yX4_longestRun : MethodName := ⟨RX4, "longestRun", "()I"⟩
abbrev cX4_sidesShownBy : ByteArray := prog_6_method_7_code
def yX4_sidesShownBy : MethodName := ⟨RX4, "sidesShownBy", "(I)I"⟩
abbrev cX4_orders : ByteArray := prog_6_method_8_code
def yX4_orders : MethodName := ⟨RX4, "orders", "()I"⟩
def RX5 : String := "FiveDice$Turn"
def TX5 : u_T := fun k => match k with
  | 0 => ("FiveDice$Turn", "game", "LFiveDice$Game;", true)
  | 1 => ("FiveDice$Turn", "ofHeap", "[[J", true)
  | _ => ("FiveDice$Turn", "ofHold", "[[J", true)
def tyX5 : Nat → FieldType := fun k => match k with
  | 0 => .object "FiveDice$Game"
  | 1 => .array (.array .long)
  | _ => .array (.array .long)
theorem nmX5 : ∀ a, a < 3 → ∀ b, b < 3 → a ≠ b → (TX5 a).2.1 ≠ (TX5 b).2.1 := by decide +kernel
theorem tyX5_ok : ∀ k, k < 3 → parseFieldDescriptor (TX5 k).2.2.1 = some (tyX5 k) := by decide +kernel
abbrev cX5_init : ByteArray := prog_7_method_1_code
def yX5_init : MethodName := ⟨RX5, "<init>", "(LFiveDice$Game;)V"⟩
abbrev cX5_ground : ByteArray := prog_7_method_2_code
def yX5_ground : MethodName := ⟨RX5, "ground", "()[J"⟩
abbrev cX5_valueOfHeap : ByteArray := prog_7_method_3_code
def yX5_valueOfHeap : MethodName := ⟨RX5, "valueOfHeap", "(II)J"⟩
abbrev cX5_valueOfHold : ByteArray := prog_7_method_4_code
def yX5_valueOfHold : MethodName := ⟨RX5, "valueOfHold", "(II)J"⟩
abbrev cX5_bestHoldOf : ByteArray := prog_7_method_5_code
def yX5_bestHoldOf : MethodName := ⟨RX5, "bestHoldOf", "(II)I"⟩
abbrev cX5_climb : ByteArray := prog_7_method_6_code
def yX5_climb : MethodName := ⟨RX5, "climb", "(I)V"⟩
abbrev cX5_valueBefore : ByteArray := prog_7_method_7_code
def yX5_valueBefore : MethodName := ⟨RX5, "valueBefore", "()J"⟩
abbrev cX5_throwOthers : ByteArray := prog_7_method_8_code
def yX5_throwOthers : MethodName := ⟨RX5, "throwOthers", "([J[J)V"⟩
abbrev cX5_bringToUnit : ByteArray := prog_7_method_9_code
def yX5_bringToUnit : MethodName := ⟨RX5, "bringToUnit", "([J)V"⟩
abbrev cX5_chooseHolds : ByteArray := prog_7_method_10_code
def yX5_chooseHolds : MethodName := ⟨RX5, "chooseHolds", "([J[J)V"⟩
def RX6 : String := "FiveDice$Worths"
def TX6 : u_T := fun k => match k with
  | 0 => ("FiveDice$Worths", "game", "LFiveDice$Game;", true)
  | 1 => ("FiveDice$Worths", "turn", "LFiveDice$Turn;", true)
  | _ => ("FiveDice$Worths", "before", "[J", true)
def tyX6 : Nat → FieldType := fun k => match k with
  | 0 => .object "FiveDice$Game"
  | 1 => .object "FiveDice$Turn"
  | _ => .array .long
theorem nmX6 : ∀ a, a < 3 → ∀ b, b < 3 → a ≠ b → (TX6 a).2.1 ≠ (TX6 b).2.1 := by decide +kernel
theorem tyX6_ok : ∀ k, k < 3 → parseFieldDescriptor (TX6 k).2.2.1 = some (tyX6 k) := by decide +kernel
abbrev cX6_init : ByteArray := prog_8_method_1_code
def yX6_init : MethodName := ⟨RX6, "<init>", "(LFiveDice$Game;)V"⟩
abbrev cX6_reckonAll : ByteArray := prog_8_method_2_code
def yX6_reckonAll : MethodName := ⟨RX6, "reckonAll", "()V"⟩
abbrev cX6_lookAt : ByteArray := prog_8_method_3_code
def yX6_lookAt : MethodName := ⟨RX6, "lookAt", "(I)V"⟩
abbrev cX6_bestRowFor : ByteArray := prog_8_method_4_code
def yX6_bestRowFor : MethodName := ⟨RX6, "bestRowFor", "(II)I"⟩
abbrev cX6_layGround : ByteArray := prog_8_method_5_code
def yX6_layGround : MethodName := ⟨RX6, "layGround", "(I)V"⟩
def RX7 : String := "FiveDice"
def TX7 : u_T := fun k => match k with
  | 0 => ("FiveDice", "tally", "LFiveDice$Tally;", true)
  | 1 => ("FiveDice", "rows", "[LFiveDice$Row;", true)
  | 2 => ("FiveDice", "game", "LFiveDice$Game;", true)
  | 3 => ("FiveDice", "worths", "LFiveDice$Worths;", true)
  | 4 => ("FiveDice", "chances", "LFiveDice$Chances;", true)
  | 5 => ("FiveDice", "diceNow", "I", false)
  | 6 => ("FiveDice", "sidesNow", "I", false)
  | 7 => ("FiveDice", "throwsNow", "I", false)
  | 8 => ("FiveDice", "rowCount", "I", false)
  | 9 => ("FiveDice", "begun", "Z", false)
  | 10 => ("FiveDice", "sheet", "I", false)
  | 11 => ("FiveDice", "sum", "I", false)
  | 12 => ("FiveDice", "luckSoFar", "J", false)
  | 13 => ("FiveDice", "slipSoFar", "J", false)
  | 14 => ("FiveDice", "inTurn", "Z", false)
  | 15 => ("FiveDice", "heapNow", "I", false)
  | 16 => ("FiveDice", "toThrow", "I", false)
  | _ => ("FiveDice", "throwsLeft", "I", false)
def tyX7 : Nat → FieldType := fun k => match k with
  | 0 => .object "FiveDice$Tally"
  | 1 => .array (.object "FiveDice$Row")
  | 2 => .object "FiveDice$Game"
  | 3 => .object "FiveDice$Worths"
  | 4 => .object "FiveDice$Chances"
  | 5 => .int
  | 6 => .int
  | 7 => .int
  | 8 => .int
  | 9 => .boolean
  | 10 => .int
  | 11 => .int
  | 12 => .long
  | 13 => .long
  | 14 => .boolean
  | 15 => .int
  | 16 => .int
  | _ => .int
theorem nmX7 : ∀ a, a < 18 → ∀ b, b < 18 → a ≠ b → (TX7 a).2.1 ≠ (TX7 b).2.1 := by decide +kernel
theorem tyX7_ok : ∀ k, k < 18 → parseFieldDescriptor (TX7 k).2.2.1 = some (tyX7 k) := by decide +kernel
abbrev cX7_init : ByteArray := prog_1_method_1_code
def yX7_init : MethodName := ⟨RX7, "<init>", "()V"⟩
abbrev cX7_dice : ByteArray := prog_1_method_2_code
def yX7_dice : MethodName := ⟨RX7, "dice", "(III)I"⟩
abbrev cX7_row : ByteArray := prog_1_method_3_code
def yX7_row : MethodName := ⟨RX7, "row", "(III)I"⟩
abbrev cX7_begin : ByteArray := prog_1_method_4_code
def yX7_begin : MethodName := ⟨RX7, "begin", "()I"⟩
abbrev cX7_end : ByteArray := prog_1_method_5_code
def yX7_end : MethodName := ⟨RX7, "end", "()I"⟩
abbrev cX7_fall : ByteArray := prog_1_method_6_code
def yX7_fall : MethodName := ⟨RX7, "fall", "(I)I"⟩
abbrev cX7_draw : ByteArray := prog_1_method_7_code
def yX7_draw : MethodName := ⟨RX7, "draw", "(I)I"⟩
abbrev cX7_hold : ByteArray := prog_1_method_8_code
def yX7_hold : MethodName := ⟨RX7, "hold", "(I)I"⟩
abbrev cX7_fill : ByteArray := prog_1_method_9_code
def yX7_fill : MethodName := ⟨RX7, "fill", "(I)I"⟩
abbrev cX7_unit : ByteArray := prog_1_method_10_code
def yX7_unit : MethodName := ⟨RX7, "unit", "()J"⟩
abbrev cX7_worth : ByteArray := prog_1_method_11_code
def yX7_worth : MethodName := ⟨RX7, "worth", "()J"⟩
abbrev cX7_worthOf : ByteArray := prog_1_method_12_code
def yX7_worthOf : MethodName := ⟨RX7, "worthOf", "(I)J"⟩
abbrev cX7_bestHold : ByteArray := prog_1_method_13_code
def yX7_bestHold : MethodName := ⟨RX7, "bestHold", "()I"⟩
abbrev cX7_bestRow : ByteArray := prog_1_method_14_code
def yX7_bestRow : MethodName := ⟨RX7, "bestRow", "()I"⟩
abbrev cX7_chance : ByteArray := prog_1_method_15_code
def yX7_chance : MethodName := ⟨RX7, "chance", "(I)J"⟩
abbrev cX7_luck : ByteArray := prog_1_method_16_code
def yX7_luck : MethodName := ⟨RX7, "luck", "()J"⟩
abbrev cX7_slip : ByteArray := prog_1_method_17_code
def yX7_slip : MethodName := ⟨RX7, "slip", "()J"⟩
abbrev cX7_points : ByteArray := prog_1_method_18_code
def yX7_points : MethodName := ⟨RX7, "points", "(II)I"⟩
abbrev cX7_ways : ByteArray := prog_1_method_19_code
def yX7_ways : MethodName := ⟨RX7, "ways", "(I)I"⟩
abbrev cX7_filled : ByteArray := prog_1_method_20_code
def yX7_filled : MethodName := ⟨RX7, "filled", "(I)I"⟩
abbrev cX7_count : ByteArray := prog_1_method_21_code
def yX7_count : MethodName := ⟨RX7, "count", "(I)I"⟩
abbrev cX7_isRow : ByteArray := prog_1_method_22_code
def yX7_isRow : MethodName := ⟨RX7, "isRow", "(I)Z"⟩
abbrev cX7_isFilled : ByteArray := prog_1_method_23_code
def yX7_isFilled : MethodName := ⟨RX7, "isFilled", "(I)Z"⟩
abbrev cX7_hasHeap : ByteArray := prog_1_method_24_code
def yX7_hasHeap : MethodName := ⟨RX7, "hasHeap", "()Z"⟩
abbrev cX7_mayHold : ByteArray := prog_1_method_25_code
def yX7_mayHold : MethodName := ⟨RX7, "mayHold", "()Z"⟩
abbrev cX7_isLarge : ByteArray := prog_1_method_26_code
def yX7_isLarge : MethodName := ⟨RX7, "isLarge", "()Z"⟩
abbrev cX7_comeToTurn : ByteArray := prog_1_method_27_code
def yX7_comeToTurn : MethodName := ⟨RX7, "comeToTurn", "()V"⟩
abbrev cX7_comeToHeap : ByteArray := prog_1_method_28_code
def yX7_comeToHeap : MethodName := ⟨RX7, "comeToHeap", "(I)I"⟩
abbrev cX7_unitPower : ByteArray := prog_1_method_29_code
def yX7_unitPower : MethodName := ⟨RX7, "unitPower", "()I"⟩
abbrev cX7_worthHere : ByteArray := prog_1_method_30_code
def yX7_worthHere : MethodName := ⟨RX7, "worthHere", "()J"⟩
abbrev cX7_valueIn : ByteArray := prog_1_method_31_code
def yX7_valueIn : MethodName := ⟨RX7, "valueIn", "(LFiveDice$Turn;)J"⟩
abbrev cX7_stand : ByteArray := prog_1_method_32_code
def yX7_stand : MethodName := ⟨RX7, "stand", "()J"⟩
def RX8 : String := "FiveDiceModel"
def TX8 : u_T := fun k => match k with
  | 0 => ("FiveDiceModel", "dice", "I", false)
  | 1 => ("FiveDiceModel", "sides", "I", false)
  | 2 => ("FiveDiceModel", "throwsOf", "I", false)
  | 3 => ("FiveDiceModel", "rows", "I", false)
  | 4 => ("FiveDiceModel", "kind", "[I", true)
  | 5 => ("FiveDiceModel", "nOf", "[I", true)
  | 6 => ("FiveDiceModel", "pOf", "[I", true)
  | 7 => ("FiveDiceModel", "hasBegun", "Z", false)
  | 8 => ("FiveDiceModel", "heaps", "I", false)
  | 9 => ("FiveDiceModel", "shown", "[I", true)
  | 10 => ("FiveDiceModel", "size", "[I", true)
  | 11 => ("FiveDiceModel", "told", "[I", true)
  | 12 => ("FiveDiceModel", "more", "[I", true)
  | 13 => ("FiveDiceModel", "points", "[I", true)
  | 14 => ("FiveDiceModel", "mask", "I", false)
  | 15 => ("FiveDiceModel", "sum", "I", false)
  | 16 => ("FiveDiceModel", "filled", "[I", true)
  | 17 => ("FiveDiceModel", "inTurn", "Z", false)
  | 18 => ("FiveDiceModel", "toThrow", "Z", false)
  | 19 => ("FiveDiceModel", "heap", "I", false)
  | 20 => ("FiveDiceModel", "left", "I", false)
  | 21 => ("FiveDiceModel", "luck", "J", false)
  | 22 => ("FiveDiceModel", "slip", "J", false)
  | 23 => ("FiveDiceModel", "bigPower", "J", false)
  | 24 => ("FiveDiceModel", "sidePower", "[J", true)
  | 25 => ("FiveDiceModel", "worthOf", "[J", true)
  | 26 => ("FiveDiceModel", "value", "[J", true)
  | 27 => ("FiveDiceModel", "thrown", "[J", true)
  | 28 => ("FiveDiceModel", "chances", "[J", true)
  | 29 => ("FiveDiceModel", "isAsked", "[Z", true)
  | 30 => ("FiveDiceModel", "at", "[I", true)
  | _ => ("FiveDiceModel", "bestOne", "I", false)
def tyX8 : Nat → FieldType := fun k => match k with
  | 0 => .int
  | 1 => .int
  | 2 => .int
  | 3 => .int
  | 4 => .array .int
  | 5 => .array .int
  | 6 => .array .int
  | 7 => .boolean
  | 8 => .int
  | 9 => .array .int
  | 10 => .array .int
  | 11 => .array .int
  | 12 => .array .int
  | 13 => .array .int
  | 14 => .int
  | 15 => .int
  | 16 => .array .int
  | 17 => .boolean
  | 18 => .boolean
  | 19 => .int
  | 20 => .int
  | 21 => .long
  | 22 => .long
  | 23 => .long
  | 24 => .array .long
  | 25 => .array .long
  | 26 => .array .long
  | 27 => .array .long
  | 28 => .array .long
  | 29 => .array .boolean
  | 30 => .array .int
  | _ => .int
theorem nmX8 : ∀ a, a < 32 → ∀ b, b < 32 → a ≠ b → (TX8 a).2.1 ≠ (TX8 b).2.1 := by decide +kernel
theorem tyX8_ok : ∀ k, k < 32 → parseFieldDescriptor (TX8 k).2.2.1 = some (tyX8 k) := by decide +kernel
abbrev cX8_init : ByteArray := prog_10_method_1_code
def yX8_init : MethodName := ⟨RX8, "<init>", "()V"⟩
abbrev cX8_in : ByteArray := prog_10_method_2_code
def yX8_in : MethodName := ⟨RX8, "in", "(III)Z"⟩
abbrev cX8_placeOf : ByteArray := prog_10_method_3_code
def yX8_placeOf : MethodName := ⟨RX8, "placeOf", "([II)I"⟩
abbrev cX8_findHeaps : ByteArray := prog_10_method_4_code
def yX8_findHeaps : MethodName := ⟨RX8, "findHeaps", "()V"⟩
abbrev cX8_heapOf : ByteArray := prog_10_method_5_code
def yX8_heapOf : MethodName := ⟨RX8, "heapOf", "(I)I"⟩
abbrev cX8_pointsIn : ByteArray := prog_10_method_6_code
def yX8_pointsIn : MethodName := ⟨RX8, "pointsIn", "(II)I"⟩
abbrev cX8_dice : ByteArray := prog_10_method_7_code
def yX8_dice : MethodName := ⟨RX8, "dice", "(III)I"⟩
abbrev cX8_row : ByteArray := prog_10_method_8_code
def yX8_row : MethodName := ⟨RX8, "row", "(III)I"⟩
abbrev cX8_open : ByteArray := prog_10_method_9_code
def yX8_open : MethodName := ⟨RX8, "open", "(I)I"⟩
abbrev cX8_power : ByteArray := prog_10_method_10_code
def yX8_power : MethodName := ⟨RX8, "power", "(JI)J"⟩
abbrev cX8_unitOf : ByteArray := prog_10_method_11_code
def yX8_unitOf : MethodName := ⟨RX8, "unitOf", "(I)J"⟩
abbrev cX8_isLarge : ByteArray := prog_10_method_12_code
def yX8_isLarge : MethodName := ⟨RX8, "isLarge", "()Z"⟩
abbrev cX8_findTurn : ByteArray := prog_10_method_13_code
def yX8_findTurn : MethodName := ⟨RX8, "findTurn", "()V"⟩
abbrev cX8_findThrown : ByteArray := prog_10_method_14_code
def yX8_findThrown : MethodName := ⟨RX8, "findThrown", "(I)V"⟩
abbrev cX8_isPart : ByteArray := prog_10_method_15_code
def yX8_isPart : MethodName := ⟨RX8, "isPart", "(II)Z"⟩
abbrev cX8_bestRowOf : ByteArray := prog_10_method_16_code
def yX8_bestRowOf : MethodName := ⟨RX8, "bestRowOf", "(II)J"⟩
abbrev cX8_findWorths : ByteArray := prog_10_method_17_code
def yX8_findWorths : MethodName := ⟨RX8, "findWorths", "(I)V"⟩
abbrev cX8_begin : ByteArray := prog_10_method_18_code
def yX8_begin : MethodName := ⟨RX8, "begin", "()I"⟩
abbrev cX8_end : ByteArray := prog_10_method_19_code
def yX8_end : MethodName := ⟨RX8, "end", "()I"⟩
abbrev cX8_isOver : ByteArray := prog_10_method_20_code
def yX8_isOver : MethodName := ⟨RX8, "isOver", "()Z"⟩
abbrev cX8_unitHere : ByteArray := prog_10_method_21_code
def yX8_unitHere : MethodName := ⟨RX8, "unitHere", "()J"⟩
abbrev cX8_holdWorth : ByteArray := prog_10_method_22_code
def yX8_holdWorth : MethodName := ⟨RX8, "holdWorth", "(I)J"⟩
abbrev cX8_worthHere : ByteArray := prog_10_method_23_code
def yX8_worthHere : MethodName := ⟨RX8, "worthHere", "()J"⟩
abbrev cX8_stand : ByteArray := prog_10_method_24_code
def yX8_stand : MethodName := ⟨RX8, "stand", "()J"⟩
abbrev cX8_mayFall : ByteArray := prog_10_method_25_code
def yX8_mayFall : MethodName := ⟨RX8, "mayFall", "()Z"⟩
abbrev cX8_came : ByteArray := prog_10_method_26_code
def yX8_came : MethodName := ⟨RX8, "came", "(I)I"⟩
abbrev cX8_fall : ByteArray := prog_10_method_27_code
def yX8_fall : MethodName := ⟨RX8, "fall", "(I)I"⟩
abbrev cX8_draw : ByteArray := prog_10_method_28_code
def yX8_draw : MethodName := ⟨RX8, "draw", "(I)I"⟩
abbrev cX8_mayHold : ByteArray := prog_10_method_29_code
def yX8_mayHold : MethodName := ⟨RX8, "mayHold", "()Z"⟩
abbrev cX8_heldOf : ByteArray := prog_10_method_30_code
def yX8_heldOf : MethodName := ⟨RX8, "heldOf", "(I)I"⟩
abbrev cX8_hold : ByteArray := prog_10_method_31_code
def yX8_hold : MethodName := ⟨RX8, "hold", "(I)I"⟩
abbrev cX8_fill : ByteArray := prog_10_method_32_code
def yX8_fill : MethodName := ⟨RX8, "fill", "(I)I"⟩
abbrev cX8_unit : ByteArray := prog_10_method_33_code
def yX8_unit : MethodName := ⟨RX8, "unit", "()J"⟩
abbrev cX8_worth : ByteArray := prog_10_method_34_code
def yX8_worth : MethodName := ⟨RX8, "worth", "()J"⟩
abbrev cX8_worthOf : ByteArray := prog_10_method_35_code
def yX8_worthOf : MethodName := ⟨RX8, "worthOf", "(I)J"⟩
abbrev cX8_bestHold : ByteArray := prog_10_method_36_code
def yX8_bestHold : MethodName := ⟨RX8, "bestHold", "()I"⟩
abbrev cX8_isBetter : ByteArray := prog_10_method_37_code
def yX8_isBetter : MethodName := ⟨RX8, "isBetter", "(II)Z"⟩
abbrev cX8_bestRow : ByteArray := prog_10_method_38_code
def yX8_bestRow : MethodName := ⟨RX8, "bestRow", "()I"⟩
abbrev cX8_wants : ByteArray := prog_10_method_39_code
def yX8_wants : MethodName := ⟨RX8, "wants", "(II)I"⟩
abbrev cX8_findChanceTurn : ByteArray := prog_10_method_40_code
def yX8_findChanceTurn : MethodName := ⟨RX8, "findChanceTurn", "(II)V"⟩
abbrev cX8_ask : ByteArray := prog_10_method_41_code
def yX8_ask : MethodName := ⟨RX8, "ask", "(II)V"⟩
abbrev cX8_chance : ByteArray := prog_10_method_42_code
def yX8_chance : MethodName := ⟨RX8, "chance", "(I)J"⟩
abbrev cX8_chanceOf : ByteArray := prog_10_method_43_code
def yX8_chanceOf : MethodName := ⟨RX8, "chanceOf", "(III)J"⟩
abbrev cX8_luck : ByteArray := prog_10_method_44_code
def yX8_luck : MethodName := ⟨RX8, "luck", "()J"⟩
abbrev cX8_slip : ByteArray := prog_10_method_45_code
def yX8_slip : MethodName := ⟨RX8, "slip", "()J"⟩
abbrev cX8_points : ByteArray := prog_10_method_46_code
def yX8_points : MethodName := ⟨RX8, "points", "(II)I"⟩
abbrev cX8_ways : ByteArray := prog_10_method_47_code
def yX8_ways : MethodName := ⟨RX8, "ways", "(I)I"⟩
abbrev cX8_filled : ByteArray := prog_10_method_48_code
def yX8_filled : MethodName := ⟨RX8, "filled", "(I)I"⟩
abbrev cX8_count : ByteArray := prog_10_method_49_code
def yX8_count : MethodName := ⟨RX8, "count", "(I)I"⟩
def RJ6 : String := "java/lang/Integer"
def TJ6 : u_T := fun k => match k with
  | _ => ("", "", "", false)
def tyJ6 : Nat → FieldType := fun k => match k with
  | _ => .int
theorem nmJ6 : ∀ a, a < 0 → ∀ b, b < 0 → a ≠ b → (TJ6 a).2.1 ≠ (TJ6 b).2.1 := by decide +kernel
theorem tyJ6_ok : ∀ k, k < 0 → parseFieldDescriptor (TJ6 k).2.2.1 = some (tyJ6 k) := by decide +kernel
abbrev cJ6_bitCount_0f7a4 : ByteArray := prog_11_method_49_code
def yJ6_bitCount_0f7a4 : MethodName := ⟨RJ6, "bitCount", "(I)I"⟩
def RJ9 : String := "java/lang/Math"
def TJ9 : u_T := fun k => match k with
  | _ => ("", "", "", false)
def tyJ9 : Nat → FieldType := fun k => match k with
  | _ => .int
theorem nmJ9 : ∀ a, a < 0 → ∀ b, b < 0 → a ≠ b → (TJ9 a).2.1 ≠ (TJ9 b).2.1 := by decide +kernel
theorem tyJ9_ok : ∀ k, k < 0 → parseFieldDescriptor (TJ9 k).2.2.1 = some (tyJ9 k) := by decide +kernel
abbrev cJ9_max_7cf53 : ByteArray := prog_12_method_65_code
def yJ9_max_7cf53 : MethodName := ⟨RJ9, "max", "(II)I"⟩
abbrev cJ9_max_f86c9 : ByteArray := prog_12_method_66_code
def yJ9_max_f86c9 : MethodName := ⟨RJ9, "max", "(JJ)J"⟩
abbrev cJ9_min_7cf53 : ByteArray := prog_12_method_69_code
def yJ9_min_7cf53 : MethodName := ⟨RJ9, "min", "(II)I"⟩
def RJ10 : String := "java/lang/System"
def TJ10 : u_T := fun k => match k with
  | _ => ("", "", "", false)
def tyJ10 : Nat → FieldType := fun k => match k with
  | _ => .int
theorem nmJ10 : ∀ a, a < 0 → ∀ b, b < 0 → a ≠ b → (TJ10 a).2.1 ≠ (TJ10 b).2.1 := by decide +kernel
theorem tyJ10_ok : ∀ k, k < 0 → parseFieldDescriptor (TJ10 k).2.2.1 = some (tyJ10 k) := by decide +kernel
def RJ7 : String := "java/util/Arrays"
def TJ7 : u_T := fun k => match k with
  | _ => ("", "", "", false)
def tyJ7 : Nat → FieldType := fun k => match k with
  | _ => .int
theorem nmJ7 : ∀ a, a < 0 → ∀ b, b < 0 → a ≠ b → (TJ7 a).2.1 ≠ (TJ7 b).2.1 := by decide +kernel
theorem tyJ7_ok : ∀ k, k < 0 → parseFieldDescriptor (TJ7 k).2.2.1 = some (tyJ7 k) := by decide +kernel
abbrev cJ7_rangeCheck_23922 : ByteArray := prog_14_method_30_code
def yJ7_rangeCheck_23922 : MethodName := ⟨RJ7, "rangeCheck", "(III)V"⟩
abbrev cJ7_fill_bad5a : ByteArray := prog_14_method_102_code
def yJ7_fill_bad5a : MethodName := ⟨RJ7, "fill", "([JIIJ)V"⟩
abbrev cJ7_fill_53178 : ByteArray := prog_14_method_103_code
def yJ7_fill_53178 : MethodName := ⟨RJ7, "fill", "([II)V"⟩
def RL : String := "FiveDiceLaw"
abbrev cL_law : ByteArray := code
def yL_law : MethodName := ⟨RL, "law", "([I)Z"⟩
abbrev vwCl : List vw_C := [(RX0, TX0, 8), (RX1, TX1, 6), (RX2, TX2, 8), (RX3, TX3, 4), (RX4, TX4, 1), (RX5, TX5, 3), (RX6, TX6, 3), (RX7, TX7, 18), (RX8, TX8, 32)]
end
section
theorem dX0_init_0 : decode cX0_init 0 = .ok (.aload_n 0, 1) := by decide +kernel
theorem dX0_init_1 : decode cX0_init 1 = .ok (.invokespecial 3, 3) := by decide +kernel
theorem dX0_init_4 : decode cX0_init 4 = .ok (.aload_n 0, 1) := by decide +kernel
theorem dX0_init_5 : decode cX0_init 5 = .ok (.sipush 256, 3) := by decide +kernel
theorem dX0_init_8 : decode cX0_init 8 = .ok (.newarray .int, 2) := by decide +kernel
theorem dX0_init_10 : decode cX0_init 10 = .ok (.putfield 9, 3) := by decide +kernel
theorem dX0_init_13 : decode cX0_init 13 = .ok (.aload_n 0, 1) := by decide +kernel
theorem dX0_init_14 : decode cX0_init 14 = .ok (.sipush 256, 3) := by decide +kernel
theorem dX0_init_17 : decode cX0_init 17 = .ok (.newarray .int, 2) := by decide +kernel
theorem dX0_init_19 : decode cX0_init 19 = .ok (.putfield 15, 3) := by decide +kernel
theorem dX0_init_22 : decode cX0_init 22 = .ok (.aload_n 0, 1) := by decide +kernel
theorem dX0_init_23 : decode cX0_init 23 = .ok (.sipush 256, 3) := by decide +kernel
theorem dX0_init_26 : decode cX0_init 26 = .ok (.newarray .int, 2) := by decide +kernel
theorem dX0_init_28 : decode cX0_init 28 = .ok (.putfield 18, 3) := by decide +kernel
theorem dX0_init_31 : decode cX0_init 31 = .ok (.aload_n 0, 1) := by decide +kernel
theorem dX0_init_32 : decode cX0_init 32 = .ok (.sipush 756, 3) := by decide +kernel
theorem dX0_init_35 : decode cX0_init 35 = .ok (.newarray .long, 2) := by decide +kernel
theorem dX0_init_37 : decode cX0_init 37 = .ok (.putfield 21, 3) := by decide +kernel
theorem dX0_init_40 : decode cX0_init 40 = .ok (.aload_n 0, 1) := by decide +kernel
theorem dX0_init_41 : decode cX0_init 41 = .ok (.iconst 0, 1) := by decide +kernel
theorem dX0_init_42 : decode cX0_init 42 = .ok (.newarray .long, 2) := by decide +kernel
theorem dX0_init_44 : decode cX0_init 44 = .ok (.putfield 25, 3) := by decide +kernel
theorem dX0_init_47 : decode cX0_init 47 = .ok (.aload_n 0, 1) := by decide +kernel
theorem dX0_init_48 : decode cX0_init 48 = .ok (.iconst 0, 1) := by decide +kernel
theorem dX0_init_49 : decode cX0_init 49 = .ok (.putfield 28, 3) := by decide +kernel
theorem dX0_init_52 : decode cX0_init 52 = .ok (.aload_n 0, 1) := by decide +kernel
theorem dX0_init_53 : decode cX0_init 53 = .ok (.aload_n 1, 1) := by decide +kernel
theorem dX0_init_54 : decode cX0_init 54 = .ok (.putfield 32, 3) := by decide +kernel
theorem dX0_init_57 : decode cX0_init 57 = .ok (.aload_n 0, 1) := by decide +kernel
theorem dX0_init_58 : decode cX0_init 58 = .ok (.new 36, 3) := by decide +kernel
theorem dX0_init_61 : decode cX0_init 61 = .ok (.dup, 1) := by decide +kernel
theorem dX0_init_62 : decode cX0_init 62 = .ok (.aload_n 1, 1) := by decide +kernel
theorem dX0_init_63 : decode cX0_init 63 = .ok (.invokespecial 38, 3) := by decide +kernel
theorem dX0_init_66 : decode cX0_init 66 = .ok (.putfield 41, 3) := by decide +kernel
theorem dX0_init_69 : decode cX0_init 69 = .ok (.return_, 1) := by decide +kernel
theorem dX0_forget_0 : decode cX0_forget 0 = .ok (.aload_n 0, 1) := by decide +kernel
theorem dX0_forget_1 : decode cX0_forget 1 = .ok (.iconst 0, 1) := by decide +kernel
theorem dX0_forget_2 : decode cX0_forget 2 = .ok (.putfield 28, 3) := by decide +kernel
theorem dX0_forget_5 : decode cX0_forget 5 = .ok (.return_, 1) := by decide +kernel
theorem dX0_beforeTurn_0 : decode cX0_beforeTurn 0 = .ok (.aload_n 0, 1) := by decide +kernel
theorem dX0_beforeTurn_1 : decode cX0_beforeTurn 1 = .ok (.invokevirtual 45, 3) := by decide +kernel
theorem dX0_beforeTurn_4 : decode cX0_beforeTurn 4 = .ok (.aload_n 0, 1) := by decide +kernel
theorem dX0_beforeTurn_5 : decode cX0_beforeTurn 5 = .ok (.iload_n 1, 1) := by decide +kernel
theorem dX0_beforeTurn_6 : decode cX0_beforeTurn 6 = .ok (.iload_n 2, 1) := by decide +kernel
theorem dX0_beforeTurn_7 : decode cX0_beforeTurn 7 = .ok (.iconst 0, 1) := by decide +kernel
theorem dX0_beforeTurn_8 : decode cX0_beforeTurn 8 = .ok (.invokevirtual 48, 3) := by decide +kernel
theorem dX0_beforeTurn_11 : decode cX0_beforeTurn 11 = .ok (.lreturn, 1) := by decide +kernel
theorem dX0_inTurn_0 : decode cX0_inTurn 0 = .ok (.aload_n 0, 1) := by decide +kernel
theorem dX0_inTurn_1 : decode cX0_inTurn 1 = .ok (.invokevirtual 45, 3) := by decide +kernel
theorem dX0_inTurn_4 : decode cX0_inTurn 4 = .ok (.aload_n 0, 1) := by decide +kernel
theorem dX0_inTurn_5 : decode cX0_inTurn 5 = .ok (.iload_n 1, 1) := by decide +kernel
theorem dX0_inTurn_6 : decode cX0_inTurn 6 = .ok (.iload_n 2, 1) := by decide +kernel
theorem dX0_inTurn_7 : decode cX0_inTurn 7 = .ok (.iconst 0, 1) := by decide +kernel
theorem dX0_inTurn_8 : decode cX0_inTurn 8 = .ok (.invokevirtual 52, 3) := by decide +kernel
theorem dX0_inTurn_11 : decode cX0_inTurn 11 = .ok (.aload_n 0, 1) := by decide +kernel
theorem dX0_inTurn_12 : decode cX0_inTurn 12 = .ok (.getfield 41, 3) := by decide +kernel
theorem dX0_inTurn_15 : decode cX0_inTurn 15 = .ok (.iload_n 3, 1) := by decide +kernel
theorem dX0_inTurn_16 : decode cX0_inTurn 16 = .ok (.invokevirtual 56, 3) := by decide +kernel
theorem dX0_inTurn_19 : decode cX0_inTurn 19 = .ok (.aload_n 0, 1) := by decide +kernel
theorem dX0_inTurn_20 : decode cX0_inTurn 20 = .ok (.getfield 41, 3) := by decide +kernel
theorem dX0_inTurn_23 : decode cX0_inTurn 23 = .ok (.areturn, 1) := by decide +kernel
theorem dX0_makeReady_0 : decode cX0_makeReady 0 = .ok (.aload_n 0, 1) := by decide +kernel
theorem dX0_makeReady_1 : decode cX0_makeReady 1 = .ok (.getfield 28, 3) := by decide +kernel
theorem dX0_makeReady_4 : decode cX0_makeReady 4 = .ok (.ifCond .eq 4, 3) := by decide +kernel
theorem dX0_makeReady_7 : decode cX0_makeReady 7 = .ok (.return_, 1) := by decide +kernel
theorem dX0_makeReady_8 : decode cX0_makeReady 8 = .ok (.aload_n 0, 1) := by decide +kernel
theorem dX0_makeReady_9 : decode cX0_makeReady 9 = .ok (.invokevirtual 60, 3) := by decide +kernel
theorem dX0_makeReady_12 : decode cX0_makeReady 12 = .ok (.istore_n 1, 1) := by decide +kernel
theorem dX0_makeReady_13 : decode cX0_makeReady 13 = .ok (.aload_n 0, 1) := by decide +kernel
theorem dX0_makeReady_14 : decode cX0_makeReady 14 = .ok (.getfield 25, 3) := by decide +kernel
theorem dX0_makeReady_17 : decode cX0_makeReady 17 = .ok (.arraylength, 1) := by decide +kernel
theorem dX0_makeReady_18 : decode cX0_makeReady 18 = .ok (.iload_n 1, 1) := by decide +kernel
theorem dX0_makeReady_19 : decode cX0_makeReady 19 = .ok (.if_icmp .ge 20, 3) := by decide +kernel
theorem dX0_makeReady_22 : decode cX0_makeReady 22 = .ok (.aload_n 0, 1) := by decide +kernel
theorem dX0_makeReady_23 : decode cX0_makeReady 23 = .ok (.iload_n 1, 1) := by decide +kernel
theorem dX0_makeReady_24 : decode cX0_makeReady 24 = .ok (.iconst 2, 1) := by decide +kernel
theorem dX0_makeReady_25 : decode cX0_makeReady 25 = .ok (.aload_n 0, 1) := by decide +kernel
theorem dX0_makeReady_26 : decode cX0_makeReady 26 = .ok (.getfield 25, 3) := by decide +kernel
theorem dX0_makeReady_29 : decode cX0_makeReady 29 = .ok (.arraylength, 1) := by decide +kernel
theorem dX0_makeReady_30 : decode cX0_makeReady 30 = .ok (.imul, 1) := by decide +kernel
theorem dX0_makeReady_31 : decode cX0_makeReady 31 = .ok (.invokestatic 64, 3) := by decide +kernel
theorem dX0_makeReady_34 : decode cX0_makeReady 34 = .ok (.newarray .long, 2) := by decide +kernel
theorem dX0_makeReady_36 : decode cX0_makeReady 36 = .ok (.putfield 25, 3) := by decide +kernel
theorem dX0_makeReady_39 : decode cX0_makeReady 39 = .ok (.aload_n 0, 1) := by decide +kernel
theorem dX0_makeReady_40 : decode cX0_makeReady 40 = .ok (.getfield 25, 3) := by decide +kernel
theorem dX0_makeReady_43 : decode cX0_makeReady 43 = .ok (.iconst 0, 1) := by decide +kernel
theorem dX0_makeReady_44 : decode cX0_makeReady 44 = .ok (.iload_n 1, 1) := by decide +kernel
theorem dX0_makeReady_45 : decode cX0_makeReady 45 = .ok (.ldc2_w 70, 3) := by decide +kernel
theorem dX0_makeReady_48 : decode cX0_makeReady 48 = .ok (.invokestatic 72, 3) := by decide +kernel
theorem dX0_makeReady_51 : decode cX0_makeReady 51 = .ok (.aload_n 0, 1) := by decide +kernel
theorem dX0_makeReady_52 : decode cX0_makeReady 52 = .ok (.iconst 1, 1) := by decide +kernel
theorem dX0_makeReady_53 : decode cX0_makeReady 53 = .ok (.putfield 28, 3) := by decide +kernel
theorem dX0_makeReady_56 : decode cX0_makeReady 56 = .ok (.return_, 1) := by decide +kernel
theorem dX0_measureSheets_0 : decode cX0_measureSheets 0 = .ok (.aload_n 0, 1) := by decide +kernel
theorem dX0_measureSheets_1 : decode cX0_measureSheets 1 = .ok (.getfield 32, 3) := by decide +kernel
theorem dX0_measureSheets_4 : decode cX0_measureSheets 4 = .ok (.invokevirtual 78, 3) := by decide +kernel
theorem dX0_measureSheets_7 : decode cX0_measureSheets 7 = .ok (.istore_n 1, 1) := by decide +kernel
theorem dX0_measureSheets_8 : decode cX0_measureSheets 8 = .ok (.aload_n 0, 1) := by decide +kernel
theorem dX0_measureSheets_9 : decode cX0_measureSheets 9 = .ok (.getfield 9, 3) := by decide +kernel
theorem dX0_measureSheets_12 : decode cX0_measureSheets 12 = .ok (.iload_n 1, 1) := by decide +kernel
theorem dX0_measureSheets_13 : decode cX0_measureSheets 13 = .ok (.iconst 0, 1) := by decide +kernel
theorem dX0_measureSheets_14 : decode cX0_measureSheets 14 = .ok (.iastore, 1) := by decide +kernel
theorem dX0_measureSheets_15 : decode cX0_measureSheets 15 = .ok (.aload_n 0, 1) := by decide +kernel
theorem dX0_measureSheets_16 : decode cX0_measureSheets 16 = .ok (.getfield 15, 3) := by decide +kernel
theorem dX0_measureSheets_19 : decode cX0_measureSheets 19 = .ok (.iload_n 1, 1) := by decide +kernel
theorem dX0_measureSheets_20 : decode cX0_measureSheets 20 = .ok (.iconst 0, 1) := by decide +kernel
theorem dX0_measureSheets_21 : decode cX0_measureSheets 21 = .ok (.iastore, 1) := by decide +kernel
theorem dX0_measureSheets_22 : decode cX0_measureSheets 22 = .ok (.aload_n 0, 1) := by decide +kernel
theorem dX0_measureSheets_23 : decode cX0_measureSheets 23 = .ok (.getfield 18, 3) := by decide +kernel
theorem dX0_measureSheets_26 : decode cX0_measureSheets 26 = .ok (.iload_n 1, 1) := by decide +kernel
theorem dX0_measureSheets_27 : decode cX0_measureSheets 27 = .ok (.iconst 0, 1) := by decide +kernel
theorem dX0_measureSheets_28 : decode cX0_measureSheets 28 = .ok (.iastore, 1) := by decide +kernel
theorem dX0_measureSheets_29 : decode cX0_measureSheets 29 = .ok (.iconst 0, 1) := by decide +kernel
theorem dX0_measureSheets_30 : decode cX0_measureSheets 30 = .ok (.istore_n 2, 1) := by decide +kernel
theorem dX0_measureSheets_31 : decode cX0_measureSheets 31 = .ok (.iconst 0, 1) := by decide +kernel
theorem dX0_measureSheets_32 : decode cX0_measureSheets 32 = .ok (.istore_n 3, 1) := by decide +kernel
theorem dX0_measureSheets_33 : decode cX0_measureSheets 33 = .ok (.iload_n 3, 1) := by decide +kernel
theorem dX0_measureSheets_34 : decode cX0_measureSheets 34 = .ok (.aload_n 0, 1) := by decide +kernel
theorem dX0_measureSheets_35 : decode cX0_measureSheets 35 = .ok (.getfield 32, 3) := by decide +kernel
theorem dX0_measureSheets_38 : decode cX0_measureSheets 38 = .ok (.getfield 83, 3) := by decide +kernel
theorem dX0_measureSheets_41 : decode cX0_measureSheets 41 = .ok (.if_icmp .ge 117, 3) := by decide +kernel
theorem dX0_measureSheets_44 : decode cX0_measureSheets 44 = .ok (.iconst 1, 1) := by decide +kernel
theorem dX0_measureSheets_45 : decode cX0_measureSheets 45 = .ok (.iload_n 3, 1) := by decide +kernel
theorem dX0_measureSheets_46 : decode cX0_measureSheets 46 = .ok (.ishl, 1) := by decide +kernel
theorem dX0_measureSheets_47 : decode cX0_measureSheets 47 = .ok (.istore 4, 2) := by decide +kernel
theorem dX0_measureSheets_49 : decode cX0_measureSheets 49 = .ok (.aload_n 0, 1) := by decide +kernel
theorem dX0_measureSheets_50 : decode cX0_measureSheets 50 = .ok (.iload_n 3, 1) := by decide +kernel
theorem dX0_measureSheets_51 : decode cX0_measureSheets 51 = .ok (.invokevirtual 87, 3) := by decide +kernel
theorem dX0_measureSheets_54 : decode cX0_measureSheets 54 = .ok (.istore 5, 2) := by decide +kernel
theorem dX0_measureSheets_56 : decode cX0_measureSheets 56 = .ok (.aload_n 0, 1) := by decide +kernel
theorem dX0_measureSheets_57 : decode cX0_measureSheets 57 = .ok (.iload_n 3, 1) := by decide +kernel
theorem dX0_measureSheets_58 : decode cX0_measureSheets 58 = .ok (.invokevirtual 91, 3) := by decide +kernel
theorem dX0_measureSheets_61 : decode cX0_measureSheets 61 = .ok (.istore 6, 2) := by decide +kernel
theorem dX0_measureSheets_63 : decode cX0_measureSheets 63 = .ok (.iconst 0, 1) := by decide +kernel
theorem dX0_measureSheets_64 : decode cX0_measureSheets 64 = .ok (.istore 7, 2) := by decide +kernel
theorem dX0_measureSheets_66 : decode cX0_measureSheets 66 = .ok (.iload 7, 2) := by decide +kernel
theorem dX0_measureSheets_68 : decode cX0_measureSheets 68 = .ok (.iload 4, 2) := by decide +kernel
theorem dX0_measureSheets_70 : decode cX0_measureSheets 70 = .ok (.if_icmp .ge 82, 3) := by decide +kernel
theorem dX0_measureSheets_73 : decode cX0_measureSheets 73 = .ok (.iload_n 1, 1) := by decide +kernel
theorem dX0_measureSheets_74 : decode cX0_measureSheets 74 = .ok (.iload 7, 2) := by decide +kernel
theorem dX0_measureSheets_76 : decode cX0_measureSheets 76 = .ok (.ixor, 1) := by decide +kernel
theorem dX0_measureSheets_77 : decode cX0_measureSheets 77 = .ok (.istore 8, 2) := by decide +kernel
theorem dX0_measureSheets_79 : decode cX0_measureSheets 79 = .ok (.iload 8, 2) := by decide +kernel
theorem dX0_measureSheets_81 : decode cX0_measureSheets 81 = .ok (.iload 4, 2) := by decide +kernel
theorem dX0_measureSheets_83 : decode cX0_measureSheets 83 = .ok (.ixor, 1) := by decide +kernel
theorem dX0_measureSheets_84 : decode cX0_measureSheets 84 = .ok (.istore 9, 2) := by decide +kernel
theorem dX0_measureSheets_86 : decode cX0_measureSheets 86 = .ok (.aload_n 0, 1) := by decide +kernel
theorem dX0_measureSheets_87 : decode cX0_measureSheets 87 = .ok (.getfield 9, 3) := by decide +kernel
theorem dX0_measureSheets_90 : decode cX0_measureSheets 90 = .ok (.iload 9, 2) := by decide +kernel
theorem dX0_measureSheets_92 : decode cX0_measureSheets 92 = .ok (.aload_n 0, 1) := by decide +kernel
theorem dX0_measureSheets_93 : decode cX0_measureSheets 93 = .ok (.getfield 9, 3) := by decide +kernel
theorem dX0_measureSheets_96 : decode cX0_measureSheets 96 = .ok (.iload 8, 2) := by decide +kernel
theorem dX0_measureSheets_98 : decode cX0_measureSheets 98 = .ok (.iaload, 1) := by decide +kernel
theorem dX0_measureSheets_99 : decode cX0_measureSheets 99 = .ok (.iload 5, 2) := by decide +kernel
theorem dX0_measureSheets_101 : decode cX0_measureSheets 101 = .ok (.iadd, 1) := by decide +kernel
theorem dX0_measureSheets_102 : decode cX0_measureSheets 102 = .ok (.iastore, 1) := by decide +kernel
theorem dX0_measureSheets_103 : decode cX0_measureSheets 103 = .ok (.aload_n 0, 1) := by decide +kernel
theorem dX0_measureSheets_104 : decode cX0_measureSheets 104 = .ok (.getfield 15, 3) := by decide +kernel
theorem dX0_measureSheets_107 : decode cX0_measureSheets 107 = .ok (.iload 9, 2) := by decide +kernel
theorem dX0_measureSheets_109 : decode cX0_measureSheets 109 = .ok (.aload_n 0, 1) := by decide +kernel
theorem dX0_measureSheets_110 : decode cX0_measureSheets 110 = .ok (.getfield 15, 3) := by decide +kernel
theorem dX0_measureSheets_113 : decode cX0_measureSheets 113 = .ok (.iload 8, 2) := by decide +kernel
theorem dX0_measureSheets_115 : decode cX0_measureSheets 115 = .ok (.iaload, 1) := by decide +kernel
theorem dX0_measureSheets_116 : decode cX0_measureSheets 116 = .ok (.iload 6, 2) := by decide +kernel
theorem dX0_measureSheets_118 : decode cX0_measureSheets 118 = .ok (.iadd, 1) := by decide +kernel
theorem dX0_measureSheets_119 : decode cX0_measureSheets 119 = .ok (.iastore, 1) := by decide +kernel
theorem dX0_measureSheets_120 : decode cX0_measureSheets 120 = .ok (.aload_n 0, 1) := by decide +kernel
theorem dX0_measureSheets_121 : decode cX0_measureSheets 121 = .ok (.getfield 18, 3) := by decide +kernel
theorem dX0_measureSheets_124 : decode cX0_measureSheets 124 = .ok (.iload 9, 2) := by decide +kernel
theorem dX0_measureSheets_126 : decode cX0_measureSheets 126 = .ok (.iload_n 2, 1) := by decide +kernel
theorem dX0_measureSheets_127 : decode cX0_measureSheets 127 = .ok (.iastore, 1) := by decide +kernel
theorem dX0_measureSheets_128 : decode cX0_measureSheets 128 = .ok (.iload_n 2, 1) := by decide +kernel
theorem dX0_measureSheets_129 : decode cX0_measureSheets 129 = .ok (.aload_n 0, 1) := by decide +kernel
theorem dX0_measureSheets_130 : decode cX0_measureSheets 130 = .ok (.getfield 15, 3) := by decide +kernel
theorem dX0_measureSheets_133 : decode cX0_measureSheets 133 = .ok (.iload 9, 2) := by decide +kernel
theorem dX0_measureSheets_135 : decode cX0_measureSheets 135 = .ok (.iaload, 1) := by decide +kernel
theorem dX0_measureSheets_136 : decode cX0_measureSheets 136 = .ok (.aload_n 0, 1) := by decide +kernel
theorem dX0_measureSheets_137 : decode cX0_measureSheets 137 = .ok (.getfield 9, 3) := by decide +kernel
theorem dX0_measureSheets_140 : decode cX0_measureSheets 140 = .ok (.iload 9, 2) := by decide +kernel
theorem dX0_measureSheets_142 : decode cX0_measureSheets 142 = .ok (.iaload, 1) := by decide +kernel
theorem dX0_measureSheets_143 : decode cX0_measureSheets 143 = .ok (.isub, 1) := by decide +kernel
theorem dX0_measureSheets_144 : decode cX0_measureSheets 144 = .ok (.iadd, 1) := by decide +kernel
theorem dX0_measureSheets_145 : decode cX0_measureSheets 145 = .ok (.istore_n 2, 1) := by decide +kernel
theorem dX0_measureSheets_146 : decode cX0_measureSheets 146 = .ok (.iinc 7 1, 3) := by decide +kernel
theorem dX0_measureSheets_149 : decode cX0_measureSheets 149 = .ok (.goto (-83), 3) := by decide +kernel
theorem dX0_measureSheets_152 : decode cX0_measureSheets 152 = .ok (.iinc 3 1, 3) := by decide +kernel
theorem dX0_measureSheets_155 : decode cX0_measureSheets 155 = .ok (.goto (-122), 3) := by decide +kernel
theorem dX0_measureSheets_158 : decode cX0_measureSheets 158 = .ok (.iload_n 2, 1) := by decide +kernel
theorem dX0_measureSheets_159 : decode cX0_measureSheets 159 = .ok (.ireturn, 1) := by decide +kernel
theorem dX0_leastOfRow_0 : decode cX0_leastOfRow 0 = .ok (.aload_n 0, 1) := by decide +kernel
theorem dX0_leastOfRow_1 : decode cX0_leastOfRow 1 = .ok (.getfield 32, 3) := by decide +kernel
theorem dX0_leastOfRow_4 : decode cX0_leastOfRow 4 = .ok (.getfield 94, 3) := by decide +kernel
theorem dX0_leastOfRow_7 : decode cX0_leastOfRow 7 = .ok (.invokevirtual 98, 3) := by decide +kernel
theorem dX0_leastOfRow_10 : decode cX0_leastOfRow 10 = .ok (.istore_n 2, 1) := by decide +kernel
theorem dX0_leastOfRow_11 : decode cX0_leastOfRow 11 = .ok (.aload_n 0, 1) := by decide +kernel
theorem dX0_leastOfRow_12 : decode cX0_leastOfRow 12 = .ok (.getfield 32, 3) := by decide +kernel
theorem dX0_leastOfRow_15 : decode cX0_leastOfRow 15 = .ok (.getfield 103, 3) := by decide +kernel
theorem dX0_leastOfRow_18 : decode cX0_leastOfRow 18 = .ok (.iload_n 1, 1) := by decide +kernel
theorem dX0_leastOfRow_19 : decode cX0_leastOfRow 19 = .ok (.iload_n 2, 1) := by decide +kernel
theorem dX0_leastOfRow_20 : decode cX0_leastOfRow 20 = .ok (.imul, 1) := by decide +kernel
theorem dX0_leastOfRow_21 : decode cX0_leastOfRow 21 = .ok (.iaload, 1) := by decide +kernel
theorem dX0_leastOfRow_22 : decode cX0_leastOfRow 22 = .ok (.istore_n 3, 1) := by decide +kernel
theorem dX0_leastOfRow_23 : decode cX0_leastOfRow 23 = .ok (.iconst 1, 1) := by decide +kernel
theorem dX0_leastOfRow_24 : decode cX0_leastOfRow 24 = .ok (.istore 4, 2) := by decide +kernel
theorem dX0_leastOfRow_26 : decode cX0_leastOfRow 26 = .ok (.iload 4, 2) := by decide +kernel
theorem dX0_leastOfRow_28 : decode cX0_leastOfRow 28 = .ok (.iload_n 2, 1) := by decide +kernel
theorem dX0_leastOfRow_29 : decode cX0_leastOfRow 29 = .ok (.if_icmp .ge 28, 3) := by decide +kernel
theorem dX0_leastOfRow_32 : decode cX0_leastOfRow 32 = .ok (.iload_n 3, 1) := by decide +kernel
theorem dX0_leastOfRow_33 : decode cX0_leastOfRow 33 = .ok (.aload_n 0, 1) := by decide +kernel
theorem dX0_leastOfRow_34 : decode cX0_leastOfRow 34 = .ok (.getfield 32, 3) := by decide +kernel
theorem dX0_leastOfRow_37 : decode cX0_leastOfRow 37 = .ok (.getfield 103, 3) := by decide +kernel
theorem dX0_leastOfRow_40 : decode cX0_leastOfRow 40 = .ok (.iload_n 1, 1) := by decide +kernel
theorem dX0_leastOfRow_41 : decode cX0_leastOfRow 41 = .ok (.iload_n 2, 1) := by decide +kernel
theorem dX0_leastOfRow_42 : decode cX0_leastOfRow 42 = .ok (.imul, 1) := by decide +kernel
theorem dX0_leastOfRow_43 : decode cX0_leastOfRow 43 = .ok (.iload 4, 2) := by decide +kernel
theorem dX0_leastOfRow_45 : decode cX0_leastOfRow 45 = .ok (.iadd, 1) := by decide +kernel
theorem dX0_leastOfRow_46 : decode cX0_leastOfRow 46 = .ok (.iaload, 1) := by decide +kernel
theorem dX0_leastOfRow_47 : decode cX0_leastOfRow 47 = .ok (.invokestatic 106, 3) := by decide +kernel
theorem dX0_leastOfRow_50 : decode cX0_leastOfRow 50 = .ok (.istore_n 3, 1) := by decide +kernel
theorem dX0_leastOfRow_51 : decode cX0_leastOfRow 51 = .ok (.iinc 4 1, 3) := by decide +kernel
theorem dX0_leastOfRow_54 : decode cX0_leastOfRow 54 = .ok (.goto (-28), 3) := by decide +kernel
theorem dX0_leastOfRow_57 : decode cX0_leastOfRow 57 = .ok (.iload_n 3, 1) := by decide +kernel
theorem dX0_leastOfRow_58 : decode cX0_leastOfRow 58 = .ok (.ireturn, 1) := by decide +kernel
theorem dX0_mostOfRow_0 : decode cX0_mostOfRow 0 = .ok (.aload_n 0, 1) := by decide +kernel
theorem dX0_mostOfRow_1 : decode cX0_mostOfRow 1 = .ok (.getfield 32, 3) := by decide +kernel
theorem dX0_mostOfRow_4 : decode cX0_mostOfRow 4 = .ok (.getfield 94, 3) := by decide +kernel
theorem dX0_mostOfRow_7 : decode cX0_mostOfRow 7 = .ok (.invokevirtual 98, 3) := by decide +kernel
theorem dX0_mostOfRow_10 : decode cX0_mostOfRow 10 = .ok (.istore_n 2, 1) := by decide +kernel
theorem dX0_mostOfRow_11 : decode cX0_mostOfRow 11 = .ok (.iconst 0, 1) := by decide +kernel
theorem dX0_mostOfRow_12 : decode cX0_mostOfRow 12 = .ok (.istore_n 3, 1) := by decide +kernel
theorem dX0_mostOfRow_13 : decode cX0_mostOfRow 13 = .ok (.iconst 0, 1) := by decide +kernel
theorem dX0_mostOfRow_14 : decode cX0_mostOfRow 14 = .ok (.istore 4, 2) := by decide +kernel
theorem dX0_mostOfRow_16 : decode cX0_mostOfRow 16 = .ok (.iload 4, 2) := by decide +kernel
theorem dX0_mostOfRow_18 : decode cX0_mostOfRow 18 = .ok (.iload_n 2, 1) := by decide +kernel
theorem dX0_mostOfRow_19 : decode cX0_mostOfRow 19 = .ok (.if_icmp .ge 28, 3) := by decide +kernel
theorem dX0_mostOfRow_22 : decode cX0_mostOfRow 22 = .ok (.iload_n 3, 1) := by decide +kernel
theorem dX0_mostOfRow_23 : decode cX0_mostOfRow 23 = .ok (.aload_n 0, 1) := by decide +kernel
theorem dX0_mostOfRow_24 : decode cX0_mostOfRow 24 = .ok (.getfield 32, 3) := by decide +kernel
theorem dX0_mostOfRow_27 : decode cX0_mostOfRow 27 = .ok (.getfield 103, 3) := by decide +kernel
theorem dX0_mostOfRow_30 : decode cX0_mostOfRow 30 = .ok (.iload_n 1, 1) := by decide +kernel
theorem dX0_mostOfRow_31 : decode cX0_mostOfRow 31 = .ok (.iload_n 2, 1) := by decide +kernel
theorem dX0_mostOfRow_32 : decode cX0_mostOfRow 32 = .ok (.imul, 1) := by decide +kernel
theorem dX0_mostOfRow_33 : decode cX0_mostOfRow 33 = .ok (.iload 4, 2) := by decide +kernel
theorem dX0_mostOfRow_35 : decode cX0_mostOfRow 35 = .ok (.iadd, 1) := by decide +kernel
theorem dX0_mostOfRow_36 : decode cX0_mostOfRow 36 = .ok (.iaload, 1) := by decide +kernel
theorem dX0_mostOfRow_37 : decode cX0_mostOfRow 37 = .ok (.invokestatic 64, 3) := by decide +kernel
theorem dX0_mostOfRow_40 : decode cX0_mostOfRow 40 = .ok (.istore_n 3, 1) := by decide +kernel
theorem dX0_mostOfRow_41 : decode cX0_mostOfRow 41 = .ok (.iinc 4 1, 3) := by decide +kernel
theorem dX0_mostOfRow_44 : decode cX0_mostOfRow 44 = .ok (.goto (-28), 3) := by decide +kernel
theorem dX0_mostOfRow_47 : decode cX0_mostOfRow 47 = .ok (.iload_n 3, 1) := by decide +kernel
theorem dX0_mostOfRow_48 : decode cX0_mostOfRow 48 = .ok (.ireturn, 1) := by decide +kernel
theorem dX0_ofSheet_0 : decode cX0_ofSheet 0 = .ok (.iload_n 2, 1) := by decide +kernel
theorem dX0_ofSheet_1 : decode cX0_ofSheet 1 = .ok (.aload_n 0, 1) := by decide +kernel
theorem dX0_ofSheet_2 : decode cX0_ofSheet 2 = .ok (.getfield 9, 3) := by decide +kernel
theorem dX0_ofSheet_5 : decode cX0_ofSheet 5 = .ok (.iload_n 1, 1) := by decide +kernel
theorem dX0_ofSheet_6 : decode cX0_ofSheet 6 = .ok (.iaload, 1) := by decide +kernel
theorem dX0_ofSheet_7 : decode cX0_ofSheet 7 = .ok (.if_icmp .gt 12, 3) := by decide +kernel
theorem dX0_ofSheet_10 : decode cX0_ofSheet 10 = .ok (.aload_n 0, 1) := by decide +kernel
theorem dX0_ofSheet_11 : decode cX0_ofSheet 11 = .ok (.getfield 32, 3) := by decide +kernel
theorem dX0_ofSheet_14 : decode cX0_ofSheet 14 = .ok (.iload_n 1, 1) := by decide +kernel
theorem dX0_ofSheet_15 : decode cX0_ofSheet 15 = .ok (.invokevirtual 109, 3) := by decide +kernel
theorem dX0_ofSheet_18 : decode cX0_ofSheet 18 = .ok (.lreturn, 1) := by decide +kernel
theorem dX0_ofSheet_19 : decode cX0_ofSheet 19 = .ok (.iload_n 2, 1) := by decide +kernel
theorem dX0_ofSheet_20 : decode cX0_ofSheet 20 = .ok (.aload_n 0, 1) := by decide +kernel
theorem dX0_ofSheet_21 : decode cX0_ofSheet 21 = .ok (.getfield 15, 3) := by decide +kernel
theorem dX0_ofSheet_24 : decode cX0_ofSheet 24 = .ok (.iload_n 1, 1) := by decide +kernel
theorem dX0_ofSheet_25 : decode cX0_ofSheet 25 = .ok (.iaload, 1) := by decide +kernel
theorem dX0_ofSheet_26 : decode cX0_ofSheet 26 = .ok (.if_icmp .gt 14, 3) := by decide +kernel
theorem dX0_ofSheet_29 : decode cX0_ofSheet 29 = .ok (.iload_n 3, 1) := by decide +kernel
theorem dX0_ofSheet_30 : decode cX0_ofSheet 30 = .ok (.aload_n 0, 1) := by decide +kernel
theorem dX0_ofSheet_31 : decode cX0_ofSheet 31 = .ok (.getfield 32, 3) := by decide +kernel
theorem dX0_ofSheet_34 : decode cX0_ofSheet 34 = .ok (.getfield 83, 3) := by decide +kernel
theorem dX0_ofSheet_37 : decode cX0_ofSheet 37 = .ok (.if_icmp .lt 5, 3) := by decide +kernel
theorem dX0_ofSheet_40 : decode cX0_ofSheet 40 = .ok (.lconst 0, 1) := by decide +kernel
theorem dX0_ofSheet_41 : decode cX0_ofSheet 41 = .ok (.lreturn, 1) := by decide +kernel
theorem dX0_ofSheet_42 : decode cX0_ofSheet 42 = .ok (.aload_n 0, 1) := by decide +kernel
theorem dX0_ofSheet_43 : decode cX0_ofSheet 43 = .ok (.getfield 18, 3) := by decide +kernel
theorem dX0_ofSheet_46 : decode cX0_ofSheet 46 = .ok (.iload_n 1, 1) := by decide +kernel
theorem dX0_ofSheet_47 : decode cX0_ofSheet 47 = .ok (.iaload, 1) := by decide +kernel
theorem dX0_ofSheet_48 : decode cX0_ofSheet 48 = .ok (.iload_n 2, 1) := by decide +kernel
theorem dX0_ofSheet_49 : decode cX0_ofSheet 49 = .ok (.iadd, 1) := by decide +kernel
theorem dX0_ofSheet_50 : decode cX0_ofSheet 50 = .ok (.aload_n 0, 1) := by decide +kernel
theorem dX0_ofSheet_51 : decode cX0_ofSheet 51 = .ok (.getfield 9, 3) := by decide +kernel
theorem dX0_ofSheet_54 : decode cX0_ofSheet 54 = .ok (.iload_n 1, 1) := by decide +kernel
theorem dX0_ofSheet_55 : decode cX0_ofSheet 55 = .ok (.iaload, 1) := by decide +kernel
theorem dX0_ofSheet_56 : decode cX0_ofSheet 56 = .ok (.isub, 1) := by decide +kernel
theorem dX0_ofSheet_57 : decode cX0_ofSheet 57 = .ok (.iconst 1, 1) := by decide +kernel
theorem dX0_ofSheet_58 : decode cX0_ofSheet 58 = .ok (.isub, 1) := by decide +kernel
theorem dX0_ofSheet_59 : decode cX0_ofSheet 59 = .ok (.istore 4, 2) := by decide +kernel
theorem dX0_ofSheet_61 : decode cX0_ofSheet 61 = .ok (.aload_n 0, 1) := by decide +kernel
theorem dX0_ofSheet_62 : decode cX0_ofSheet 62 = .ok (.getfield 25, 3) := by decide +kernel
theorem dX0_ofSheet_65 : decode cX0_ofSheet 65 = .ok (.iload 4, 2) := by decide +kernel
theorem dX0_ofSheet_67 : decode cX0_ofSheet 67 = .ok (.laload, 1) := by decide +kernel
theorem dX0_ofSheet_68 : decode cX0_ofSheet 68 = .ok (.ldc2_w 70, 3) := by decide +kernel
theorem dX0_ofSheet_71 : decode cX0_ofSheet 71 = .ok (.lcmp, 1) := by decide +kernel
theorem dX0_ofSheet_72 : decode cX0_ofSheet 72 = .ok (.ifCond .ne 24, 3) := by decide +kernel
theorem dX0_ofSheet_75 : decode cX0_ofSheet 75 = .ok (.aload_n 0, 1) := by decide +kernel
theorem dX0_ofSheet_76 : decode cX0_ofSheet 76 = .ok (.iload_n 1, 1) := by decide +kernel
theorem dX0_ofSheet_77 : decode cX0_ofSheet 77 = .ok (.iload_n 2, 1) := by decide +kernel
theorem dX0_ofSheet_78 : decode cX0_ofSheet 78 = .ok (.iload_n 3, 1) := by decide +kernel
theorem dX0_ofSheet_79 : decode cX0_ofSheet 79 = .ok (.invokevirtual 52, 3) := by decide +kernel
theorem dX0_ofSheet_82 : decode cX0_ofSheet 82 = .ok (.aload_n 0, 1) := by decide +kernel
theorem dX0_ofSheet_83 : decode cX0_ofSheet 83 = .ok (.getfield 25, 3) := by decide +kernel
theorem dX0_ofSheet_86 : decode cX0_ofSheet 86 = .ok (.iload 4, 2) := by decide +kernel
theorem dX0_ofSheet_88 : decode cX0_ofSheet 88 = .ok (.aload_n 0, 1) := by decide +kernel
theorem dX0_ofSheet_89 : decode cX0_ofSheet 89 = .ok (.getfield 41, 3) := by decide +kernel
theorem dX0_ofSheet_92 : decode cX0_ofSheet 92 = .ok (.invokevirtual 113, 3) := by decide +kernel
theorem dX0_ofSheet_95 : decode cX0_ofSheet 95 = .ok (.lastore, 1) := by decide +kernel
theorem dX0_ofSheet_96 : decode cX0_ofSheet 96 = .ok (.aload_n 0, 1) := by decide +kernel
theorem dX0_ofSheet_97 : decode cX0_ofSheet 97 = .ok (.getfield 25, 3) := by decide +kernel
theorem dX0_ofSheet_100 : decode cX0_ofSheet 100 = .ok (.iload 4, 2) := by decide +kernel
theorem dX0_ofSheet_102 : decode cX0_ofSheet 102 = .ok (.laload, 1) := by decide +kernel
theorem dX0_ofSheet_103 : decode cX0_ofSheet 103 = .ok (.lreturn, 1) := by decide +kernel
theorem dX0_layGround_0 : decode cX0_layGround 0 = .ok (.aload_n 0, 1) := by decide +kernel
theorem dX0_layGround_1 : decode cX0_layGround 1 = .ok (.getfield 32, 3) := by decide +kernel
theorem dX0_layGround_4 : decode cX0_layGround 4 = .ok (.getfield 94, 3) := by decide +kernel
theorem dX0_layGround_7 : decode cX0_layGround 7 = .ok (.invokevirtual 98, 3) := by decide +kernel
theorem dX0_layGround_10 : decode cX0_layGround 10 = .ok (.istore 4, 2) := by decide +kernel
theorem dX0_layGround_12 : decode cX0_layGround 12 = .ok (.iload_n 3, 1) := by decide +kernel
theorem dX0_layGround_13 : decode cX0_layGround 13 = .ok (.iload 4, 2) := by decide +kernel
theorem dX0_layGround_15 : decode cX0_layGround 15 = .ok (.imul, 1) := by decide +kernel
theorem dX0_layGround_16 : decode cX0_layGround 16 = .ok (.istore 5, 2) := by decide +kernel
theorem dX0_layGround_18 : decode cX0_layGround 18 = .ok (.iload 5, 2) := by decide +kernel
theorem dX0_layGround_20 : decode cX0_layGround 20 = .ok (.iload 4, 2) := by decide +kernel
theorem dX0_layGround_22 : decode cX0_layGround 22 = .ok (.iadd, 1) := by decide +kernel
theorem dX0_layGround_23 : decode cX0_layGround 23 = .ok (.sipush 756, 3) := by decide +kernel
theorem dX0_layGround_26 : decode cX0_layGround 26 = .ok (.if_icmp .le 4, 3) := by decide +kernel
theorem dX0_layGround_29 : decode cX0_layGround 29 = .ok (.return_, 1) := by decide +kernel
theorem dX0_layGround_30 : decode cX0_layGround 30 = .ok (.aload_n 0, 1) := by decide +kernel
theorem dX0_layGround_31 : decode cX0_layGround 31 = .ok (.getfield 21, 3) := by decide +kernel
theorem dX0_layGround_34 : decode cX0_layGround 34 = .ok (.iload 5, 2) := by decide +kernel
theorem dX0_layGround_36 : decode cX0_layGround 36 = .ok (.iload 5, 2) := by decide +kernel
theorem dX0_layGround_38 : decode cX0_layGround 38 = .ok (.iload 4, 2) := by decide +kernel
theorem dX0_layGround_40 : decode cX0_layGround 40 = .ok (.iadd, 1) := by decide +kernel
theorem dX0_layGround_41 : decode cX0_layGround 41 = .ok (.lconst 0, 1) := by decide +kernel
theorem dX0_layGround_42 : decode cX0_layGround 42 = .ok (.invokestatic 72, 3) := by decide +kernel
theorem dX0_layGround_45 : decode cX0_layGround 45 = .ok (.iconst 0, 1) := by decide +kernel
theorem dX0_layGround_46 : decode cX0_layGround 46 = .ok (.istore 6, 2) := by decide +kernel
theorem dX0_layGround_48 : decode cX0_layGround 48 = .ok (.iload 6, 2) := by decide +kernel
theorem dX0_layGround_50 : decode cX0_layGround 50 = .ok (.aload_n 0, 1) := by decide +kernel
theorem dX0_layGround_51 : decode cX0_layGround 51 = .ok (.getfield 32, 3) := by decide +kernel
theorem dX0_layGround_54 : decode cX0_layGround 54 = .ok (.getfield 83, 3) := by decide +kernel
theorem dX0_layGround_57 : decode cX0_layGround 57 = .ok (.if_icmp .ge 100, 3) := by decide +kernel
theorem dX0_layGround_60 : decode cX0_layGround 60 = .ok (.aload_n 0, 1) := by decide +kernel
theorem dX0_layGround_61 : decode cX0_layGround 61 = .ok (.getfield 32, 3) := by decide +kernel
theorem dX0_layGround_64 : decode cX0_layGround 64 = .ok (.iload_n 1, 1) := by decide +kernel
theorem dX0_layGround_65 : decode cX0_layGround 65 = .ok (.iload 6, 2) := by decide +kernel
theorem dX0_layGround_67 : decode cX0_layGround 67 = .ok (.invokevirtual 117, 3) := by decide +kernel
theorem dX0_layGround_70 : decode cX0_layGround 70 = .ok (.ifCond .eq 81, 3) := by decide +kernel
theorem dX0_layGround_73 : decode cX0_layGround 73 = .ok (.iload_n 1, 1) := by decide +kernel
theorem dX0_layGround_74 : decode cX0_layGround 74 = .ok (.iconst 1, 1) := by decide +kernel
theorem dX0_layGround_75 : decode cX0_layGround 75 = .ok (.iload 6, 2) := by decide +kernel
theorem dX0_layGround_77 : decode cX0_layGround 77 = .ok (.ishl, 1) := by decide +kernel
theorem dX0_layGround_78 : decode cX0_layGround 78 = .ok (.ior, 1) := by decide +kernel
theorem dX0_layGround_79 : decode cX0_layGround 79 = .ok (.istore 7, 2) := by decide +kernel
theorem dX0_layGround_81 : decode cX0_layGround 81 = .ok (.iconst 0, 1) := by decide +kernel
theorem dX0_layGround_82 : decode cX0_layGround 82 = .ok (.istore 8, 2) := by decide +kernel
theorem dX0_layGround_84 : decode cX0_layGround 84 = .ok (.iload 8, 2) := by decide +kernel
theorem dX0_layGround_86 : decode cX0_layGround 86 = .ok (.iload 4, 2) := by decide +kernel
theorem dX0_layGround_88 : decode cX0_layGround 88 = .ok (.if_icmp .ge 63, 3) := by decide +kernel
theorem dX0_layGround_91 : decode cX0_layGround 91 = .ok (.aload_n 0, 1) := by decide +kernel
theorem dX0_layGround_92 : decode cX0_layGround 92 = .ok (.iload 7, 2) := by decide +kernel
theorem dX0_layGround_94 : decode cX0_layGround 94 = .ok (.iload_n 2, 1) := by decide +kernel
theorem dX0_layGround_95 : decode cX0_layGround 95 = .ok (.aload_n 0, 1) := by decide +kernel
theorem dX0_layGround_96 : decode cX0_layGround 96 = .ok (.getfield 32, 3) := by decide +kernel
theorem dX0_layGround_99 : decode cX0_layGround 99 = .ok (.getfield 103, 3) := by decide +kernel
theorem dX0_layGround_102 : decode cX0_layGround 102 = .ok (.iload 6, 2) := by decide +kernel
theorem dX0_layGround_104 : decode cX0_layGround 104 = .ok (.iload 4, 2) := by decide +kernel
theorem dX0_layGround_106 : decode cX0_layGround 106 = .ok (.imul, 1) := by decide +kernel
theorem dX0_layGround_107 : decode cX0_layGround 107 = .ok (.iload 8, 2) := by decide +kernel
theorem dX0_layGround_109 : decode cX0_layGround 109 = .ok (.iadd, 1) := by decide +kernel
theorem dX0_layGround_110 : decode cX0_layGround 110 = .ok (.iaload, 1) := by decide +kernel
theorem dX0_layGround_111 : decode cX0_layGround 111 = .ok (.isub, 1) := by decide +kernel
theorem dX0_layGround_112 : decode cX0_layGround 112 = .ok (.iload_n 3, 1) := by decide +kernel
theorem dX0_layGround_113 : decode cX0_layGround 113 = .ok (.iconst 1, 1) := by decide +kernel
theorem dX0_layGround_114 : decode cX0_layGround 114 = .ok (.iadd, 1) := by decide +kernel
theorem dX0_layGround_115 : decode cX0_layGround 115 = .ok (.invokevirtual 48, 3) := by decide +kernel
theorem dX0_layGround_118 : decode cX0_layGround 118 = .ok (.lstore 9, 2) := by decide +kernel
theorem dX0_layGround_120 : decode cX0_layGround 120 = .ok (.aload_n 0, 1) := by decide +kernel
theorem dX0_layGround_121 : decode cX0_layGround 121 = .ok (.getfield 21, 3) := by decide +kernel
theorem dX0_layGround_124 : decode cX0_layGround 124 = .ok (.iload 5, 2) := by decide +kernel
theorem dX0_layGround_126 : decode cX0_layGround 126 = .ok (.iload 8, 2) := by decide +kernel
theorem dX0_layGround_128 : decode cX0_layGround 128 = .ok (.iadd, 1) := by decide +kernel
theorem dX0_layGround_129 : decode cX0_layGround 129 = .ok (.aload_n 0, 1) := by decide +kernel
theorem dX0_layGround_130 : decode cX0_layGround 130 = .ok (.getfield 21, 3) := by decide +kernel
theorem dX0_layGround_133 : decode cX0_layGround 133 = .ok (.iload 5, 2) := by decide +kernel
theorem dX0_layGround_135 : decode cX0_layGround 135 = .ok (.iload 8, 2) := by decide +kernel
theorem dX0_layGround_137 : decode cX0_layGround 137 = .ok (.iadd, 1) := by decide +kernel
theorem dX0_layGround_138 : decode cX0_layGround 138 = .ok (.laload, 1) := by decide +kernel
theorem dX0_layGround_139 : decode cX0_layGround 139 = .ok (.lload 9, 2) := by decide +kernel
theorem dX0_layGround_141 : decode cX0_layGround 141 = .ok (.invokestatic 121, 3) := by decide +kernel
theorem dX0_layGround_144 : decode cX0_layGround 144 = .ok (.lastore, 1) := by decide +kernel
theorem dX0_layGround_145 : decode cX0_layGround 145 = .ok (.iinc 8 1, 3) := by decide +kernel
theorem dX0_layGround_148 : decode cX0_layGround 148 = .ok (.goto (-64), 3) := by decide +kernel
theorem dX0_layGround_151 : decode cX0_layGround 151 = .ok (.iinc 6 1, 3) := by decide +kernel
theorem dX0_layGround_154 : decode cX0_layGround 154 = .ok (.goto (-106), 3) := by decide +kernel
theorem dX0_layGround_157 : decode cX0_layGround 157 = .ok (.aload_n 0, 1) := by decide +kernel
theorem dX0_layGround_158 : decode cX0_layGround 158 = .ok (.getfield 21, 3) := by decide +kernel
theorem dX0_layGround_161 : decode cX0_layGround 161 = .ok (.iload 5, 2) := by decide +kernel
theorem dX0_layGround_163 : decode cX0_layGround 163 = .ok (.aload_n 0, 1) := by decide +kernel
theorem dX0_layGround_164 : decode cX0_layGround 164 = .ok (.getfield 41, 3) := by decide +kernel
theorem dX0_layGround_167 : decode cX0_layGround 167 = .ok (.invokevirtual 124, 3) := by decide +kernel
theorem dX0_layGround_170 : decode cX0_layGround 170 = .ok (.aload_n 0, 1) := by decide +kernel
theorem dX0_layGround_171 : decode cX0_layGround 171 = .ok (.getfield 32, 3) := by decide +kernel
theorem dX0_layGround_174 : decode cX0_layGround 174 = .ok (.getfield 94, 3) := by decide +kernel
theorem dX0_layGround_177 : decode cX0_layGround 177 = .ok (.getfield 128, 3) := by decide +kernel
theorem dX0_layGround_180 : decode cX0_layGround 180 = .ok (.iload 4, 2) := by decide +kernel
theorem dX0_layGround_182 : decode cX0_layGround 182 = .ok (.invokestatic 131, 3) := by decide +kernel
theorem dX0_layGround_185 : decode cX0_layGround 185 = .ok (.return_, 1) := by decide +kernel
theorem dX1_init_0 : decode cX1_init 0 = .ok (.aload_n 0, 1) := by decide +kernel
theorem dX1_init_1 : decode cX1_init 1 = .ok (.invokespecial 3, 3) := by decide +kernel
theorem dX1_init_4 : decode cX1_init 4 = .ok (.aload_n 0, 1) := by decide +kernel
theorem dX1_init_5 : decode cX1_init 5 = .ok (.new 9, 3) := by decide +kernel
theorem dX1_init_8 : decode cX1_init 8 = .ok (.dup, 1) := by decide +kernel
theorem dX1_init_9 : decode cX1_init 9 = .ok (.invokespecial 11, 3) := by decide +kernel
theorem dX1_init_12 : decode cX1_init 12 = .ok (.putfield 12, 3) := by decide +kernel
theorem dX1_init_15 : decode cX1_init 15 = .ok (.aload_n 0, 1) := by decide +kernel
theorem dX1_init_16 : decode cX1_init 16 = .ok (.sipush 756, 3) := by decide +kernel
theorem dX1_init_19 : decode cX1_init 19 = .ok (.newarray .int, 2) := by decide +kernel
theorem dX1_init_21 : decode cX1_init 21 = .ok (.putfield 18, 3) := by decide +kernel
theorem dX1_init_24 : decode cX1_init 24 = .ok (.aload_n 0, 1) := by decide +kernel
theorem dX1_init_25 : decode cX1_init 25 = .ok (.bipush 25, 2) := by decide +kernel
theorem dX1_init_27 : decode cX1_init 27 = .ok (.newarray .long, 2) := by decide +kernel
theorem dX1_init_29 : decode cX1_init 29 = .ok (.putfield 22, 3) := by decide +kernel
theorem dX1_init_32 : decode cX1_init 32 = .ok (.aload_n 0, 1) := by decide +kernel
theorem dX1_init_33 : decode cX1_init 33 = .ok (.bipush 6, 2) := by decide +kernel
theorem dX1_init_35 : decode cX1_init 35 = .ok (.newarray .long, 2) := by decide +kernel
theorem dX1_init_37 : decode cX1_init 37 = .ok (.putfield 26, 3) := by decide +kernel
theorem dX1_init_40 : decode cX1_init 40 = .ok (.aload_n 0, 1) := by decide +kernel
theorem dX1_init_41 : decode cX1_init 41 = .ok (.iconst 1, 1) := by decide +kernel
theorem dX1_init_42 : decode cX1_init 42 = .ok (.putfield 29, 3) := by decide +kernel
theorem dX1_init_45 : decode cX1_init 45 = .ok (.aload_n 0, 1) := by decide +kernel
theorem dX1_init_46 : decode cX1_init 46 = .ok (.iconst 0, 1) := by decide +kernel
theorem dX1_init_47 : decode cX1_init 47 = .ok (.putfield 33, 3) := by decide +kernel
theorem dX1_init_50 : decode cX1_init 50 = .ok (.return_, 1) := by decide +kernel
theorem dX1_prepare_0 : decode cX1_prepare 0 = .ok (.aload_n 0, 1) := by decide +kernel
theorem dX1_prepare_1 : decode cX1_prepare 1 = .ok (.getfield 12, 3) := by decide +kernel
theorem dX1_prepare_4 : decode cX1_prepare 4 = .ok (.iload_n 1, 1) := by decide +kernel
theorem dX1_prepare_5 : decode cX1_prepare 5 = .ok (.iload_n 2, 1) := by decide +kernel
theorem dX1_prepare_6 : decode cX1_prepare 6 = .ok (.invokevirtual 36, 3) := by decide +kernel
theorem dX1_prepare_9 : decode cX1_prepare 9 = .ok (.aload_n 0, 1) := by decide +kernel
theorem dX1_prepare_10 : decode cX1_prepare 10 = .ok (.iload_n 3, 1) := by decide +kernel
theorem dX1_prepare_11 : decode cX1_prepare 11 = .ok (.putfield 29, 3) := by decide +kernel
theorem dX1_prepare_14 : decode cX1_prepare 14 = .ok (.aload_n 0, 1) := by decide +kernel
theorem dX1_prepare_15 : decode cX1_prepare 15 = .ok (.iload 4, 2) := by decide +kernel
theorem dX1_prepare_17 : decode cX1_prepare 17 = .ok (.putfield 33, 3) := by decide +kernel
theorem dX1_prepare_20 : decode cX1_prepare 20 = .ok (.aload_n 0, 1) := by decide +kernel
theorem dX1_prepare_21 : decode cX1_prepare 21 = .ok (.getfield 26, 3) := by decide +kernel
theorem dX1_prepare_24 : decode cX1_prepare 24 = .ok (.iconst 0, 1) := by decide +kernel
theorem dX1_prepare_25 : decode cX1_prepare 25 = .ok (.lconst 1, 1) := by decide +kernel
theorem dX1_prepare_26 : decode cX1_prepare 26 = .ok (.lastore, 1) := by decide +kernel
theorem dX1_prepare_27 : decode cX1_prepare 27 = .ok (.iconst 1, 1) := by decide +kernel
theorem dX1_prepare_28 : decode cX1_prepare 28 = .ok (.istore 5, 2) := by decide +kernel
theorem dX1_prepare_30 : decode cX1_prepare 30 = .ok (.iload 5, 2) := by decide +kernel
theorem dX1_prepare_32 : decode cX1_prepare 32 = .ok (.iload_n 1, 1) := by decide +kernel
theorem dX1_prepare_33 : decode cX1_prepare 33 = .ok (.if_icmp .gt 28, 3) := by decide +kernel
theorem dX1_prepare_36 : decode cX1_prepare 36 = .ok (.aload_n 0, 1) := by decide +kernel
theorem dX1_prepare_37 : decode cX1_prepare 37 = .ok (.getfield 26, 3) := by decide +kernel
theorem dX1_prepare_40 : decode cX1_prepare 40 = .ok (.iload 5, 2) := by decide +kernel
theorem dX1_prepare_42 : decode cX1_prepare 42 = .ok (.aload_n 0, 1) := by decide +kernel
theorem dX1_prepare_43 : decode cX1_prepare 43 = .ok (.getfield 26, 3) := by decide +kernel
theorem dX1_prepare_46 : decode cX1_prepare 46 = .ok (.iload 5, 2) := by decide +kernel
theorem dX1_prepare_48 : decode cX1_prepare 48 = .ok (.iconst 1, 1) := by decide +kernel
theorem dX1_prepare_49 : decode cX1_prepare 49 = .ok (.isub, 1) := by decide +kernel
theorem dX1_prepare_50 : decode cX1_prepare 50 = .ok (.laload, 1) := by decide +kernel
theorem dX1_prepare_51 : decode cX1_prepare 51 = .ok (.iload_n 2, 1) := by decide +kernel
theorem dX1_prepare_52 : decode cX1_prepare 52 = .ok (.i2l, 1) := by decide +kernel
theorem dX1_prepare_53 : decode cX1_prepare 53 = .ok (.lmul, 1) := by decide +kernel
theorem dX1_prepare_54 : decode cX1_prepare 54 = .ok (.lastore, 1) := by decide +kernel
theorem dX1_prepare_55 : decode cX1_prepare 55 = .ok (.iinc 5 1, 3) := by decide +kernel
theorem dX1_prepare_58 : decode cX1_prepare 58 = .ok (.goto (-28), 3) := by decide +kernel
theorem dX1_prepare_61 : decode cX1_prepare 61 = .ok (.aload_n 0, 1) := by decide +kernel
theorem dX1_prepare_62 : decode cX1_prepare 62 = .ok (.getfield 22, 3) := by decide +kernel
theorem dX1_prepare_65 : decode cX1_prepare 65 = .ok (.iconst 0, 1) := by decide +kernel
theorem dX1_prepare_66 : decode cX1_prepare 66 = .ok (.lconst 1, 1) := by decide +kernel
theorem dX1_prepare_67 : decode cX1_prepare 67 = .ok (.lastore, 1) := by decide +kernel
theorem dX1_prepare_68 : decode cX1_prepare 68 = .ok (.iconst 1, 1) := by decide +kernel
theorem dX1_prepare_69 : decode cX1_prepare 69 = .ok (.istore 5, 2) := by decide +kernel
theorem dX1_prepare_71 : decode cX1_prepare 71 = .ok (.iload 5, 2) := by decide +kernel
theorem dX1_prepare_73 : decode cX1_prepare 73 = .ok (.aload_n 0, 1) := by decide +kernel
theorem dX1_prepare_74 : decode cX1_prepare 74 = .ok (.getfield 29, 3) := by decide +kernel
theorem dX1_prepare_77 : decode cX1_prepare 77 = .ok (.aload_n 0, 1) := by decide +kernel
theorem dX1_prepare_78 : decode cX1_prepare 78 = .ok (.getfield 33, 3) := by decide +kernel
theorem dX1_prepare_81 : decode cX1_prepare 81 = .ok (.imul, 1) := by decide +kernel
theorem dX1_prepare_82 : decode cX1_prepare 82 = .ok (.if_icmp .gt 32, 3) := by decide +kernel
theorem dX1_prepare_85 : decode cX1_prepare 85 = .ok (.aload_n 0, 1) := by decide +kernel
theorem dX1_prepare_86 : decode cX1_prepare 86 = .ok (.getfield 22, 3) := by decide +kernel
theorem dX1_prepare_89 : decode cX1_prepare 89 = .ok (.iload 5, 2) := by decide +kernel
theorem dX1_prepare_91 : decode cX1_prepare 91 = .ok (.aload_n 0, 1) := by decide +kernel
theorem dX1_prepare_92 : decode cX1_prepare 92 = .ok (.getfield 22, 3) := by decide +kernel
theorem dX1_prepare_95 : decode cX1_prepare 95 = .ok (.iload 5, 2) := by decide +kernel
theorem dX1_prepare_97 : decode cX1_prepare 97 = .ok (.iconst 1, 1) := by decide +kernel
theorem dX1_prepare_98 : decode cX1_prepare 98 = .ok (.isub, 1) := by decide +kernel
theorem dX1_prepare_99 : decode cX1_prepare 99 = .ok (.laload, 1) := by decide +kernel
theorem dX1_prepare_100 : decode cX1_prepare 100 = .ok (.aload_n 0, 1) := by decide +kernel
theorem dX1_prepare_101 : decode cX1_prepare 101 = .ok (.getfield 26, 3) := by decide +kernel
theorem dX1_prepare_104 : decode cX1_prepare 104 = .ok (.iload_n 1, 1) := by decide +kernel
theorem dX1_prepare_105 : decode cX1_prepare 105 = .ok (.laload, 1) := by decide +kernel
theorem dX1_prepare_106 : decode cX1_prepare 106 = .ok (.lmul, 1) := by decide +kernel
theorem dX1_prepare_107 : decode cX1_prepare 107 = .ok (.lastore, 1) := by decide +kernel
theorem dX1_prepare_108 : decode cX1_prepare 108 = .ok (.iinc 5 1, 3) := by decide +kernel
theorem dX1_prepare_111 : decode cX1_prepare 111 = .ok (.goto (-40), 3) := by decide +kernel
theorem dX1_prepare_114 : decode cX1_prepare 114 = .ok (.return_, 1) := by decide +kernel
theorem dX1_writePoints_0 : decode cX1_writePoints 0 = .ok (.aload_n 0, 1) := by decide +kernel
theorem dX1_writePoints_1 : decode cX1_writePoints 1 = .ok (.getfield 12, 3) := by decide +kernel
theorem dX1_writePoints_4 : decode cX1_writePoints 4 = .ok (.invokevirtual 40, 3) := by decide +kernel
theorem dX1_writePoints_7 : decode cX1_writePoints 7 = .ok (.istore_n 3, 1) := by decide +kernel
theorem dX1_writePoints_8 : decode cX1_writePoints 8 = .ok (.iconst 0, 1) := by decide +kernel
theorem dX1_writePoints_9 : decode cX1_writePoints 9 = .ok (.istore 4, 2) := by decide +kernel
theorem dX1_writePoints_11 : decode cX1_writePoints 11 = .ok (.iload 4, 2) := by decide +kernel
theorem dX1_writePoints_13 : decode cX1_writePoints 13 = .ok (.iload_n 3, 1) := by decide +kernel
theorem dX1_writePoints_14 : decode cX1_writePoints 14 = .ok (.if_icmp .ge 84, 3) := by decide +kernel
theorem dX1_writePoints_17 : decode cX1_writePoints 17 = .ok (.aload_n 2, 1) := by decide +kernel
theorem dX1_writePoints_18 : decode cX1_writePoints 18 = .ok (.aload_n 0, 1) := by decide +kernel
theorem dX1_writePoints_19 : decode cX1_writePoints 19 = .ok (.getfield 12, 3) := by decide +kernel
theorem dX1_writePoints_22 : decode cX1_writePoints 22 = .ok (.getfield 44, 3) := by decide +kernel
theorem dX1_writePoints_25 : decode cX1_writePoints 25 = .ok (.aload_n 0, 1) := by decide +kernel
theorem dX1_writePoints_26 : decode cX1_writePoints 26 = .ok (.getfield 12, 3) := by decide +kernel
theorem dX1_writePoints_29 : decode cX1_writePoints 29 = .ok (.getfield 47, 3) := by decide +kernel
theorem dX1_writePoints_32 : decode cX1_writePoints 32 = .ok (.iload 4, 2) := by decide +kernel
theorem dX1_writePoints_34 : decode cX1_writePoints 34 = .ok (.iadd, 1) := by decide +kernel
theorem dX1_writePoints_35 : decode cX1_writePoints 35 = .ok (.iaload, 1) := by decide +kernel
theorem dX1_writePoints_36 : decode cX1_writePoints 36 = .ok (.aload_n 0, 1) := by decide +kernel
theorem dX1_writePoints_37 : decode cX1_writePoints 37 = .ok (.getfield 12, 3) := by decide +kernel
theorem dX1_writePoints_40 : decode cX1_writePoints 40 = .ok (.getfield 50, 3) := by decide +kernel
theorem dX1_writePoints_43 : decode cX1_writePoints 43 = .ok (.aload_n 0, 1) := by decide +kernel
theorem dX1_writePoints_44 : decode cX1_writePoints 44 = .ok (.getfield 12, 3) := by decide +kernel
theorem dX1_writePoints_47 : decode cX1_writePoints 47 = .ok (.getfield 53, 3) := by decide +kernel
theorem dX1_writePoints_50 : decode cX1_writePoints 50 = .ok (.invokevirtual 56, 3) := by decide +kernel
theorem dX1_writePoints_53 : decode cX1_writePoints 53 = .ok (.pop, 1) := by decide +kernel
theorem dX1_writePoints_54 : decode cX1_writePoints 54 = .ok (.iconst 0, 1) := by decide +kernel
theorem dX1_writePoints_55 : decode cX1_writePoints 55 = .ok (.istore 5, 2) := by decide +kernel
theorem dX1_writePoints_57 : decode cX1_writePoints 57 = .ok (.iload 5, 2) := by decide +kernel
theorem dX1_writePoints_59 : decode cX1_writePoints 59 = .ok (.aload_n 0, 1) := by decide +kernel
theorem dX1_writePoints_60 : decode cX1_writePoints 60 = .ok (.getfield 33, 3) := by decide +kernel
theorem dX1_writePoints_63 : decode cX1_writePoints 63 = .ok (.if_icmp .ge 29, 3) := by decide +kernel
theorem dX1_writePoints_66 : decode cX1_writePoints 66 = .ok (.aload_n 0, 1) := by decide +kernel
theorem dX1_writePoints_67 : decode cX1_writePoints 67 = .ok (.getfield 18, 3) := by decide +kernel
theorem dX1_writePoints_70 : decode cX1_writePoints 70 = .ok (.iload 5, 2) := by decide +kernel
theorem dX1_writePoints_72 : decode cX1_writePoints 72 = .ok (.iload_n 3, 1) := by decide +kernel
theorem dX1_writePoints_73 : decode cX1_writePoints 73 = .ok (.imul, 1) := by decide +kernel
theorem dX1_writePoints_74 : decode cX1_writePoints 74 = .ok (.iload 4, 2) := by decide +kernel
theorem dX1_writePoints_76 : decode cX1_writePoints 76 = .ok (.iadd, 1) := by decide +kernel
theorem dX1_writePoints_77 : decode cX1_writePoints 77 = .ok (.aload_n 1, 1) := by decide +kernel
theorem dX1_writePoints_78 : decode cX1_writePoints 78 = .ok (.iload 5, 2) := by decide +kernel
theorem dX1_writePoints_80 : decode cX1_writePoints 80 = .ok (.aaload, 1) := by decide +kernel
theorem dX1_writePoints_81 : decode cX1_writePoints 81 = .ok (.aload_n 2, 1) := by decide +kernel
theorem dX1_writePoints_82 : decode cX1_writePoints 82 = .ok (.invokevirtual 62, 3) := by decide +kernel
theorem dX1_writePoints_85 : decode cX1_writePoints 85 = .ok (.iastore, 1) := by decide +kernel
theorem dX1_writePoints_86 : decode cX1_writePoints 86 = .ok (.iinc 5 1, 3) := by decide +kernel
theorem dX1_writePoints_89 : decode cX1_writePoints 89 = .ok (.goto (-32), 3) := by decide +kernel
theorem dX1_writePoints_92 : decode cX1_writePoints 92 = .ok (.iinc 4 1, 3) := by decide +kernel
theorem dX1_writePoints_95 : decode cX1_writePoints 95 = .ok (.goto (-84), 3) := by decide +kernel
theorem dX1_writePoints_98 : decode cX1_writePoints 98 = .ok (.return_, 1) := by decide +kernel
theorem dX1_pointsAt_0 : decode cX1_pointsAt 0 = .ok (.aload_n 0, 1) := by decide +kernel
theorem dX1_pointsAt_1 : decode cX1_pointsAt 1 = .ok (.getfield 18, 3) := by decide +kernel
theorem dX1_pointsAt_4 : decode cX1_pointsAt 4 = .ok (.iload_n 1, 1) := by decide +kernel
theorem dX1_pointsAt_5 : decode cX1_pointsAt 5 = .ok (.aload_n 0, 1) := by decide +kernel
theorem dX1_pointsAt_6 : decode cX1_pointsAt 6 = .ok (.getfield 12, 3) := by decide +kernel
theorem dX1_pointsAt_9 : decode cX1_pointsAt 9 = .ok (.invokevirtual 40, 3) := by decide +kernel
theorem dX1_pointsAt_12 : decode cX1_pointsAt 12 = .ok (.imul, 1) := by decide +kernel
theorem dX1_pointsAt_13 : decode cX1_pointsAt 13 = .ok (.iload_n 2, 1) := by decide +kernel
theorem dX1_pointsAt_14 : decode cX1_pointsAt 14 = .ok (.iadd, 1) := by decide +kernel
theorem dX1_pointsAt_15 : decode cX1_pointsAt 15 = .ok (.aload_n 0, 1) := by decide +kernel
theorem dX1_pointsAt_16 : decode cX1_pointsAt 16 = .ok (.getfield 12, 3) := by decide +kernel
theorem dX1_pointsAt_19 : decode cX1_pointsAt 19 = .ok (.getfield 47, 3) := by decide +kernel
theorem dX1_pointsAt_22 : decode cX1_pointsAt 22 = .ok (.isub, 1) := by decide +kernel
theorem dX1_pointsAt_23 : decode cX1_pointsAt 23 = .ok (.iaload, 1) := by decide +kernel
theorem dX1_pointsAt_24 : decode cX1_pointsAt 24 = .ok (.ireturn, 1) := by decide +kernel
theorem dX1_freeRows_0 : decode cX1_freeRows 0 = .ok (.aload_n 0, 1) := by decide +kernel
theorem dX1_freeRows_1 : decode cX1_freeRows 1 = .ok (.getfield 33, 3) := by decide +kernel
theorem dX1_freeRows_4 : decode cX1_freeRows 4 = .ok (.iload_n 1, 1) := by decide +kernel
theorem dX1_freeRows_5 : decode cX1_freeRows 5 = .ok (.invokestatic 68, 3) := by decide +kernel
theorem dX1_freeRows_8 : decode cX1_freeRows 8 = .ok (.isub, 1) := by decide +kernel
theorem dX1_freeRows_9 : decode cX1_freeRows 9 = .ok (.ireturn, 1) := by decide +kernel
theorem dX1_fullSheet_0 : decode cX1_fullSheet 0 = .ok (.iconst 1, 1) := by decide +kernel
theorem dX1_fullSheet_1 : decode cX1_fullSheet 1 = .ok (.aload_n 0, 1) := by decide +kernel
theorem dX1_fullSheet_2 : decode cX1_fullSheet 2 = .ok (.getfield 33, 3) := by decide +kernel
theorem dX1_fullSheet_5 : decode cX1_fullSheet 5 = .ok (.ishl, 1) := by decide +kernel
theorem dX1_fullSheet_6 : decode cX1_fullSheet 6 = .ok (.iconst 1, 1) := by decide +kernel
theorem dX1_fullSheet_7 : decode cX1_fullSheet 7 = .ok (.isub, 1) := by decide +kernel
theorem dX1_fullSheet_8 : decode cX1_fullSheet 8 = .ok (.ireturn, 1) := by decide +kernel
theorem dX1_isFree_0 : decode cX1_isFree 0 = .ok (.iload_n 1, 1) := by decide +kernel
theorem dX1_isFree_1 : decode cX1_isFree 1 = .ok (.iload_n 2, 1) := by decide +kernel
theorem dX1_isFree_2 : decode cX1_isFree 2 = .ok (.ishr, 1) := by decide +kernel
theorem dX1_isFree_3 : decode cX1_isFree 3 = .ok (.iconst 1, 1) := by decide +kernel
theorem dX1_isFree_4 : decode cX1_isFree 4 = .ok (.iand, 1) := by decide +kernel
theorem dX1_isFree_5 : decode cX1_isFree 5 = .ok (.ifCond .ne 7, 3) := by decide +kernel
theorem dX1_isFree_8 : decode cX1_isFree 8 = .ok (.iconst 1, 1) := by decide +kernel
theorem dX1_isFree_9 : decode cX1_isFree 9 = .ok (.goto 4, 3) := by decide +kernel
theorem dX1_isFree_12 : decode cX1_isFree 12 = .ok (.iconst 0, 1) := by decide +kernel
theorem dX1_isFree_13 : decode cX1_isFree 13 = .ok (.ireturn, 1) := by decide +kernel
theorem dX1_unitBefore_0 : decode cX1_unitBefore 0 = .ok (.aload_n 0, 1) := by decide +kernel
theorem dX1_unitBefore_1 : decode cX1_unitBefore 1 = .ok (.getfield 22, 3) := by decide +kernel
theorem dX1_unitBefore_4 : decode cX1_unitBefore 4 = .ok (.aload_n 0, 1) := by decide +kernel
theorem dX1_unitBefore_5 : decode cX1_unitBefore 5 = .ok (.getfield 29, 3) := by decide +kernel
theorem dX1_unitBefore_8 : decode cX1_unitBefore 8 = .ok (.aload_n 0, 1) := by decide +kernel
theorem dX1_unitBefore_9 : decode cX1_unitBefore 9 = .ok (.iload_n 1, 1) := by decide +kernel
theorem dX1_unitBefore_10 : decode cX1_unitBefore 10 = .ok (.invokevirtual 74, 3) := by decide +kernel
theorem dX1_unitBefore_13 : decode cX1_unitBefore 13 = .ok (.imul, 1) := by decide +kernel
theorem dX1_unitBefore_14 : decode cX1_unitBefore 14 = .ok (.laload, 1) := by decide +kernel
theorem dX1_unitBefore_15 : decode cX1_unitBefore 15 = .ok (.lreturn, 1) := by decide +kernel
theorem dX2_init_0 : decode cX2_init 0 = .ok (.aload_n 0, 1) := by decide +kernel
theorem dX2_init_1 : decode cX2_init 1 = .ok (.invokespecial 3, 3) := by decide +kernel
theorem dX2_init_4 : decode cX2_init 4 = .ok (.aload_n 0, 1) := by decide +kernel
theorem dX2_init_5 : decode cX2_init 5 = .ok (.sipush 462, 3) := by decide +kernel
theorem dX2_init_8 : decode cX2_init 8 = .ok (.newarray .int, 2) := by decide +kernel
theorem dX2_init_10 : decode cX2_init 10 = .ok (.putfield 9, 3) := by decide +kernel
theorem dX2_init_13 : decode cX2_init 13 = .ok (.aload_n 0, 1) := by decide +kernel
theorem dX2_init_14 : decode cX2_init 14 = .ok (.sipush 462, 3) := by decide +kernel
theorem dX2_init_17 : decode cX2_init 17 = .ok (.newarray .int, 2) := by decide +kernel
theorem dX2_init_19 : decode cX2_init 19 = .ok (.putfield 15, 3) := by decide +kernel
theorem dX2_init_22 : decode cX2_init 22 = .ok (.aload_n 0, 1) := by decide +kernel
theorem dX2_init_23 : decode cX2_init 23 = .ok (.sipush 462, 3) := by decide +kernel
theorem dX2_init_26 : decode cX2_init 26 = .ok (.newarray .int, 2) := by decide +kernel
theorem dX2_init_28 : decode cX2_init 28 = .ok (.putfield 18, 3) := by decide +kernel
theorem dX2_init_31 : decode cX2_init 31 = .ok (.aload_n 0, 1) := by decide +kernel
theorem dX2_init_32 : decode cX2_init 32 = .ok (.sipush 2772, 3) := by decide +kernel
theorem dX2_init_35 : decode cX2_init 35 = .ok (.newarray .int, 2) := by decide +kernel
theorem dX2_init_37 : decode cX2_init 37 = .ok (.putfield 21, 3) := by decide +kernel
theorem dX2_init_40 : decode cX2_init 40 = .ok (.aload_n 0, 1) := by decide +kernel
theorem dX2_init_41 : decode cX2_init 41 = .ok (.iconst 0, 1) := by decide +kernel
theorem dX2_init_42 : decode cX2_init 42 = .ok (.putfield 24, 3) := by decide +kernel
theorem dX2_init_45 : decode cX2_init 45 = .ok (.aload_n 0, 1) := by decide +kernel
theorem dX2_init_46 : decode cX2_init 46 = .ok (.iconst 0, 1) := by decide +kernel
theorem dX2_init_47 : decode cX2_init 47 = .ok (.putfield 28, 3) := by decide +kernel
theorem dX2_init_50 : decode cX2_init 50 = .ok (.aload_n 0, 1) := by decide +kernel
theorem dX2_init_51 : decode cX2_init 51 = .ok (.iconst 1, 1) := by decide +kernel
theorem dX2_init_52 : decode cX2_init 52 = .ok (.putfield 31, 3) := by decide +kernel
theorem dX2_init_55 : decode cX2_init 55 = .ok (.aload_n 0, 1) := by decide +kernel
theorem dX2_init_56 : decode cX2_init 56 = .ok (.iconst 0, 1) := by decide +kernel
theorem dX2_init_57 : decode cX2_init 57 = .ok (.putfield 34, 3) := by decide +kernel
theorem dX2_init_60 : decode cX2_init 60 = .ok (.return_, 1) := by decide +kernel
theorem dX2_build_0 : decode cX2_build 0 = .ok (.aload_n 0, 1) := by decide +kernel
theorem dX2_build_1 : decode cX2_build 1 = .ok (.getfield 24, 3) := by decide +kernel
theorem dX2_build_4 : decode cX2_build 4 = .ok (.iload_n 1, 1) := by decide +kernel
theorem dX2_build_5 : decode cX2_build 5 = .ok (.if_icmp .ne 12, 3) := by decide +kernel
theorem dX2_build_8 : decode cX2_build 8 = .ok (.aload_n 0, 1) := by decide +kernel
theorem dX2_build_9 : decode cX2_build 9 = .ok (.getfield 28, 3) := by decide +kernel
theorem dX2_build_12 : decode cX2_build 12 = .ok (.iload_n 2, 1) := by decide +kernel
theorem dX2_build_13 : decode cX2_build 13 = .ok (.if_icmp .ne 4, 3) := by decide +kernel
theorem dX2_build_16 : decode cX2_build 16 = .ok (.return_, 1) := by decide +kernel
theorem dX2_build_17 : decode cX2_build 17 = .ok (.aload_n 0, 1) := by decide +kernel
theorem dX2_build_18 : decode cX2_build 18 = .ok (.iload_n 1, 1) := by decide +kernel
theorem dX2_build_19 : decode cX2_build 19 = .ok (.putfield 24, 3) := by decide +kernel
theorem dX2_build_22 : decode cX2_build 22 = .ok (.aload_n 0, 1) := by decide +kernel
theorem dX2_build_23 : decode cX2_build 23 = .ok (.iload_n 2, 1) := by decide +kernel
theorem dX2_build_24 : decode cX2_build 24 = .ok (.putfield 28, 3) := by decide +kernel
theorem dX2_build_27 : decode cX2_build 27 = .ok (.aload_n 0, 1) := by decide +kernel
theorem dX2_build_28 : decode cX2_build 28 = .ok (.iconst 1, 1) := by decide +kernel
theorem dX2_build_29 : decode cX2_build 29 = .ok (.putfield 31, 3) := by decide +kernel
theorem dX2_build_32 : decode cX2_build 32 = .ok (.aload_n 0, 1) := by decide +kernel
theorem dX2_build_33 : decode cX2_build 33 = .ok (.iconst 0, 1) := by decide +kernel
theorem dX2_build_34 : decode cX2_build 34 = .ok (.putfield 34, 3) := by decide +kernel
theorem dX2_build_37 : decode cX2_build 37 = .ok (.iconst 0, 1) := by decide +kernel
theorem dX2_build_38 : decode cX2_build 38 = .ok (.istore_n 3, 1) := by decide +kernel
theorem dX2_build_39 : decode cX2_build 39 = .ok (.iload_n 3, 1) := by decide +kernel
theorem dX2_build_40 : decode cX2_build 40 = .ok (.aload_n 0, 1) := by decide +kernel
theorem dX2_build_41 : decode cX2_build 41 = .ok (.getfield 24, 3) := by decide +kernel
theorem dX2_build_44 : decode cX2_build 44 = .ok (.if_icmp .ge 41, 3) := by decide +kernel
theorem dX2_build_47 : decode cX2_build 47 = .ok (.aload_n 0, 1) := by decide +kernel
theorem dX2_build_48 : decode cX2_build 48 = .ok (.getfield 31, 3) := by decide +kernel
theorem dX2_build_51 : decode cX2_build 51 = .ok (.istore 4, 2) := by decide +kernel
theorem dX2_build_53 : decode cX2_build 53 = .ok (.aload_n 0, 1) := by decide +kernel
theorem dX2_build_54 : decode cX2_build 54 = .ok (.aload_n 0, 1) := by decide +kernel
theorem dX2_build_55 : decode cX2_build 55 = .ok (.getfield 34, 3) := by decide +kernel
theorem dX2_build_58 : decode cX2_build 58 = .ok (.iload 4, 2) := by decide +kernel
theorem dX2_build_60 : decode cX2_build 60 = .ok (.invokevirtual 37, 3) := by decide +kernel
theorem dX2_build_63 : decode cX2_build 63 = .ok (.aload_n 0, 1) := by decide +kernel
theorem dX2_build_64 : decode cX2_build 64 = .ok (.aload_n 0, 1) := by decide +kernel
theorem dX2_build_65 : decode cX2_build 65 = .ok (.getfield 34, 3) := by decide +kernel
theorem dX2_build_68 : decode cX2_build 68 = .ok (.iload 4, 2) := by decide +kernel
theorem dX2_build_70 : decode cX2_build 70 = .ok (.invokevirtual 41, 3) := by decide +kernel
theorem dX2_build_73 : decode cX2_build 73 = .ok (.aload_n 0, 1) := by decide +kernel
theorem dX2_build_74 : decode cX2_build 74 = .ok (.iload 4, 2) := by decide +kernel
theorem dX2_build_76 : decode cX2_build 76 = .ok (.putfield 34, 3) := by decide +kernel
theorem dX2_build_79 : decode cX2_build 79 = .ok (.iinc 3 1, 3) := by decide +kernel
theorem dX2_build_82 : decode cX2_build 82 = .ok (.goto (-43), 3) := by decide +kernel
theorem dX2_build_85 : decode cX2_build 85 = .ok (.return_, 1) := by decide +kernel
theorem dX2_addLargestDie_0 : decode cX2_addLargestDie 0 = .ok (.iload_n 1, 1) := by decide +kernel
theorem dX2_addLargestDie_1 : decode cX2_addLargestDie 1 = .ok (.istore_n 3, 1) := by decide +kernel
theorem dX2_addLargestDie_2 : decode cX2_addLargestDie 2 = .ok (.iload_n 3, 1) := by decide +kernel
theorem dX2_addLargestDie_3 : decode cX2_addLargestDie 3 = .ok (.iload_n 2, 1) := by decide +kernel
theorem dX2_addLargestDie_4 : decode cX2_addLargestDie 4 = .ok (.if_icmp .ge 126, 3) := by decide +kernel
theorem dX2_addLargestDie_7 : decode cX2_addLargestDie 7 = .ok (.iconst 1, 1) := by decide +kernel
theorem dX2_addLargestDie_8 : decode cX2_addLargestDie 8 = .ok (.aload_n 0, 1) := by decide +kernel
theorem dX2_addLargestDie_9 : decode cX2_addLargestDie 9 = .ok (.getfield 9, 3) := by decide +kernel
theorem dX2_addLargestDie_12 : decode cX2_addLargestDie 12 = .ok (.iload_n 3, 1) := by decide +kernel
theorem dX2_addLargestDie_13 : decode cX2_addLargestDie 13 = .ok (.iaload, 1) := by decide +kernel
theorem dX2_addLargestDie_14 : decode cX2_addLargestDie 14 = .ok (.bipush 10, 2) := by decide +kernel
theorem dX2_addLargestDie_16 : decode cX2_addLargestDie 16 = .ok (.irem, 1) := by decide +kernel
theorem dX2_addLargestDie_17 : decode cX2_addLargestDie 17 = .ok (.invokestatic 44, 3) := by decide +kernel
theorem dX2_addLargestDie_20 : decode cX2_addLargestDie 20 = .ok (.istore 4, 2) := by decide +kernel
theorem dX2_addLargestDie_22 : decode cX2_addLargestDie 22 = .ok (.iload 4, 2) := by decide +kernel
theorem dX2_addLargestDie_24 : decode cX2_addLargestDie 24 = .ok (.aload_n 0, 1) := by decide +kernel
theorem dX2_addLargestDie_25 : decode cX2_addLargestDie 25 = .ok (.getfield 28, 3) := by decide +kernel
theorem dX2_addLargestDie_28 : decode cX2_addLargestDie 28 = .ok (.if_icmp .gt 96, 3) := by decide +kernel
theorem dX2_addLargestDie_31 : decode cX2_addLargestDie 31 = .ok (.aload_n 0, 1) := by decide +kernel
theorem dX2_addLargestDie_32 : decode cX2_addLargestDie 32 = .ok (.getfield 31, 3) := by decide +kernel
theorem dX2_addLargestDie_35 : decode cX2_addLargestDie 35 = .ok (.sipush 462, 3) := by decide +kernel
end
section
theorem dX2_addLargestDie_38 : decode cX2_addLargestDie 38 = .ok (.if_icmp .lt 4, 3) := by decide +kernel
theorem dX2_addLargestDie_41 : decode cX2_addLargestDie 41 = .ok (.return_, 1) := by decide +kernel
theorem dX2_addLargestDie_42 : decode cX2_addLargestDie 42 = .ok (.aload_n 0, 1) := by decide +kernel
theorem dX2_addLargestDie_43 : decode cX2_addLargestDie 43 = .ok (.getfield 9, 3) := by decide +kernel
theorem dX2_addLargestDie_46 : decode cX2_addLargestDie 46 = .ok (.aload_n 0, 1) := by decide +kernel
theorem dX2_addLargestDie_47 : decode cX2_addLargestDie 47 = .ok (.getfield 31, 3) := by decide +kernel
theorem dX2_addLargestDie_50 : decode cX2_addLargestDie 50 = .ok (.aload_n 0, 1) := by decide +kernel
theorem dX2_addLargestDie_51 : decode cX2_addLargestDie 51 = .ok (.getfield 9, 3) := by decide +kernel
theorem dX2_addLargestDie_54 : decode cX2_addLargestDie 54 = .ok (.iload_n 3, 1) := by decide +kernel
theorem dX2_addLargestDie_55 : decode cX2_addLargestDie 55 = .ok (.iaload, 1) := by decide +kernel
theorem dX2_addLargestDie_56 : decode cX2_addLargestDie 56 = .ok (.bipush 10, 2) := by decide +kernel
theorem dX2_addLargestDie_58 : decode cX2_addLargestDie 58 = .ok (.imul, 1) := by decide +kernel
theorem dX2_addLargestDie_59 : decode cX2_addLargestDie 59 = .ok (.iload 4, 2) := by decide +kernel
theorem dX2_addLargestDie_61 : decode cX2_addLargestDie 61 = .ok (.iadd, 1) := by decide +kernel
theorem dX2_addLargestDie_62 : decode cX2_addLargestDie 62 = .ok (.iastore, 1) := by decide +kernel
theorem dX2_addLargestDie_63 : decode cX2_addLargestDie 63 = .ok (.aload_n 0, 1) := by decide +kernel
theorem dX2_addLargestDie_64 : decode cX2_addLargestDie 64 = .ok (.getfield 15, 3) := by decide +kernel
theorem dX2_addLargestDie_67 : decode cX2_addLargestDie 67 = .ok (.aload_n 0, 1) := by decide +kernel
theorem dX2_addLargestDie_68 : decode cX2_addLargestDie 68 = .ok (.getfield 31, 3) := by decide +kernel
theorem dX2_addLargestDie_71 : decode cX2_addLargestDie 71 = .ok (.aload_n 0, 1) := by decide +kernel
theorem dX2_addLargestDie_72 : decode cX2_addLargestDie 72 = .ok (.getfield 15, 3) := by decide +kernel
theorem dX2_addLargestDie_75 : decode cX2_addLargestDie 75 = .ok (.iload_n 3, 1) := by decide +kernel
theorem dX2_addLargestDie_76 : decode cX2_addLargestDie 76 = .ok (.iaload, 1) := by decide +kernel
theorem dX2_addLargestDie_77 : decode cX2_addLargestDie 77 = .ok (.iconst 1, 1) := by decide +kernel
theorem dX2_addLargestDie_78 : decode cX2_addLargestDie 78 = .ok (.iadd, 1) := by decide +kernel
theorem dX2_addLargestDie_79 : decode cX2_addLargestDie 79 = .ok (.iastore, 1) := by decide +kernel
theorem dX2_addLargestDie_80 : decode cX2_addLargestDie 80 = .ok (.aload_n 0, 1) := by decide +kernel
theorem dX2_addLargestDie_81 : decode cX2_addLargestDie 81 = .ok (.getfield 18, 3) := by decide +kernel
theorem dX2_addLargestDie_84 : decode cX2_addLargestDie 84 = .ok (.aload_n 0, 1) := by decide +kernel
theorem dX2_addLargestDie_85 : decode cX2_addLargestDie 85 = .ok (.getfield 31, 3) := by decide +kernel
theorem dX2_addLargestDie_88 : decode cX2_addLargestDie 88 = .ok (.iload_n 3, 1) := by decide +kernel
theorem dX2_addLargestDie_89 : decode cX2_addLargestDie 89 = .ok (.iastore, 1) := by decide +kernel
theorem dX2_addLargestDie_90 : decode cX2_addLargestDie 90 = .ok (.aload_n 0, 1) := by decide +kernel
theorem dX2_addLargestDie_91 : decode cX2_addLargestDie 91 = .ok (.getfield 21, 3) := by decide +kernel
theorem dX2_addLargestDie_94 : decode cX2_addLargestDie 94 = .ok (.iload_n 3, 1) := by decide +kernel
theorem dX2_addLargestDie_95 : decode cX2_addLargestDie 95 = .ok (.bipush 6, 2) := by decide +kernel
theorem dX2_addLargestDie_97 : decode cX2_addLargestDie 97 = .ok (.imul, 1) := by decide +kernel
theorem dX2_addLargestDie_98 : decode cX2_addLargestDie 98 = .ok (.iload 4, 2) := by decide +kernel
theorem dX2_addLargestDie_100 : decode cX2_addLargestDie 100 = .ok (.iadd, 1) := by decide +kernel
theorem dX2_addLargestDie_101 : decode cX2_addLargestDie 101 = .ok (.iconst 1, 1) := by decide +kernel
theorem dX2_addLargestDie_102 : decode cX2_addLargestDie 102 = .ok (.isub, 1) := by decide +kernel
theorem dX2_addLargestDie_103 : decode cX2_addLargestDie 103 = .ok (.aload_n 0, 1) := by decide +kernel
theorem dX2_addLargestDie_104 : decode cX2_addLargestDie 104 = .ok (.getfield 31, 3) := by decide +kernel
theorem dX2_addLargestDie_107 : decode cX2_addLargestDie 107 = .ok (.iastore, 1) := by decide +kernel
theorem dX2_addLargestDie_108 : decode cX2_addLargestDie 108 = .ok (.aload_n 0, 1) := by decide +kernel
theorem dX2_addLargestDie_109 : decode cX2_addLargestDie 109 = .ok (.dup, 1) := by decide +kernel
theorem dX2_addLargestDie_110 : decode cX2_addLargestDie 110 = .ok (.getfield 31, 3) := by decide +kernel
theorem dX2_addLargestDie_113 : decode cX2_addLargestDie 113 = .ok (.iconst 1, 1) := by decide +kernel
theorem dX2_addLargestDie_114 : decode cX2_addLargestDie 114 = .ok (.iadd, 1) := by decide +kernel
theorem dX2_addLargestDie_115 : decode cX2_addLargestDie 115 = .ok (.putfield 31, 3) := by decide +kernel
theorem dX2_addLargestDie_118 : decode cX2_addLargestDie 118 = .ok (.iinc 4 1, 3) := by decide +kernel
theorem dX2_addLargestDie_121 : decode cX2_addLargestDie 121 = .ok (.goto (-99), 3) := by decide +kernel
theorem dX2_addLargestDie_124 : decode cX2_addLargestDie 124 = .ok (.iinc 3 1, 3) := by decide +kernel
theorem dX2_addLargestDie_127 : decode cX2_addLargestDie 127 = .ok (.goto (-125), 3) := by decide +kernel
theorem dX2_addLargestDie_130 : decode cX2_addLargestDie 130 = .ok (.return_, 1) := by decide +kernel
theorem dX2_addSmallerDie_0 : decode cX2_addSmallerDie 0 = .ok (.iload_n 1, 1) := by decide +kernel
theorem dX2_addSmallerDie_1 : decode cX2_addSmallerDie 1 = .ok (.istore_n 3, 1) := by decide +kernel
theorem dX2_addSmallerDie_2 : decode cX2_addSmallerDie 2 = .ok (.iload_n 3, 1) := by decide +kernel
theorem dX2_addSmallerDie_3 : decode cX2_addSmallerDie 3 = .ok (.iload_n 2, 1) := by decide +kernel
theorem dX2_addSmallerDie_4 : decode cX2_addSmallerDie 4 = .ok (.if_icmp .ge 72, 3) := by decide +kernel
theorem dX2_addSmallerDie_7 : decode cX2_addSmallerDie 7 = .ok (.aload_n 0, 1) := by decide +kernel
theorem dX2_addSmallerDie_8 : decode cX2_addSmallerDie 8 = .ok (.getfield 9, 3) := by decide +kernel
theorem dX2_addSmallerDie_11 : decode cX2_addSmallerDie 11 = .ok (.iload_n 3, 1) := by decide +kernel
theorem dX2_addSmallerDie_12 : decode cX2_addSmallerDie 12 = .ok (.iaload, 1) := by decide +kernel
theorem dX2_addSmallerDie_13 : decode cX2_addSmallerDie 13 = .ok (.bipush 10, 2) := by decide +kernel
theorem dX2_addSmallerDie_15 : decode cX2_addSmallerDie 15 = .ok (.irem, 1) := by decide +kernel
theorem dX2_addSmallerDie_16 : decode cX2_addSmallerDie 16 = .ok (.istore 4, 2) := by decide +kernel
theorem dX2_addSmallerDie_18 : decode cX2_addSmallerDie 18 = .ok (.iconst 1, 1) := by decide +kernel
theorem dX2_addSmallerDie_19 : decode cX2_addSmallerDie 19 = .ok (.istore 5, 2) := by decide +kernel
theorem dX2_addSmallerDie_21 : decode cX2_addSmallerDie 21 = .ok (.iload 5, 2) := by decide +kernel
theorem dX2_addSmallerDie_23 : decode cX2_addSmallerDie 23 = .ok (.iload 4, 2) := by decide +kernel
theorem dX2_addSmallerDie_25 : decode cX2_addSmallerDie 25 = .ok (.if_icmp .ge 45, 3) := by decide +kernel
theorem dX2_addSmallerDie_28 : decode cX2_addSmallerDie 28 = .ok (.aload_n 0, 1) := by decide +kernel
theorem dX2_addSmallerDie_29 : decode cX2_addSmallerDie 29 = .ok (.aload_n 0, 1) := by decide +kernel
theorem dX2_addSmallerDie_30 : decode cX2_addSmallerDie 30 = .ok (.getfield 18, 3) := by decide +kernel
theorem dX2_addSmallerDie_33 : decode cX2_addSmallerDie 33 = .ok (.iload_n 3, 1) := by decide +kernel
theorem dX2_addSmallerDie_34 : decode cX2_addSmallerDie 34 = .ok (.iaload, 1) := by decide +kernel
theorem dX2_addSmallerDie_35 : decode cX2_addSmallerDie 35 = .ok (.iload 5, 2) := by decide +kernel
theorem dX2_addSmallerDie_37 : decode cX2_addSmallerDie 37 = .ok (.invokevirtual 50, 3) := by decide +kernel
theorem dX2_addSmallerDie_40 : decode cX2_addSmallerDie 40 = .ok (.istore 6, 2) := by decide +kernel
theorem dX2_addSmallerDie_42 : decode cX2_addSmallerDie 42 = .ok (.aload_n 0, 1) := by decide +kernel
theorem dX2_addSmallerDie_43 : decode cX2_addSmallerDie 43 = .ok (.getfield 21, 3) := by decide +kernel
theorem dX2_addSmallerDie_46 : decode cX2_addSmallerDie 46 = .ok (.iload_n 3, 1) := by decide +kernel
theorem dX2_addSmallerDie_47 : decode cX2_addSmallerDie 47 = .ok (.bipush 6, 2) := by decide +kernel
theorem dX2_addSmallerDie_49 : decode cX2_addSmallerDie 49 = .ok (.imul, 1) := by decide +kernel
theorem dX2_addSmallerDie_50 : decode cX2_addSmallerDie 50 = .ok (.iload 5, 2) := by decide +kernel
theorem dX2_addSmallerDie_52 : decode cX2_addSmallerDie 52 = .ok (.iadd, 1) := by decide +kernel
theorem dX2_addSmallerDie_53 : decode cX2_addSmallerDie 53 = .ok (.iconst 1, 1) := by decide +kernel
theorem dX2_addSmallerDie_54 : decode cX2_addSmallerDie 54 = .ok (.isub, 1) := by decide +kernel
theorem dX2_addSmallerDie_55 : decode cX2_addSmallerDie 55 = .ok (.aload_n 0, 1) := by decide +kernel
theorem dX2_addSmallerDie_56 : decode cX2_addSmallerDie 56 = .ok (.iload 6, 2) := by decide +kernel
theorem dX2_addSmallerDie_58 : decode cX2_addSmallerDie 58 = .ok (.iload 4, 2) := by decide +kernel
theorem dX2_addSmallerDie_60 : decode cX2_addSmallerDie 60 = .ok (.invokevirtual 50, 3) := by decide +kernel
theorem dX2_addSmallerDie_63 : decode cX2_addSmallerDie 63 = .ok (.iastore, 1) := by decide +kernel
theorem dX2_addSmallerDie_64 : decode cX2_addSmallerDie 64 = .ok (.iinc 5 1, 3) := by decide +kernel
theorem dX2_addSmallerDie_67 : decode cX2_addSmallerDie 67 = .ok (.goto (-46), 3) := by decide +kernel
theorem dX2_addSmallerDie_70 : decode cX2_addSmallerDie 70 = .ok (.iinc 3 1, 3) := by decide +kernel
theorem dX2_addSmallerDie_73 : decode cX2_addSmallerDie 73 = .ok (.goto (-71), 3) := by decide +kernel
theorem dX2_addSmallerDie_76 : decode cX2_addSmallerDie 76 = .ok (.return_, 1) := by decide +kernel
theorem dX2_wholeCount_0 : decode cX2_wholeCount 0 = .ok (.aload_n 0, 1) := by decide +kernel
theorem dX2_wholeCount_1 : decode cX2_wholeCount 1 = .ok (.getfield 31, 3) := by decide +kernel
theorem dX2_wholeCount_4 : decode cX2_wholeCount 4 = .ok (.aload_n 0, 1) := by decide +kernel
theorem dX2_wholeCount_5 : decode cX2_wholeCount 5 = .ok (.getfield 34, 3) := by decide +kernel
theorem dX2_wholeCount_8 : decode cX2_wholeCount 8 = .ok (.isub, 1) := by decide +kernel
theorem dX2_wholeCount_9 : decode cX2_wholeCount 9 = .ok (.ireturn, 1) := by decide +kernel
theorem dX2_withDie_0 : decode cX2_withDie 0 = .ok (.aload_n 0, 1) := by decide +kernel
theorem dX2_withDie_1 : decode cX2_withDie 1 = .ok (.getfield 15, 3) := by decide +kernel
theorem dX2_withDie_4 : decode cX2_withDie 4 = .ok (.iload_n 1, 1) := by decide +kernel
theorem dX2_withDie_5 : decode cX2_withDie 5 = .ok (.iaload, 1) := by decide +kernel
theorem dX2_withDie_6 : decode cX2_withDie 6 = .ok (.aload_n 0, 1) := by decide +kernel
theorem dX2_withDie_7 : decode cX2_withDie 7 = .ok (.getfield 24, 3) := by decide +kernel
theorem dX2_withDie_10 : decode cX2_withDie 10 = .ok (.if_icmp .ge 16, 3) := by decide +kernel
theorem dX2_withDie_13 : decode cX2_withDie 13 = .ok (.iload_n 2, 1) := by decide +kernel
theorem dX2_withDie_14 : decode cX2_withDie 14 = .ok (.iconst 1, 1) := by decide +kernel
theorem dX2_withDie_15 : decode cX2_withDie 15 = .ok (.if_icmp .lt 11, 3) := by decide +kernel
theorem dX2_withDie_18 : decode cX2_withDie 18 = .ok (.iload_n 2, 1) := by decide +kernel
theorem dX2_withDie_19 : decode cX2_withDie 19 = .ok (.aload_n 0, 1) := by decide +kernel
theorem dX2_withDie_20 : decode cX2_withDie 20 = .ok (.getfield 28, 3) := by decide +kernel
theorem dX2_withDie_23 : decode cX2_withDie 23 = .ok (.if_icmp .le 5, 3) := by decide +kernel
theorem dX2_withDie_26 : decode cX2_withDie 26 = .ok (.iload_n 1, 1) := by decide +kernel
theorem dX2_withDie_27 : decode cX2_withDie 27 = .ok (.ireturn, 1) := by decide +kernel
theorem dX2_withDie_28 : decode cX2_withDie 28 = .ok (.aload_n 0, 1) := by decide +kernel
theorem dX2_withDie_29 : decode cX2_withDie 29 = .ok (.getfield 21, 3) := by decide +kernel
theorem dX2_withDie_32 : decode cX2_withDie 32 = .ok (.iload_n 1, 1) := by decide +kernel
theorem dX2_withDie_33 : decode cX2_withDie 33 = .ok (.bipush 6, 2) := by decide +kernel
theorem dX2_withDie_35 : decode cX2_withDie 35 = .ok (.imul, 1) := by decide +kernel
theorem dX2_withDie_36 : decode cX2_withDie 36 = .ok (.iload_n 2, 1) := by decide +kernel
theorem dX2_withDie_37 : decode cX2_withDie 37 = .ok (.iadd, 1) := by decide +kernel
theorem dX2_withDie_38 : decode cX2_withDie 38 = .ok (.iconst 1, 1) := by decide +kernel
theorem dX2_withDie_39 : decode cX2_withDie 39 = .ok (.isub, 1) := by decide +kernel
theorem dX2_withDie_40 : decode cX2_withDie 40 = .ok (.iaload, 1) := by decide +kernel
theorem dX2_withDie_41 : decode cX2_withDie 41 = .ok (.ireturn, 1) := by decide +kernel
theorem dX2_joined_0 : decode cX2_joined 0 = .ok (.iload_n 1, 1) := by decide +kernel
theorem dX2_joined_1 : decode cX2_joined 1 = .ok (.istore 4, 2) := by decide +kernel
theorem dX2_joined_3 : decode cX2_joined 3 = .ok (.iload_n 2, 1) := by decide +kernel
theorem dX2_joined_4 : decode cX2_joined 4 = .ok (.istore 5, 2) := by decide +kernel
theorem dX2_joined_6 : decode cX2_joined 6 = .ok (.iconst 0, 1) := by decide +kernel
theorem dX2_joined_7 : decode cX2_joined 7 = .ok (.istore 6, 2) := by decide +kernel
theorem dX2_joined_9 : decode cX2_joined 9 = .ok (.iload 6, 2) := by decide +kernel
theorem dX2_joined_11 : decode cX2_joined 11 = .ok (.iload_n 3, 1) := by decide +kernel
theorem dX2_joined_12 : decode cX2_joined 12 = .ok (.if_icmp .ge 64, 3) := by decide +kernel
theorem dX2_joined_15 : decode cX2_joined 15 = .ok (.iload 5, 2) := by decide +kernel
theorem dX2_joined_17 : decode cX2_joined 17 = .ok (.bipush 10, 2) := by decide +kernel
theorem dX2_joined_19 : decode cX2_joined 19 = .ok (.irem, 1) := by decide +kernel
theorem dX2_joined_20 : decode cX2_joined 20 = .ok (.istore 7, 2) := by decide +kernel
theorem dX2_joined_22 : decode cX2_joined 22 = .ok (.iload 7, 2) := by decide +kernel
theorem dX2_joined_24 : decode cX2_joined 24 = .ok (.iconst 1, 1) := by decide +kernel
theorem dX2_joined_25 : decode cX2_joined 25 = .ok (.if_icmp .lt 26, 3) := by decide +kernel
theorem dX2_joined_28 : decode cX2_joined 28 = .ok (.iload 7, 2) := by decide +kernel
theorem dX2_joined_30 : decode cX2_joined 30 = .ok (.aload_n 0, 1) := by decide +kernel
theorem dX2_joined_31 : decode cX2_joined 31 = .ok (.getfield 28, 3) := by decide +kernel
theorem dX2_joined_34 : decode cX2_joined 34 = .ok (.if_icmp .gt 17, 3) := by decide +kernel
theorem dX2_joined_37 : decode cX2_joined 37 = .ok (.aload_n 0, 1) := by decide +kernel
theorem dX2_joined_38 : decode cX2_joined 38 = .ok (.getfield 15, 3) := by decide +kernel
theorem dX2_joined_41 : decode cX2_joined 41 = .ok (.iload 4, 2) := by decide +kernel
theorem dX2_joined_43 : decode cX2_joined 43 = .ok (.iaload, 1) := by decide +kernel
theorem dX2_joined_44 : decode cX2_joined 44 = .ok (.aload_n 0, 1) := by decide +kernel
theorem dX2_joined_45 : decode cX2_joined 45 = .ok (.getfield 24, 3) := by decide +kernel
theorem dX2_joined_48 : decode cX2_joined 48 = .ok (.if_icmp .lt 5, 3) := by decide +kernel
theorem dX2_joined_51 : decode cX2_joined 51 = .ok (.iconst (-1), 1) := by decide +kernel
theorem dX2_joined_52 : decode cX2_joined 52 = .ok (.ireturn, 1) := by decide +kernel
theorem dX2_joined_53 : decode cX2_joined 53 = .ok (.aload_n 0, 1) := by decide +kernel
theorem dX2_joined_54 : decode cX2_joined 54 = .ok (.iload 4, 2) := by decide +kernel
theorem dX2_joined_56 : decode cX2_joined 56 = .ok (.iload 7, 2) := by decide +kernel
theorem dX2_joined_58 : decode cX2_joined 58 = .ok (.invokevirtual 50, 3) := by decide +kernel
theorem dX2_joined_61 : decode cX2_joined 61 = .ok (.istore 4, 2) := by decide +kernel
theorem dX2_joined_63 : decode cX2_joined 63 = .ok (.iload 5, 2) := by decide +kernel
theorem dX2_joined_65 : decode cX2_joined 65 = .ok (.bipush 10, 2) := by decide +kernel
theorem dX2_joined_67 : decode cX2_joined 67 = .ok (.idiv, 1) := by decide +kernel
theorem dX2_joined_68 : decode cX2_joined 68 = .ok (.istore 5, 2) := by decide +kernel
theorem dX2_joined_70 : decode cX2_joined 70 = .ok (.iinc 6 1, 3) := by decide +kernel
theorem dX2_joined_73 : decode cX2_joined 73 = .ok (.goto (-64), 3) := by decide +kernel
theorem dX2_joined_76 : decode cX2_joined 76 = .ok (.iload 5, 2) := by decide +kernel
theorem dX2_joined_78 : decode cX2_joined 78 = .ok (.ifCond .ne 8, 3) := by decide +kernel
theorem dX2_joined_81 : decode cX2_joined 81 = .ok (.iload 4, 2) := by decide +kernel
theorem dX2_joined_83 : decode cX2_joined 83 = .ok (.goto 4, 3) := by decide +kernel
theorem dX2_joined_86 : decode cX2_joined 86 = .ok (.iconst (-1), 1) := by decide +kernel
theorem dX2_joined_87 : decode cX2_joined 87 = .ok (.ireturn, 1) := by decide +kernel
theorem dX2_partOf_0 : decode cX2_partOf 0 = .ok (.aload_n 0, 1) := by decide +kernel
theorem dX2_partOf_1 : decode cX2_partOf 1 = .ok (.iconst 0, 1) := by decide +kernel
theorem dX2_partOf_2 : decode cX2_partOf 2 = .ok (.iload_n 2, 1) := by decide +kernel
theorem dX2_partOf_3 : decode cX2_partOf 3 = .ok (.iload_n 2, 1) := by decide +kernel
theorem dX2_partOf_4 : decode cX2_partOf 4 = .ok (.invokestatic 53, 3) := by decide +kernel
theorem dX2_partOf_7 : decode cX2_partOf 7 = .ok (.invokevirtual 57, 3) := by decide +kernel
theorem dX2_partOf_10 : decode cX2_partOf 10 = .ok (.istore_n 3, 1) := by decide +kernel
theorem dX2_partOf_11 : decode cX2_partOf 11 = .ok (.iload_n 3, 1) := by decide +kernel
theorem dX2_partOf_12 : decode cX2_partOf 12 = .ok (.iconst (-1), 1) := by decide +kernel
theorem dX2_partOf_13 : decode cX2_partOf 13 = .ok (.if_icmp .eq 16, 3) := by decide +kernel
theorem dX2_partOf_16 : decode cX2_partOf 16 = .ok (.aload_n 0, 1) := by decide +kernel
theorem dX2_partOf_17 : decode cX2_partOf 17 = .ok (.iload_n 1, 1) := by decide +kernel
theorem dX2_partOf_18 : decode cX2_partOf 18 = .ok (.iload_n 3, 1) := by decide +kernel
theorem dX2_partOf_19 : decode cX2_partOf 19 = .ok (.invokevirtual 61, 3) := by decide +kernel
theorem dX2_partOf_22 : decode cX2_partOf 22 = .ok (.ifCond .eq 7, 3) := by decide +kernel
theorem dX2_partOf_25 : decode cX2_partOf 25 = .ok (.iload_n 3, 1) := by decide +kernel
theorem dX2_partOf_26 : decode cX2_partOf 26 = .ok (.goto 4, 3) := by decide +kernel
theorem dX2_partOf_29 : decode cX2_partOf 29 = .ok (.iconst (-1), 1) := by decide +kernel
theorem dX2_partOf_30 : decode cX2_partOf 30 = .ok (.ireturn, 1) := by decide +kernel
theorem dX2_figuresOf_0 : decode cX2_figuresOf 0 = .ok (.iconst 0, 1) := by decide +kernel
theorem dX2_figuresOf_1 : decode cX2_figuresOf 1 = .ok (.istore_n 1, 1) := by decide +kernel
theorem dX2_figuresOf_2 : decode cX2_figuresOf 2 = .ok (.iload_n 0, 1) := by decide +kernel
theorem dX2_figuresOf_3 : decode cX2_figuresOf 3 = .ok (.istore_n 2, 1) := by decide +kernel
theorem dX2_figuresOf_4 : decode cX2_figuresOf 4 = .ok (.iconst 0, 1) := by decide +kernel
theorem dX2_figuresOf_5 : decode cX2_figuresOf 5 = .ok (.istore_n 3, 1) := by decide +kernel
theorem dX2_figuresOf_6 : decode cX2_figuresOf 6 = .ok (.iload_n 3, 1) := by decide +kernel
theorem dX2_figuresOf_7 : decode cX2_figuresOf 7 = .ok (.bipush 10, 2) := by decide +kernel
theorem dX2_figuresOf_9 : decode cX2_figuresOf 9 = .ok (.if_icmp .ge 21, 3) := by decide +kernel
theorem dX2_figuresOf_12 : decode cX2_figuresOf 12 = .ok (.iload_n 2, 1) := by decide +kernel
theorem dX2_figuresOf_13 : decode cX2_figuresOf 13 = .ok (.ifCond .eq 17, 3) := by decide +kernel
theorem dX2_figuresOf_16 : decode cX2_figuresOf 16 = .ok (.iload_n 2, 1) := by decide +kernel
theorem dX2_figuresOf_17 : decode cX2_figuresOf 17 = .ok (.bipush 10, 2) := by decide +kernel
theorem dX2_figuresOf_19 : decode cX2_figuresOf 19 = .ok (.idiv, 1) := by decide +kernel
theorem dX2_figuresOf_20 : decode cX2_figuresOf 20 = .ok (.istore_n 2, 1) := by decide +kernel
theorem dX2_figuresOf_21 : decode cX2_figuresOf 21 = .ok (.iinc 1 1, 3) := by decide +kernel
theorem dX2_figuresOf_24 : decode cX2_figuresOf 24 = .ok (.iinc 3 1, 3) := by decide +kernel
theorem dX2_figuresOf_27 : decode cX2_figuresOf 27 = .ok (.goto (-21), 3) := by decide +kernel
theorem dX2_figuresOf_30 : decode cX2_figuresOf 30 = .ok (.iload_n 1, 1) := by decide +kernel
theorem dX2_figuresOf_31 : decode cX2_figuresOf 31 = .ok (.ireturn, 1) := by decide +kernel
theorem dX2_holdsAll_0 : decode cX2_holdsAll 0 = .ok (.aload_n 0, 1) := by decide +kernel
theorem dX2_holdsAll_1 : decode cX2_holdsAll 1 = .ok (.getfield 9, 3) := by decide +kernel
theorem dX2_holdsAll_4 : decode cX2_holdsAll 4 = .ok (.iload_n 2, 1) := by decide +kernel
theorem dX2_holdsAll_5 : decode cX2_holdsAll 5 = .ok (.iaload, 1) := by decide +kernel
theorem dX2_holdsAll_6 : decode cX2_holdsAll 6 = .ok (.istore_n 3, 1) := by decide +kernel
theorem dX2_holdsAll_7 : decode cX2_holdsAll 7 = .ok (.aload_n 0, 1) := by decide +kernel
theorem dX2_holdsAll_8 : decode cX2_holdsAll 8 = .ok (.getfield 9, 3) := by decide +kernel
theorem dX2_holdsAll_11 : decode cX2_holdsAll 11 = .ok (.iload_n 1, 1) := by decide +kernel
theorem dX2_holdsAll_12 : decode cX2_holdsAll 12 = .ok (.iaload, 1) := by decide +kernel
theorem dX2_holdsAll_13 : decode cX2_holdsAll 13 = .ok (.istore 4, 2) := by decide +kernel
theorem dX2_holdsAll_15 : decode cX2_holdsAll 15 = .ok (.iconst 0, 1) := by decide +kernel
theorem dX2_holdsAll_16 : decode cX2_holdsAll 16 = .ok (.istore 5, 2) := by decide +kernel
theorem dX2_holdsAll_18 : decode cX2_holdsAll 18 = .ok (.iload 5, 2) := by decide +kernel
theorem dX2_holdsAll_20 : decode cX2_holdsAll 20 = .ok (.iconst 5, 1) := by decide +kernel
theorem dX2_holdsAll_21 : decode cX2_holdsAll 21 = .ok (.if_icmp .ge 37, 3) := by decide +kernel
theorem dX2_holdsAll_24 : decode cX2_holdsAll 24 = .ok (.iload_n 3, 1) := by decide +kernel
theorem dX2_holdsAll_25 : decode cX2_holdsAll 25 = .ok (.ifCond .eq 33, 3) := by decide +kernel
theorem dX2_holdsAll_28 : decode cX2_holdsAll 28 = .ok (.iload 4, 2) := by decide +kernel
theorem dX2_holdsAll_30 : decode cX2_holdsAll 30 = .ok (.bipush 10, 2) := by decide +kernel
theorem dX2_holdsAll_32 : decode cX2_holdsAll 32 = .ok (.irem, 1) := by decide +kernel
theorem dX2_holdsAll_33 : decode cX2_holdsAll 33 = .ok (.iload_n 3, 1) := by decide +kernel
theorem dX2_holdsAll_34 : decode cX2_holdsAll 34 = .ok (.bipush 10, 2) := by decide +kernel
theorem dX2_holdsAll_36 : decode cX2_holdsAll 36 = .ok (.irem, 1) := by decide +kernel
theorem dX2_holdsAll_37 : decode cX2_holdsAll 37 = .ok (.if_icmp .ne 8, 3) := by decide +kernel
theorem dX2_holdsAll_40 : decode cX2_holdsAll 40 = .ok (.iload_n 3, 1) := by decide +kernel
theorem dX2_holdsAll_41 : decode cX2_holdsAll 41 = .ok (.bipush 10, 2) := by decide +kernel
theorem dX2_holdsAll_43 : decode cX2_holdsAll 43 = .ok (.idiv, 1) := by decide +kernel
theorem dX2_holdsAll_44 : decode cX2_holdsAll 44 = .ok (.istore_n 3, 1) := by decide +kernel
theorem dX2_holdsAll_45 : decode cX2_holdsAll 45 = .ok (.iload 4, 2) := by decide +kernel
theorem dX2_holdsAll_47 : decode cX2_holdsAll 47 = .ok (.bipush 10, 2) := by decide +kernel
theorem dX2_holdsAll_49 : decode cX2_holdsAll 49 = .ok (.idiv, 1) := by decide +kernel
theorem dX2_holdsAll_50 : decode cX2_holdsAll 50 = .ok (.istore 4, 2) := by decide +kernel
theorem dX2_holdsAll_52 : decode cX2_holdsAll 52 = .ok (.iinc 5 1, 3) := by decide +kernel
theorem dX2_holdsAll_55 : decode cX2_holdsAll 55 = .ok (.goto (-37), 3) := by decide +kernel
theorem dX2_holdsAll_58 : decode cX2_holdsAll 58 = .ok (.iload_n 3, 1) := by decide +kernel
theorem dX2_holdsAll_59 : decode cX2_holdsAll 59 = .ok (.ifCond .ne 7, 3) := by decide +kernel
theorem dX2_holdsAll_62 : decode cX2_holdsAll 62 = .ok (.iconst 1, 1) := by decide +kernel
theorem dX2_holdsAll_63 : decode cX2_holdsAll 63 = .ok (.goto 4, 3) := by decide +kernel
theorem dX2_holdsAll_66 : decode cX2_holdsAll 66 = .ok (.iconst 0, 1) := by decide +kernel
theorem dX2_holdsAll_67 : decode cX2_holdsAll 67 = .ok (.ireturn, 1) := by decide +kernel
theorem dX3_init_0 : decode cX3_init 0 = .ok (.aload_n 0, 1) := by decide +kernel
theorem dX3_init_1 : decode cX3_init 1 = .ok (.invokespecial 1, 3) := by decide +kernel
theorem dX3_init_4 : decode cX3_init 4 = .ok (.aload_n 0, 1) := by decide +kernel
theorem dX3_init_5 : decode cX3_init 5 = .ok (.iconst 0, 1) := by decide +kernel
theorem dX3_init_6 : decode cX3_init 6 = .ok (.putfield 7, 3) := by decide +kernel
theorem dX3_init_9 : decode cX3_init 9 = .ok (.aload_n 0, 1) := by decide +kernel
theorem dX3_init_10 : decode cX3_init 10 = .ok (.iconst 1, 1) := by decide +kernel
theorem dX3_init_11 : decode cX3_init 11 = .ok (.putfield 13, 3) := by decide +kernel
theorem dX3_init_14 : decode cX3_init 14 = .ok (.aload_n 0, 1) := by decide +kernel
theorem dX3_init_15 : decode cX3_init 15 = .ok (.iconst 0, 1) := by decide +kernel
theorem dX3_init_16 : decode cX3_init 16 = .ok (.putfield 16, 3) := by decide +kernel
theorem dX3_init_19 : decode cX3_init 19 = .ok (.aload_n 0, 1) := by decide +kernel
theorem dX3_init_20 : decode cX3_init 20 = .ok (.iconst 0, 1) := by decide +kernel
theorem dX3_init_21 : decode cX3_init 21 = .ok (.putfield 19, 3) := by decide +kernel
theorem dX3_init_24 : decode cX3_init 24 = .ok (.return_, 1) := by decide +kernel
theorem dX3_become_0 : decode cX3_become 0 = .ok (.aload_n 0, 1) := by decide +kernel
theorem dX3_become_1 : decode cX3_become 1 = .ok (.iload_n 1, 1) := by decide +kernel
theorem dX3_become_2 : decode cX3_become 2 = .ok (.putfield 7, 3) := by decide +kernel
theorem dX3_become_5 : decode cX3_become 5 = .ok (.aload_n 0, 1) := by decide +kernel
theorem dX3_become_6 : decode cX3_become 6 = .ok (.iload_n 2, 1) := by decide +kernel
theorem dX3_become_7 : decode cX3_become 7 = .ok (.putfield 13, 3) := by decide +kernel
theorem dX3_become_10 : decode cX3_become 10 = .ok (.aload_n 0, 1) := by decide +kernel
theorem dX3_become_11 : decode cX3_become 11 = .ok (.iload_n 3, 1) := by decide +kernel
theorem dX3_become_12 : decode cX3_become 12 = .ok (.putfield 16, 3) := by decide +kernel
theorem dX3_become_15 : decode cX3_become 15 = .ok (.return_, 1) := by decide +kernel
theorem dX3_pointsOf_0 : decode cX3_pointsOf 0 = .ok (.aload_n 0, 1) := by decide +kernel
theorem dX3_pointsOf_1 : decode cX3_pointsOf 1 = .ok (.getfield 7, 3) := by decide +kernel
theorem dX3_pointsOf_4 : decode cX3_pointsOf 4 = .ok (.tableswitch 132 0 4 #[36, 50, 70, 90, 111], 36) := by decide +kernel
theorem dX3_pointsOf_40 : decode cX3_pointsOf 40 = .ok (.aload_n 0, 1) := by decide +kernel
theorem dX3_pointsOf_41 : decode cX3_pointsOf 41 = .ok (.getfield 13, 3) := by decide +kernel
theorem dX3_pointsOf_44 : decode cX3_pointsOf 44 = .ok (.aload_n 1, 1) := by decide +kernel
theorem dX3_pointsOf_45 : decode cX3_pointsOf 45 = .ok (.aload_n 0, 1) := by decide +kernel
theorem dX3_pointsOf_46 : decode cX3_pointsOf 46 = .ok (.getfield 13, 3) := by decide +kernel
theorem dX3_pointsOf_49 : decode cX3_pointsOf 49 = .ok (.invokevirtual 22, 3) := by decide +kernel
theorem dX3_pointsOf_52 : decode cX3_pointsOf 52 = .ok (.imul, 1) := by decide +kernel
theorem dX3_pointsOf_53 : decode cX3_pointsOf 53 = .ok (.ireturn, 1) := by decide +kernel
theorem dX3_pointsOf_54 : decode cX3_pointsOf 54 = .ok (.aload_n 1, 1) := by decide +kernel
theorem dX3_pointsOf_55 : decode cX3_pointsOf 55 = .ok (.invokevirtual 28, 3) := by decide +kernel
theorem dX3_pointsOf_58 : decode cX3_pointsOf 58 = .ok (.aload_n 0, 1) := by decide +kernel
theorem dX3_pointsOf_59 : decode cX3_pointsOf 59 = .ok (.getfield 13, 3) := by decide +kernel
theorem dX3_pointsOf_62 : decode cX3_pointsOf 62 = .ok (.if_icmp .lt 10, 3) := by decide +kernel
theorem dX3_pointsOf_65 : decode cX3_pointsOf 65 = .ok (.aload_n 1, 1) := by decide +kernel
theorem dX3_pointsOf_66 : decode cX3_pointsOf 66 = .ok (.invokevirtual 32, 3) := by decide +kernel
theorem dX3_pointsOf_69 : decode cX3_pointsOf 69 = .ok (.goto 4, 3) := by decide +kernel
theorem dX3_pointsOf_72 : decode cX3_pointsOf 72 = .ok (.iconst 0, 1) := by decide +kernel
theorem dX3_pointsOf_73 : decode cX3_pointsOf 73 = .ok (.ireturn, 1) := by decide +kernel
theorem dX3_pointsOf_74 : decode cX3_pointsOf 74 = .ok (.aload_n 1, 1) := by decide +kernel
theorem dX3_pointsOf_75 : decode cX3_pointsOf 75 = .ok (.invokevirtual 35, 3) := by decide +kernel
theorem dX3_pointsOf_78 : decode cX3_pointsOf 78 = .ok (.aload_n 0, 1) := by decide +kernel
theorem dX3_pointsOf_79 : decode cX3_pointsOf 79 = .ok (.getfield 13, 3) := by decide +kernel
theorem dX3_pointsOf_82 : decode cX3_pointsOf 82 = .ok (.if_icmp .lt 10, 3) := by decide +kernel
theorem dX3_pointsOf_85 : decode cX3_pointsOf 85 = .ok (.aload_n 0, 1) := by decide +kernel
theorem dX3_pointsOf_86 : decode cX3_pointsOf 86 = .ok (.getfield 16, 3) := by decide +kernel
theorem dX3_pointsOf_89 : decode cX3_pointsOf 89 = .ok (.goto 4, 3) := by decide +kernel
theorem dX3_pointsOf_92 : decode cX3_pointsOf 92 = .ok (.iconst 0, 1) := by decide +kernel
theorem dX3_pointsOf_93 : decode cX3_pointsOf 93 = .ok (.ireturn, 1) := by decide +kernel
theorem dX3_pointsOf_94 : decode cX3_pointsOf 94 = .ok (.aload_n 1, 1) := by decide +kernel
theorem dX3_pointsOf_95 : decode cX3_pointsOf 95 = .ok (.iconst 2, 1) := by decide +kernel
theorem dX3_pointsOf_96 : decode cX3_pointsOf 96 = .ok (.invokevirtual 38, 3) := by decide +kernel
theorem dX3_pointsOf_99 : decode cX3_pointsOf 99 = .ok (.aload_n 0, 1) := by decide +kernel
theorem dX3_pointsOf_100 : decode cX3_pointsOf 100 = .ok (.getfield 13, 3) := by decide +kernel
theorem dX3_pointsOf_103 : decode cX3_pointsOf 103 = .ok (.if_icmp .lt 10, 3) := by decide +kernel
theorem dX3_pointsOf_106 : decode cX3_pointsOf 106 = .ok (.aload_n 0, 1) := by decide +kernel
theorem dX3_pointsOf_107 : decode cX3_pointsOf 107 = .ok (.getfield 16, 3) := by decide +kernel
theorem dX3_pointsOf_110 : decode cX3_pointsOf 110 = .ok (.goto 4, 3) := by decide +kernel
theorem dX3_pointsOf_113 : decode cX3_pointsOf 113 = .ok (.iconst 0, 1) := by decide +kernel
theorem dX3_pointsOf_114 : decode cX3_pointsOf 114 = .ok (.ireturn, 1) := by decide +kernel
theorem dX3_pointsOf_115 : decode cX3_pointsOf 115 = .ok (.aload_n 1, 1) := by decide +kernel
theorem dX3_pointsOf_116 : decode cX3_pointsOf 116 = .ok (.iconst 1, 1) := by decide +kernel
theorem dX3_pointsOf_117 : decode cX3_pointsOf 117 = .ok (.invokevirtual 38, 3) := by decide +kernel
theorem dX3_pointsOf_120 : decode cX3_pointsOf 120 = .ok (.aload_n 0, 1) := by decide +kernel
theorem dX3_pointsOf_121 : decode cX3_pointsOf 121 = .ok (.getfield 13, 3) := by decide +kernel
theorem dX3_pointsOf_124 : decode cX3_pointsOf 124 = .ok (.if_icmp .ne 10, 3) := by decide +kernel
theorem dX3_pointsOf_127 : decode cX3_pointsOf 127 = .ok (.aload_n 0, 1) := by decide +kernel
theorem dX3_pointsOf_128 : decode cX3_pointsOf 128 = .ok (.getfield 16, 3) := by decide +kernel
theorem dX3_pointsOf_131 : decode cX3_pointsOf 131 = .ok (.goto 4, 3) := by decide +kernel
theorem dX3_pointsOf_134 : decode cX3_pointsOf 134 = .ok (.iconst 0, 1) := by decide +kernel
theorem dX3_pointsOf_135 : decode cX3_pointsOf 135 = .ok (.ireturn, 1) := by decide +kernel
theorem dX3_pointsOf_136 : decode cX3_pointsOf 136 = .ok (.aload_n 1, 1) := by decide +kernel
theorem dX3_pointsOf_137 : decode cX3_pointsOf 137 = .ok (.invokevirtual 32, 3) := by decide +kernel
theorem dX3_pointsOf_140 : decode cX3_pointsOf 140 = .ok (.aload_n 0, 1) := by decide +kernel
theorem dX3_pointsOf_141 : decode cX3_pointsOf 141 = .ok (.getfield 16, 3) := by decide +kernel
theorem dX3_pointsOf_144 : decode cX3_pointsOf 144 = .ok (.iadd, 1) := by decide +kernel
theorem dX3_pointsOf_145 : decode cX3_pointsOf 145 = .ok (.ireturn, 1) := by decide +kernel
theorem dX4_init_0 : decode cX4_init 0 = .ok (.aload_n 0, 1) := by decide +kernel
theorem dX4_init_1 : decode cX4_init 1 = .ok (.invokespecial 3, 3) := by decide +kernel
theorem dX4_init_4 : decode cX4_init 4 = .ok (.aload_n 0, 1) := by decide +kernel
theorem dX4_init_5 : decode cX4_init 5 = .ok (.bipush 7, 2) := by decide +kernel
theorem dX4_init_7 : decode cX4_init 7 = .ok (.newarray .int, 2) := by decide +kernel
theorem dX4_init_9 : decode cX4_init 9 = .ok (.putfield 9, 3) := by decide +kernel
theorem dX4_init_12 : decode cX4_init 12 = .ok (.return_, 1) := by decide +kernel
theorem dX4_read_0 : decode cX4_read 0 = .ok (.aload_n 0, 1) := by decide +kernel
theorem dX4_read_1 : decode cX4_read 1 = .ok (.getfield 9, 3) := by decide +kernel
theorem dX4_read_4 : decode cX4_read 4 = .ok (.iconst 0, 1) := by decide +kernel
theorem dX4_read_5 : decode cX4_read 5 = .ok (.invokestatic 15, 3) := by decide +kernel
theorem dX4_read_8 : decode cX4_read 8 = .ok (.iload_n 1, 1) := by decide +kernel
theorem dX4_read_9 : decode cX4_read 9 = .ok (.istore 4, 2) := by decide +kernel
theorem dX4_read_11 : decode cX4_read 11 = .ok (.iconst 0, 1) := by decide +kernel
theorem dX4_read_12 : decode cX4_read 12 = .ok (.istore 5, 2) := by decide +kernel
theorem dX4_read_14 : decode cX4_read 14 = .ok (.iload 5, 2) := by decide +kernel
theorem dX4_read_16 : decode cX4_read 16 = .ok (.iload_n 2, 1) := by decide +kernel
theorem dX4_read_17 : decode cX4_read 17 = .ok (.if_icmp .ge 48, 3) := by decide +kernel
theorem dX4_read_20 : decode cX4_read 20 = .ok (.iload 4, 2) := by decide +kernel
theorem dX4_read_22 : decode cX4_read 22 = .ok (.bipush 10, 2) := by decide +kernel
theorem dX4_read_24 : decode cX4_read 24 = .ok (.irem, 1) := by decide +kernel
theorem dX4_read_25 : decode cX4_read 25 = .ok (.istore 6, 2) := by decide +kernel
theorem dX4_read_27 : decode cX4_read 27 = .ok (.iload 6, 2) := by decide +kernel
theorem dX4_read_29 : decode cX4_read 29 = .ok (.iconst 1, 1) := by decide +kernel
theorem dX4_read_30 : decode cX4_read 30 = .ok (.if_icmp .lt 9, 3) := by decide +kernel
theorem dX4_read_33 : decode cX4_read 33 = .ok (.iload 6, 2) := by decide +kernel
theorem dX4_read_35 : decode cX4_read 35 = .ok (.iload_n 3, 1) := by decide +kernel
theorem dX4_read_36 : decode cX4_read 36 = .ok (.if_icmp .le 5, 3) := by decide +kernel
theorem dX4_read_39 : decode cX4_read 39 = .ok (.iconst 0, 1) := by decide +kernel
theorem dX4_read_40 : decode cX4_read 40 = .ok (.ireturn, 1) := by decide +kernel
theorem dX4_read_41 : decode cX4_read 41 = .ok (.aload_n 0, 1) := by decide +kernel
theorem dX4_read_42 : decode cX4_read 42 = .ok (.getfield 9, 3) := by decide +kernel
theorem dX4_read_45 : decode cX4_read 45 = .ok (.iload 6, 2) := by decide +kernel
theorem dX4_read_47 : decode cX4_read 47 = .ok (.dup2, 1) := by decide +kernel
theorem dX4_read_48 : decode cX4_read 48 = .ok (.iaload, 1) := by decide +kernel
theorem dX4_read_49 : decode cX4_read 49 = .ok (.iconst 1, 1) := by decide +kernel
theorem dX4_read_50 : decode cX4_read 50 = .ok (.iadd, 1) := by decide +kernel
theorem dX4_read_51 : decode cX4_read 51 = .ok (.iastore, 1) := by decide +kernel
theorem dX4_read_52 : decode cX4_read 52 = .ok (.iload 4, 2) := by decide +kernel
theorem dX4_read_54 : decode cX4_read 54 = .ok (.bipush 10, 2) := by decide +kernel
theorem dX4_read_56 : decode cX4_read 56 = .ok (.idiv, 1) := by decide +kernel
theorem dX4_read_57 : decode cX4_read 57 = .ok (.istore 4, 2) := by decide +kernel
theorem dX4_read_59 : decode cX4_read 59 = .ok (.iinc 5 1, 3) := by decide +kernel
theorem dX4_read_62 : decode cX4_read 62 = .ok (.goto (-48), 3) := by decide +kernel
theorem dX4_read_65 : decode cX4_read 65 = .ok (.iload 4, 2) := by decide +kernel
theorem dX4_read_67 : decode cX4_read 67 = .ok (.ifCond .ne 7, 3) := by decide +kernel
theorem dX4_read_70 : decode cX4_read 70 = .ok (.iconst 1, 1) := by decide +kernel
theorem dX4_read_71 : decode cX4_read 71 = .ok (.goto 4, 3) := by decide +kernel
theorem dX4_read_74 : decode cX4_read 74 = .ok (.iconst 0, 1) := by decide +kernel
theorem dX4_read_75 : decode cX4_read 75 = .ok (.ireturn, 1) := by decide +kernel
theorem dX4_showing_0 : decode cX4_showing 0 = .ok (.iload_n 1, 1) := by decide +kernel
theorem dX4_showing_1 : decode cX4_showing 1 = .ok (.iconst 1, 1) := by decide +kernel
theorem dX4_showing_2 : decode cX4_showing 2 = .ok (.if_icmp .lt 18, 3) := by decide +kernel
theorem dX4_showing_5 : decode cX4_showing 5 = .ok (.iload_n 1, 1) := by decide +kernel
theorem dX4_showing_6 : decode cX4_showing 6 = .ok (.bipush 6, 2) := by decide +kernel
theorem dX4_showing_8 : decode cX4_showing 8 = .ok (.if_icmp .gt 12, 3) := by decide +kernel
theorem dX4_showing_11 : decode cX4_showing 11 = .ok (.aload_n 0, 1) := by decide +kernel
theorem dX4_showing_12 : decode cX4_showing 12 = .ok (.getfield 9, 3) := by decide +kernel
theorem dX4_showing_15 : decode cX4_showing 15 = .ok (.iload_n 1, 1) := by decide +kernel
theorem dX4_showing_16 : decode cX4_showing 16 = .ok (.iaload, 1) := by decide +kernel
theorem dX4_showing_17 : decode cX4_showing 17 = .ok (.goto 4, 3) := by decide +kernel
theorem dX4_showing_20 : decode cX4_showing 20 = .ok (.iconst 0, 1) := by decide +kernel
theorem dX4_showing_21 : decode cX4_showing 21 = .ok (.ireturn, 1) := by decide +kernel
theorem dX4_total_0 : decode cX4_total 0 = .ok (.iconst 0, 1) := by decide +kernel
theorem dX4_total_1 : decode cX4_total 1 = .ok (.istore_n 1, 1) := by decide +kernel
theorem dX4_total_2 : decode cX4_total 2 = .ok (.iconst 1, 1) := by decide +kernel
theorem dX4_total_3 : decode cX4_total 3 = .ok (.istore_n 2, 1) := by decide +kernel
theorem dX4_total_4 : decode cX4_total 4 = .ok (.iload_n 2, 1) := by decide +kernel
theorem dX4_total_5 : decode cX4_total 5 = .ok (.bipush 6, 2) := by decide +kernel
theorem dX4_total_7 : decode cX4_total 7 = .ok (.if_icmp .gt 20, 3) := by decide +kernel
theorem dX4_total_10 : decode cX4_total 10 = .ok (.iload_n 1, 1) := by decide +kernel
theorem dX4_total_11 : decode cX4_total 11 = .ok (.iload_n 2, 1) := by decide +kernel
theorem dX4_total_12 : decode cX4_total 12 = .ok (.aload_n 0, 1) := by decide +kernel
theorem dX4_total_13 : decode cX4_total 13 = .ok (.getfield 9, 3) := by decide +kernel
theorem dX4_total_16 : decode cX4_total 16 = .ok (.iload_n 2, 1) := by decide +kernel
theorem dX4_total_17 : decode cX4_total 17 = .ok (.iaload, 1) := by decide +kernel
theorem dX4_total_18 : decode cX4_total 18 = .ok (.imul, 1) := by decide +kernel
theorem dX4_total_19 : decode cX4_total 19 = .ok (.iadd, 1) := by decide +kernel
theorem dX4_total_20 : decode cX4_total 20 = .ok (.istore_n 1, 1) := by decide +kernel
theorem dX4_total_21 : decode cX4_total 21 = .ok (.iinc 2 1, 3) := by decide +kernel
theorem dX4_total_24 : decode cX4_total 24 = .ok (.goto (-20), 3) := by decide +kernel
theorem dX4_total_27 : decode cX4_total 27 = .ok (.iload_n 1, 1) := by decide +kernel
theorem dX4_total_28 : decode cX4_total 28 = .ok (.ireturn, 1) := by decide +kernel
theorem dX4_mostAlike_0 : decode cX4_mostAlike 0 = .ok (.iconst 0, 1) := by decide +kernel
theorem dX4_mostAlike_1 : decode cX4_mostAlike 1 = .ok (.istore_n 1, 1) := by decide +kernel
theorem dX4_mostAlike_2 : decode cX4_mostAlike 2 = .ok (.iconst 1, 1) := by decide +kernel
theorem dX4_mostAlike_3 : decode cX4_mostAlike 3 = .ok (.istore_n 2, 1) := by decide +kernel
theorem dX4_mostAlike_4 : decode cX4_mostAlike 4 = .ok (.iload_n 2, 1) := by decide +kernel
theorem dX4_mostAlike_5 : decode cX4_mostAlike 5 = .ok (.bipush 6, 2) := by decide +kernel
theorem dX4_mostAlike_7 : decode cX4_mostAlike 7 = .ok (.if_icmp .gt 20, 3) := by decide +kernel
theorem dX4_mostAlike_10 : decode cX4_mostAlike 10 = .ok (.iload_n 1, 1) := by decide +kernel
theorem dX4_mostAlike_11 : decode cX4_mostAlike 11 = .ok (.aload_n 0, 1) := by decide +kernel
theorem dX4_mostAlike_12 : decode cX4_mostAlike 12 = .ok (.getfield 9, 3) := by decide +kernel
theorem dX4_mostAlike_15 : decode cX4_mostAlike 15 = .ok (.iload_n 2, 1) := by decide +kernel
theorem dX4_mostAlike_16 : decode cX4_mostAlike 16 = .ok (.iaload, 1) := by decide +kernel
theorem dX4_mostAlike_17 : decode cX4_mostAlike 17 = .ok (.invokestatic 21, 3) := by decide +kernel
theorem dX4_mostAlike_20 : decode cX4_mostAlike 20 = .ok (.istore_n 1, 1) := by decide +kernel
theorem dX4_mostAlike_21 : decode cX4_mostAlike 21 = .ok (.iinc 2 1, 3) := by decide +kernel
theorem dX4_mostAlike_24 : decode cX4_mostAlike 24 = .ok (.goto (-20), 3) := by decide +kernel
theorem dX4_mostAlike_27 : decode cX4_mostAlike 27 = .ok (.iload_n 1, 1) := by decide +kernel
theorem dX4_mostAlike_28 : decode cX4_mostAlike 28 = .ok (.ireturn, 1) := by decide +kernel
theorem dX4_longestRun_0 : decode cX4_longestRun 0 = .ok (.iconst 0, 1) := by decide +kernel
theorem dX4_longestRun_1 : decode cX4_longestRun 1 = .ok (.istore_n 1, 1) := by decide +kernel
theorem dX4_longestRun_2 : decode cX4_longestRun 2 = .ok (.iconst 0, 1) := by decide +kernel
theorem dX4_longestRun_3 : decode cX4_longestRun 3 = .ok (.istore_n 2, 1) := by decide +kernel
theorem dX4_longestRun_4 : decode cX4_longestRun 4 = .ok (.iconst 1, 1) := by decide +kernel
theorem dX4_longestRun_5 : decode cX4_longestRun 5 = .ok (.istore_n 3, 1) := by decide +kernel
theorem dX4_longestRun_6 : decode cX4_longestRun 6 = .ok (.iload_n 3, 1) := by decide +kernel
theorem dX4_longestRun_7 : decode cX4_longestRun 7 = .ok (.bipush 6, 2) := by decide +kernel
theorem dX4_longestRun_9 : decode cX4_longestRun 9 = .ok (.if_icmp .gt 32, 3) := by decide +kernel
theorem dX4_longestRun_12 : decode cX4_longestRun 12 = .ok (.aload_n 0, 1) := by decide +kernel
theorem dX4_longestRun_13 : decode cX4_longestRun 13 = .ok (.getfield 9, 3) := by decide +kernel
theorem dX4_longestRun_16 : decode cX4_longestRun 16 = .ok (.iload_n 3, 1) := by decide +kernel
theorem dX4_longestRun_17 : decode cX4_longestRun 17 = .ok (.iaload, 1) := by decide +kernel
theorem dX4_longestRun_18 : decode cX4_longestRun 18 = .ok (.ifCond .le 9, 3) := by decide +kernel
theorem dX4_longestRun_21 : decode cX4_longestRun 21 = .ok (.iload_n 2, 1) := by decide +kernel
theorem dX4_longestRun_22 : decode cX4_longestRun 22 = .ok (.iconst 1, 1) := by decide +kernel
theorem dX4_longestRun_23 : decode cX4_longestRun 23 = .ok (.iadd, 1) := by decide +kernel
theorem dX4_longestRun_24 : decode cX4_longestRun 24 = .ok (.goto 4, 3) := by decide +kernel
theorem dX4_longestRun_27 : decode cX4_longestRun 27 = .ok (.iconst 0, 1) := by decide +kernel
theorem dX4_longestRun_28 : decode cX4_longestRun 28 = .ok (.istore_n 2, 1) := by decide +kernel
theorem dX4_longestRun_29 : decode cX4_longestRun 29 = .ok (.iload_n 1, 1) := by decide +kernel
theorem dX4_longestRun_30 : decode cX4_longestRun 30 = .ok (.iload_n 2, 1) := by decide +kernel
theorem dX4_longestRun_31 : decode cX4_longestRun 31 = .ok (.invokestatic 21, 3) := by decide +kernel
theorem dX4_longestRun_34 : decode cX4_longestRun 34 = .ok (.istore_n 1, 1) := by decide +kernel
theorem dX4_longestRun_35 : decode cX4_longestRun 35 = .ok (.iinc 3 1, 3) := by decide +kernel
theorem dX4_longestRun_38 : decode cX4_longestRun 38 = .ok (.goto (-32), 3) := by decide +kernel
theorem dX4_longestRun_41 : decode cX4_longestRun 41 = .ok (.iload_n 1, 1) := by decide +kernel
theorem dX4_longestRun_42 : decode cX4_longestRun 42 = .ok (.ireturn, 1) := by decide +kernel
theorem dX4_sidesShownBy_0 : decode cX4_sidesShownBy 0 = .ok (.iconst 0, 1) := by decide +kernel
theorem dX4_sidesShownBy_1 : decode cX4_sidesShownBy 1 = .ok (.istore_n 2, 1) := by decide +kernel
theorem dX4_sidesShownBy_2 : decode cX4_sidesShownBy 2 = .ok (.iconst 1, 1) := by decide +kernel
theorem dX4_sidesShownBy_3 : decode cX4_sidesShownBy 3 = .ok (.istore_n 3, 1) := by decide +kernel
theorem dX4_sidesShownBy_4 : decode cX4_sidesShownBy 4 = .ok (.iload_n 3, 1) := by decide +kernel
theorem dX4_sidesShownBy_5 : decode cX4_sidesShownBy 5 = .ok (.bipush 6, 2) := by decide +kernel
theorem dX4_sidesShownBy_7 : decode cX4_sidesShownBy 7 = .ok (.if_icmp .gt 22, 3) := by decide +kernel
theorem dX4_sidesShownBy_10 : decode cX4_sidesShownBy 10 = .ok (.aload_n 0, 1) := by decide +kernel
theorem dX4_sidesShownBy_11 : decode cX4_sidesShownBy 11 = .ok (.getfield 9, 3) := by decide +kernel
theorem dX4_sidesShownBy_14 : decode cX4_sidesShownBy 14 = .ok (.iload_n 3, 1) := by decide +kernel
theorem dX4_sidesShownBy_15 : decode cX4_sidesShownBy 15 = .ok (.iaload, 1) := by decide +kernel
theorem dX4_sidesShownBy_16 : decode cX4_sidesShownBy 16 = .ok (.iload_n 1, 1) := by decide +kernel
theorem dX4_sidesShownBy_17 : decode cX4_sidesShownBy 17 = .ok (.if_icmp .lt 6, 3) := by decide +kernel
theorem dX4_sidesShownBy_20 : decode cX4_sidesShownBy 20 = .ok (.iinc 2 1, 3) := by decide +kernel
theorem dX4_sidesShownBy_23 : decode cX4_sidesShownBy 23 = .ok (.iinc 3 1, 3) := by decide +kernel
theorem dX4_sidesShownBy_26 : decode cX4_sidesShownBy 26 = .ok (.goto (-22), 3) := by decide +kernel
theorem dX4_sidesShownBy_29 : decode cX4_sidesShownBy 29 = .ok (.iload_n 2, 1) := by decide +kernel
theorem dX4_sidesShownBy_30 : decode cX4_sidesShownBy 30 = .ok (.ireturn, 1) := by decide +kernel
theorem dX4_orders_0 : decode cX4_orders 0 = .ok (.iconst 0, 1) := by decide +kernel
theorem dX4_orders_1 : decode cX4_orders 1 = .ok (.istore_n 1, 1) := by decide +kernel
theorem dX4_orders_2 : decode cX4_orders 2 = .ok (.iconst 1, 1) := by decide +kernel
theorem dX4_orders_3 : decode cX4_orders 3 = .ok (.istore_n 2, 1) := by decide +kernel
theorem dX4_orders_4 : decode cX4_orders 4 = .ok (.iconst 1, 1) := by decide +kernel
theorem dX4_orders_5 : decode cX4_orders 5 = .ok (.istore_n 3, 1) := by decide +kernel
theorem dX4_orders_6 : decode cX4_orders 6 = .ok (.iload_n 3, 1) := by decide +kernel
theorem dX4_orders_7 : decode cX4_orders 7 = .ok (.bipush 6, 2) := by decide +kernel
theorem dX4_orders_9 : decode cX4_orders 9 = .ok (.if_icmp .gt 31, 3) := by decide +kernel
theorem dX4_orders_12 : decode cX4_orders 12 = .ok (.iload_n 1, 1) := by decide +kernel
theorem dX4_orders_13 : decode cX4_orders 13 = .ok (.aload_n 0, 1) := by decide +kernel
theorem dX4_orders_14 : decode cX4_orders 14 = .ok (.getfield 9, 3) := by decide +kernel
theorem dX4_orders_17 : decode cX4_orders 17 = .ok (.iload_n 3, 1) := by decide +kernel
theorem dX4_orders_18 : decode cX4_orders 18 = .ok (.iaload, 1) := by decide +kernel
theorem dX4_orders_19 : decode cX4_orders 19 = .ok (.iadd, 1) := by decide +kernel
theorem dX4_orders_20 : decode cX4_orders 20 = .ok (.istore_n 1, 1) := by decide +kernel
theorem dX4_orders_21 : decode cX4_orders 21 = .ok (.iload_n 2, 1) := by decide +kernel
theorem dX4_orders_22 : decode cX4_orders 22 = .ok (.getstatic 27, 3) := by decide +kernel
theorem dX4_orders_25 : decode cX4_orders 25 = .ok (.aload_n 0, 1) := by decide +kernel
theorem dX4_orders_26 : decode cX4_orders 26 = .ok (.getfield 9, 3) := by decide +kernel
theorem dX4_orders_29 : decode cX4_orders 29 = .ok (.iload_n 3, 1) := by decide +kernel
theorem dX4_orders_30 : decode cX4_orders 30 = .ok (.iaload, 1) := by decide +kernel
theorem dX4_orders_31 : decode cX4_orders 31 = .ok (.iaload, 1) := by decide +kernel
theorem dX4_orders_32 : decode cX4_orders 32 = .ok (.imul, 1) := by decide +kernel
theorem dX4_orders_33 : decode cX4_orders 33 = .ok (.istore_n 2, 1) := by decide +kernel
theorem dX4_orders_34 : decode cX4_orders 34 = .ok (.iinc 3 1, 3) := by decide +kernel
theorem dX4_orders_37 : decode cX4_orders 37 = .ok (.goto (-31), 3) := by decide +kernel
theorem dX4_orders_40 : decode cX4_orders 40 = .ok (.getstatic 27, 3) := by decide +kernel
theorem dX4_orders_43 : decode cX4_orders 43 = .ok (.iload_n 1, 1) := by decide +kernel
theorem dX4_orders_44 : decode cX4_orders 44 = .ok (.iaload, 1) := by decide +kernel
theorem dX4_orders_45 : decode cX4_orders 45 = .ok (.iload_n 2, 1) := by decide +kernel
theorem dX4_orders_46 : decode cX4_orders 46 = .ok (.idiv, 1) := by decide +kernel
theorem dX4_orders_47 : decode cX4_orders 47 = .ok (.ireturn, 1) := by decide +kernel
theorem dX5_init_0 : decode cX5_init 0 = .ok (.aload_n 0, 1) := by decide +kernel
theorem dX5_init_1 : decode cX5_init 1 = .ok (.invokespecial 3, 3) := by decide +kernel
theorem dX5_init_4 : decode cX5_init 4 = .ok (.aload_n 0, 1) := by decide +kernel
theorem dX5_init_5 : decode cX5_init 5 = .ok (.iconst 3, 1) := by decide +kernel
theorem dX5_init_6 : decode cX5_init 6 = .ok (.sipush 462, 3) := by decide +kernel
theorem dX5_init_9 : decode cX5_init 9 = .ok (.multianewarray 9 2, 4) := by decide +kernel
theorem dX5_init_13 : decode cX5_init 13 = .ok (.putfield 11, 3) := by decide +kernel
theorem dX5_init_16 : decode cX5_init 16 = .ok (.aload_n 0, 1) := by decide +kernel
theorem dX5_init_17 : decode cX5_init 17 = .ok (.iconst 3, 1) := by decide +kernel
theorem dX5_init_18 : decode cX5_init 18 = .ok (.sipush 462, 3) := by decide +kernel
theorem dX5_init_21 : decode cX5_init 21 = .ok (.multianewarray 9 2, 4) := by decide +kernel
theorem dX5_init_25 : decode cX5_init 25 = .ok (.putfield 16, 3) := by decide +kernel
theorem dX5_init_28 : decode cX5_init 28 = .ok (.aload_n 0, 1) := by decide +kernel
theorem dX5_init_29 : decode cX5_init 29 = .ok (.aload_n 1, 1) := by decide +kernel
theorem dX5_init_30 : decode cX5_init 30 = .ok (.putfield 19, 3) := by decide +kernel
theorem dX5_init_33 : decode cX5_init 33 = .ok (.return_, 1) := by decide +kernel
theorem dX5_ground_0 : decode cX5_ground 0 = .ok (.aload_n 0, 1) := by decide +kernel
theorem dX5_ground_1 : decode cX5_ground 1 = .ok (.getfield 11, 3) := by decide +kernel
theorem dX5_ground_4 : decode cX5_ground 4 = .ok (.iconst 0, 1) := by decide +kernel
theorem dX5_ground_5 : decode cX5_ground 5 = .ok (.aaload, 1) := by decide +kernel
theorem dX5_ground_6 : decode cX5_ground 6 = .ok (.areturn, 1) := by decide +kernel
theorem dX5_valueOfHeap_0 : decode cX5_valueOfHeap 0 = .ok (.aload_n 0, 1) := by decide +kernel
theorem dX5_valueOfHeap_1 : decode cX5_valueOfHeap 1 = .ok (.getfield 11, 3) := by decide +kernel
theorem dX5_valueOfHeap_4 : decode cX5_valueOfHeap 4 = .ok (.iload_n 2, 1) := by decide +kernel
theorem dX5_valueOfHeap_5 : decode cX5_valueOfHeap 5 = .ok (.aaload, 1) := by decide +kernel
theorem dX5_valueOfHeap_6 : decode cX5_valueOfHeap 6 = .ok (.iload_n 1, 1) := by decide +kernel
theorem dX5_valueOfHeap_7 : decode cX5_valueOfHeap 7 = .ok (.laload, 1) := by decide +kernel
theorem dX5_valueOfHeap_8 : decode cX5_valueOfHeap 8 = .ok (.lreturn, 1) := by decide +kernel
theorem dX5_valueOfHold_0 : decode cX5_valueOfHold 0 = .ok (.aload_n 0, 1) := by decide +kernel
theorem dX5_valueOfHold_1 : decode cX5_valueOfHold 1 = .ok (.getfield 16, 3) := by decide +kernel
theorem dX5_valueOfHold_4 : decode cX5_valueOfHold 4 = .ok (.iload_n 2, 1) := by decide +kernel
theorem dX5_valueOfHold_5 : decode cX5_valueOfHold 5 = .ok (.iconst 1, 1) := by decide +kernel
theorem dX5_valueOfHold_6 : decode cX5_valueOfHold 6 = .ok (.isub, 1) := by decide +kernel
theorem dX5_valueOfHold_7 : decode cX5_valueOfHold 7 = .ok (.aaload, 1) := by decide +kernel
theorem dX5_valueOfHold_8 : decode cX5_valueOfHold 8 = .ok (.iload_n 1, 1) := by decide +kernel
theorem dX5_valueOfHold_9 : decode cX5_valueOfHold 9 = .ok (.laload, 1) := by decide +kernel
theorem dX5_valueOfHold_10 : decode cX5_valueOfHold 10 = .ok (.lreturn, 1) := by decide +kernel
theorem dX5_bestHoldOf_0 : decode cX5_bestHoldOf 0 = .ok (.aload_n 0, 1) := by decide +kernel
theorem dX5_bestHoldOf_1 : decode cX5_bestHoldOf 1 = .ok (.getfield 11, 3) := by decide +kernel
theorem dX5_bestHoldOf_4 : decode cX5_bestHoldOf 4 = .ok (.iload_n 2, 1) := by decide +kernel
theorem dX5_bestHoldOf_5 : decode cX5_bestHoldOf 5 = .ok (.aaload, 1) := by decide +kernel
theorem dX5_bestHoldOf_6 : decode cX5_bestHoldOf 6 = .ok (.iload_n 1, 1) := by decide +kernel
theorem dX5_bestHoldOf_7 : decode cX5_bestHoldOf 7 = .ok (.laload, 1) := by decide +kernel
theorem dX5_bestHoldOf_8 : decode cX5_bestHoldOf 8 = .ok (.lstore_n 3, 1) := by decide +kernel
theorem dX5_bestHoldOf_9 : decode cX5_bestHoldOf 9 = .ok (.iconst 0, 1) := by decide +kernel
theorem dX5_bestHoldOf_10 : decode cX5_bestHoldOf 10 = .ok (.istore 5, 2) := by decide +kernel
theorem dX5_bestHoldOf_12 : decode cX5_bestHoldOf 12 = .ok (.iload 5, 2) := by decide +kernel
theorem dX5_bestHoldOf_14 : decode cX5_bestHoldOf 14 = .ok (.iload_n 1, 1) := by decide +kernel
theorem dX5_bestHoldOf_15 : decode cX5_bestHoldOf 15 = .ok (.if_icmp .ge 44, 3) := by decide +kernel
theorem dX5_bestHoldOf_18 : decode cX5_bestHoldOf 18 = .ok (.aload_n 0, 1) := by decide +kernel
theorem dX5_bestHoldOf_19 : decode cX5_bestHoldOf 19 = .ok (.getfield 16, 3) := by decide +kernel
theorem dX5_bestHoldOf_22 : decode cX5_bestHoldOf 22 = .ok (.iload_n 2, 1) := by decide +kernel
theorem dX5_bestHoldOf_23 : decode cX5_bestHoldOf 23 = .ok (.iconst 1, 1) := by decide +kernel
theorem dX5_bestHoldOf_24 : decode cX5_bestHoldOf 24 = .ok (.isub, 1) := by decide +kernel
theorem dX5_bestHoldOf_25 : decode cX5_bestHoldOf 25 = .ok (.aaload, 1) := by decide +kernel
theorem dX5_bestHoldOf_26 : decode cX5_bestHoldOf 26 = .ok (.iload 5, 2) := by decide +kernel
theorem dX5_bestHoldOf_28 : decode cX5_bestHoldOf 28 = .ok (.laload, 1) := by decide +kernel
theorem dX5_bestHoldOf_29 : decode cX5_bestHoldOf 29 = .ok (.lload_n 3, 1) := by decide +kernel
theorem dX5_bestHoldOf_30 : decode cX5_bestHoldOf 30 = .ok (.lcmp, 1) := by decide +kernel
theorem dX5_bestHoldOf_31 : decode cX5_bestHoldOf 31 = .ok (.ifCond .ne 22, 3) := by decide +kernel
theorem dX5_bestHoldOf_34 : decode cX5_bestHoldOf 34 = .ok (.aload_n 0, 1) := by decide +kernel
theorem dX5_bestHoldOf_35 : decode cX5_bestHoldOf 35 = .ok (.getfield 19, 3) := by decide +kernel
theorem dX5_bestHoldOf_38 : decode cX5_bestHoldOf 38 = .ok (.getfield 23, 3) := by decide +kernel
theorem dX5_bestHoldOf_41 : decode cX5_bestHoldOf 41 = .ok (.iload_n 1, 1) := by decide +kernel
theorem dX5_bestHoldOf_42 : decode cX5_bestHoldOf 42 = .ok (.iload 5, 2) := by decide +kernel
theorem dX5_bestHoldOf_44 : decode cX5_bestHoldOf 44 = .ok (.invokevirtual 29, 3) := by decide +kernel
theorem dX5_bestHoldOf_47 : decode cX5_bestHoldOf 47 = .ok (.ifCond .eq 6, 3) := by decide +kernel
theorem dX5_bestHoldOf_50 : decode cX5_bestHoldOf 50 = .ok (.iload 5, 2) := by decide +kernel
theorem dX5_bestHoldOf_52 : decode cX5_bestHoldOf 52 = .ok (.ireturn, 1) := by decide +kernel
theorem dX5_bestHoldOf_53 : decode cX5_bestHoldOf 53 = .ok (.iinc 5 1, 3) := by decide +kernel
theorem dX5_bestHoldOf_56 : decode cX5_bestHoldOf 56 = .ok (.goto (-44), 3) := by decide +kernel
theorem dX5_bestHoldOf_59 : decode cX5_bestHoldOf 59 = .ok (.iload_n 1, 1) := by decide +kernel
theorem dX5_bestHoldOf_60 : decode cX5_bestHoldOf 60 = .ok (.ireturn, 1) := by decide +kernel
theorem dX5_climb_0 : decode cX5_climb 0 = .ok (.iconst 1, 1) := by decide +kernel
theorem dX5_climb_1 : decode cX5_climb 1 = .ok (.istore_n 2, 1) := by decide +kernel
theorem dX5_climb_2 : decode cX5_climb 2 = .ok (.iload_n 2, 1) := by decide +kernel
theorem dX5_climb_3 : decode cX5_climb 3 = .ok (.iload_n 1, 1) := by decide +kernel
theorem dX5_climb_4 : decode cX5_climb 4 = .ok (.if_icmp .gt 64, 3) := by decide +kernel
theorem dX5_climb_7 : decode cX5_climb 7 = .ok (.iload_n 2, 1) := by decide +kernel
theorem dX5_climb_8 : decode cX5_climb 8 = .ok (.iconst 3, 1) := by decide +kernel
theorem dX5_climb_9 : decode cX5_climb 9 = .ok (.if_icmp .ge 59, 3) := by decide +kernel
theorem dX5_climb_12 : decode cX5_climb 12 = .ok (.aload_n 0, 1) := by decide +kernel
theorem dX5_climb_13 : decode cX5_climb 13 = .ok (.aload_n 0, 1) := by decide +kernel
theorem dX5_climb_14 : decode cX5_climb 14 = .ok (.getfield 11, 3) := by decide +kernel
theorem dX5_climb_17 : decode cX5_climb 17 = .ok (.iload_n 2, 1) := by decide +kernel
theorem dX5_climb_18 : decode cX5_climb 18 = .ok (.iconst 1, 1) := by decide +kernel
theorem dX5_climb_19 : decode cX5_climb 19 = .ok (.isub, 1) := by decide +kernel
theorem dX5_climb_20 : decode cX5_climb 20 = .ok (.aaload, 1) := by decide +kernel
theorem dX5_climb_21 : decode cX5_climb 21 = .ok (.aload_n 0, 1) := by decide +kernel
theorem dX5_climb_22 : decode cX5_climb 22 = .ok (.getfield 16, 3) := by decide +kernel
theorem dX5_climb_25 : decode cX5_climb 25 = .ok (.iload_n 2, 1) := by decide +kernel
theorem dX5_climb_26 : decode cX5_climb 26 = .ok (.iconst 1, 1) := by decide +kernel
theorem dX5_climb_27 : decode cX5_climb 27 = .ok (.isub, 1) := by decide +kernel
theorem dX5_climb_28 : decode cX5_climb 28 = .ok (.aaload, 1) := by decide +kernel
theorem dX5_climb_29 : decode cX5_climb 29 = .ok (.invokevirtual 35, 3) := by decide +kernel
theorem dX5_climb_32 : decode cX5_climb 32 = .ok (.aload_n 0, 1) := by decide +kernel
theorem dX5_climb_33 : decode cX5_climb 33 = .ok (.aload_n 0, 1) := by decide +kernel
theorem dX5_climb_34 : decode cX5_climb 34 = .ok (.getfield 16, 3) := by decide +kernel
theorem dX5_climb_37 : decode cX5_climb 37 = .ok (.iload_n 2, 1) := by decide +kernel
theorem dX5_climb_38 : decode cX5_climb 38 = .ok (.iconst 1, 1) := by decide +kernel
theorem dX5_climb_39 : decode cX5_climb 39 = .ok (.isub, 1) := by decide +kernel
theorem dX5_climb_40 : decode cX5_climb 40 = .ok (.aaload, 1) := by decide +kernel
theorem dX5_climb_41 : decode cX5_climb 41 = .ok (.invokevirtual 39, 3) := by decide +kernel
theorem dX5_climb_44 : decode cX5_climb 44 = .ok (.aload_n 0, 1) := by decide +kernel
theorem dX5_climb_45 : decode cX5_climb 45 = .ok (.aload_n 0, 1) := by decide +kernel
theorem dX5_climb_46 : decode cX5_climb 46 = .ok (.getfield 16, 3) := by decide +kernel
theorem dX5_climb_49 : decode cX5_climb 49 = .ok (.iload_n 2, 1) := by decide +kernel
theorem dX5_climb_50 : decode cX5_climb 50 = .ok (.iconst 1, 1) := by decide +kernel
theorem dX5_climb_51 : decode cX5_climb 51 = .ok (.isub, 1) := by decide +kernel
theorem dX5_climb_52 : decode cX5_climb 52 = .ok (.aaload, 1) := by decide +kernel
theorem dX5_climb_53 : decode cX5_climb 53 = .ok (.aload_n 0, 1) := by decide +kernel
theorem dX5_climb_54 : decode cX5_climb 54 = .ok (.getfield 11, 3) := by decide +kernel
theorem dX5_climb_57 : decode cX5_climb 57 = .ok (.iload_n 2, 1) := by decide +kernel
theorem dX5_climb_58 : decode cX5_climb 58 = .ok (.aaload, 1) := by decide +kernel
theorem dX5_climb_59 : decode cX5_climb 59 = .ok (.invokevirtual 43, 3) := by decide +kernel
theorem dX5_climb_62 : decode cX5_climb 62 = .ok (.iinc 2 1, 3) := by decide +kernel
theorem dX5_climb_65 : decode cX5_climb 65 = .ok (.goto (-63), 3) := by decide +kernel
theorem dX5_climb_68 : decode cX5_climb 68 = .ok (.return_, 1) := by decide +kernel
theorem dX5_valueBefore_0 : decode cX5_valueBefore 0 = .ok (.aload_n 0, 1) := by decide +kernel
theorem dX5_valueBefore_1 : decode cX5_valueBefore 1 = .ok (.getfield 19, 3) := by decide +kernel
theorem dX5_valueBefore_4 : decode cX5_valueBefore 4 = .ok (.getfield 46, 3) := by decide +kernel
theorem dX5_valueBefore_7 : decode cX5_valueBefore 7 = .ok (.iconst 1, 1) := by decide +kernel
theorem dX5_valueBefore_8 : decode cX5_valueBefore 8 = .ok (.isub, 1) := by decide +kernel
theorem dX5_valueBefore_9 : decode cX5_valueBefore 9 = .ok (.istore_n 1, 1) := by decide +kernel
theorem dX5_valueBefore_10 : decode cX5_valueBefore 10 = .ok (.aload_n 0, 1) := by decide +kernel
theorem dX5_valueBefore_11 : decode cX5_valueBefore 11 = .ok (.iload_n 1, 1) := by decide +kernel
theorem dX5_valueBefore_12 : decode cX5_valueBefore 12 = .ok (.invokevirtual 50, 3) := by decide +kernel
theorem dX5_valueBefore_15 : decode cX5_valueBefore 15 = .ok (.aload_n 0, 1) := by decide +kernel
theorem dX5_valueBefore_16 : decode cX5_valueBefore 16 = .ok (.aload_n 0, 1) := by decide +kernel
theorem dX5_valueBefore_17 : decode cX5_valueBefore 17 = .ok (.getfield 11, 3) := by decide +kernel
theorem dX5_valueBefore_20 : decode cX5_valueBefore 20 = .ok (.iload_n 1, 1) := by decide +kernel
theorem dX5_valueBefore_21 : decode cX5_valueBefore 21 = .ok (.aaload, 1) := by decide +kernel
theorem dX5_valueBefore_22 : decode cX5_valueBefore 22 = .ok (.aload_n 0, 1) := by decide +kernel
theorem dX5_valueBefore_23 : decode cX5_valueBefore 23 = .ok (.getfield 16, 3) := by decide +kernel
theorem dX5_valueBefore_26 : decode cX5_valueBefore 26 = .ok (.iload_n 1, 1) := by decide +kernel
theorem dX5_valueBefore_27 : decode cX5_valueBefore 27 = .ok (.aaload, 1) := by decide +kernel
theorem dX5_valueBefore_28 : decode cX5_valueBefore 28 = .ok (.invokevirtual 35, 3) := by decide +kernel
theorem dX5_valueBefore_31 : decode cX5_valueBefore 31 = .ok (.aload_n 0, 1) := by decide +kernel
theorem dX5_valueBefore_32 : decode cX5_valueBefore 32 = .ok (.getfield 16, 3) := by decide +kernel
theorem dX5_valueBefore_35 : decode cX5_valueBefore 35 = .ok (.iload_n 1, 1) := by decide +kernel
theorem dX5_valueBefore_36 : decode cX5_valueBefore 36 = .ok (.aaload, 1) := by decide +kernel
theorem dX5_valueBefore_37 : decode cX5_valueBefore 37 = .ok (.iconst 0, 1) := by decide +kernel
theorem dX5_valueBefore_38 : decode cX5_valueBefore 38 = .ok (.laload, 1) := by decide +kernel
theorem dX5_valueBefore_39 : decode cX5_valueBefore 39 = .ok (.lreturn, 1) := by decide +kernel
theorem dX5_throwOthers_0 : decode cX5_throwOthers 0 = .ok (.aload_n 0, 1) := by decide +kernel
theorem dX5_throwOthers_1 : decode cX5_throwOthers 1 = .ok (.getfield 19, 3) := by decide +kernel
theorem dX5_throwOthers_4 : decode cX5_throwOthers 4 = .ok (.getfield 23, 3) := by decide +kernel
theorem dX5_throwOthers_7 : decode cX5_throwOthers 7 = .ok (.astore_n 3, 1) := by decide +kernel
theorem dX5_throwOthers_8 : decode cX5_throwOthers 8 = .ok (.aload_n 1, 1) := by decide +kernel
theorem dX5_throwOthers_9 : decode cX5_throwOthers 9 = .ok (.aload_n 3, 1) := by decide +kernel
theorem dX5_throwOthers_10 : decode cX5_throwOthers 10 = .ok (.getfield 54, 3) := by decide +kernel
theorem dX5_throwOthers_13 : decode cX5_throwOthers 13 = .ok (.aload_n 2, 1) := by decide +kernel
theorem dX5_throwOthers_14 : decode cX5_throwOthers 14 = .ok (.aload_n 3, 1) := by decide +kernel
theorem dX5_throwOthers_15 : decode cX5_throwOthers 15 = .ok (.getfield 54, 3) := by decide +kernel
theorem dX5_throwOthers_18 : decode cX5_throwOthers 18 = .ok (.aload_n 3, 1) := by decide +kernel
theorem dX5_throwOthers_19 : decode cX5_throwOthers 19 = .ok (.invokevirtual 57, 3) := by decide +kernel
theorem dX5_throwOthers_22 : decode cX5_throwOthers 22 = .ok (.invokestatic 61, 3) := by decide +kernel
theorem dX5_throwOthers_25 : decode cX5_throwOthers 25 = .ok (.aload_n 3, 1) := by decide +kernel
theorem dX5_throwOthers_26 : decode cX5_throwOthers 26 = .ok (.getfield 54, 3) := by decide +kernel
theorem dX5_throwOthers_29 : decode cX5_throwOthers 29 = .ok (.iconst 1, 1) := by decide +kernel
theorem dX5_throwOthers_30 : decode cX5_throwOthers 30 = .ok (.isub, 1) := by decide +kernel
theorem dX5_throwOthers_31 : decode cX5_throwOthers 31 = .ok (.istore 4, 2) := by decide +kernel
theorem dX5_throwOthers_33 : decode cX5_throwOthers 33 = .ok (.iload 4, 2) := by decide +kernel
theorem dX5_throwOthers_35 : decode cX5_throwOthers 35 = .ok (.ifCond .lt 60, 3) := by decide +kernel
theorem dX5_throwOthers_38 : decode cX5_throwOthers 38 = .ok (.iload 4, 2) := by decide +kernel
theorem dX5_throwOthers_40 : decode cX5_throwOthers 40 = .ok (.bipush 6, 2) := by decide +kernel
theorem dX5_throwOthers_42 : decode cX5_throwOthers 42 = .ok (.imul, 1) := by decide +kernel
theorem dX5_throwOthers_43 : decode cX5_throwOthers 43 = .ok (.istore 5, 2) := by decide +kernel
theorem dX5_throwOthers_45 : decode cX5_throwOthers 45 = .ok (.lconst 0, 1) := by decide +kernel
theorem dX5_throwOthers_46 : decode cX5_throwOthers 46 = .ok (.lstore 6, 2) := by decide +kernel
theorem dX5_throwOthers_48 : decode cX5_throwOthers 48 = .ok (.iconst 0, 1) := by decide +kernel
theorem dX5_throwOthers_49 : decode cX5_throwOthers 49 = .ok (.istore 8, 2) := by decide +kernel
theorem dX5_throwOthers_51 : decode cX5_throwOthers 51 = .ok (.iload 8, 2) := by decide +kernel
theorem dX5_throwOthers_53 : decode cX5_throwOthers 53 = .ok (.aload_n 3, 1) := by decide +kernel
theorem dX5_throwOthers_54 : decode cX5_throwOthers 54 = .ok (.getfield 67, 3) := by decide +kernel
theorem dX5_throwOthers_57 : decode cX5_throwOthers 57 = .ok (.if_icmp .ge 26, 3) := by decide +kernel
theorem dX5_throwOthers_60 : decode cX5_throwOthers 60 = .ok (.lload 6, 2) := by decide +kernel
theorem dX5_throwOthers_62 : decode cX5_throwOthers 62 = .ok (.aload_n 2, 1) := by decide +kernel
theorem dX5_throwOthers_63 : decode cX5_throwOthers 63 = .ok (.aload_n 3, 1) := by decide +kernel
end
section
theorem dX5_throwOthers_64 : decode cX5_throwOthers 64 = .ok (.getfield 70, 3) := by decide +kernel
theorem dX5_throwOthers_67 : decode cX5_throwOthers 67 = .ok (.iload 5, 2) := by decide +kernel
theorem dX5_throwOthers_69 : decode cX5_throwOthers 69 = .ok (.iload 8, 2) := by decide +kernel
theorem dX5_throwOthers_71 : decode cX5_throwOthers 71 = .ok (.iadd, 1) := by decide +kernel
theorem dX5_throwOthers_72 : decode cX5_throwOthers 72 = .ok (.iaload, 1) := by decide +kernel
theorem dX5_throwOthers_73 : decode cX5_throwOthers 73 = .ok (.laload, 1) := by decide +kernel
theorem dX5_throwOthers_74 : decode cX5_throwOthers 74 = .ok (.ladd, 1) := by decide +kernel
theorem dX5_throwOthers_75 : decode cX5_throwOthers 75 = .ok (.lstore 6, 2) := by decide +kernel
theorem dX5_throwOthers_77 : decode cX5_throwOthers 77 = .ok (.iinc 8 1, 3) := by decide +kernel
theorem dX5_throwOthers_80 : decode cX5_throwOthers 80 = .ok (.goto (-29), 3) := by decide +kernel
theorem dX5_throwOthers_83 : decode cX5_throwOthers 83 = .ok (.aload_n 2, 1) := by decide +kernel
theorem dX5_throwOthers_84 : decode cX5_throwOthers 84 = .ok (.iload 4, 2) := by decide +kernel
theorem dX5_throwOthers_86 : decode cX5_throwOthers 86 = .ok (.lload 6, 2) := by decide +kernel
theorem dX5_throwOthers_88 : decode cX5_throwOthers 88 = .ok (.lastore, 1) := by decide +kernel
theorem dX5_throwOthers_89 : decode cX5_throwOthers 89 = .ok (.iinc 4 (-1), 3) := by decide +kernel
theorem dX5_throwOthers_92 : decode cX5_throwOthers 92 = .ok (.goto (-59), 3) := by decide +kernel
theorem dX5_throwOthers_95 : decode cX5_throwOthers 95 = .ok (.return_, 1) := by decide +kernel
theorem dX5_bringToUnit_0 : decode cX5_bringToUnit 0 = .ok (.aload_n 0, 1) := by decide +kernel
theorem dX5_bringToUnit_1 : decode cX5_bringToUnit 1 = .ok (.getfield 19, 3) := by decide +kernel
theorem dX5_bringToUnit_4 : decode cX5_bringToUnit 4 = .ok (.getfield 23, 3) := by decide +kernel
theorem dX5_bringToUnit_7 : decode cX5_bringToUnit 7 = .ok (.astore_n 2, 1) := by decide +kernel
theorem dX5_bringToUnit_8 : decode cX5_bringToUnit 8 = .ok (.iconst 0, 1) := by decide +kernel
theorem dX5_bringToUnit_9 : decode cX5_bringToUnit 9 = .ok (.istore_n 3, 1) := by decide +kernel
theorem dX5_bringToUnit_10 : decode cX5_bringToUnit 10 = .ok (.iload_n 3, 1) := by decide +kernel
theorem dX5_bringToUnit_11 : decode cX5_bringToUnit 11 = .ok (.aload_n 2, 1) := by decide +kernel
theorem dX5_bringToUnit_12 : decode cX5_bringToUnit 12 = .ok (.getfield 74, 3) := by decide +kernel
theorem dX5_bringToUnit_15 : decode cX5_bringToUnit 15 = .ok (.if_icmp .ge 29, 3) := by decide +kernel
theorem dX5_bringToUnit_18 : decode cX5_bringToUnit 18 = .ok (.aload_n 1, 1) := by decide +kernel
theorem dX5_bringToUnit_19 : decode cX5_bringToUnit 19 = .ok (.iload_n 3, 1) := by decide +kernel
theorem dX5_bringToUnit_20 : decode cX5_bringToUnit 20 = .ok (.dup2, 1) := by decide +kernel
theorem dX5_bringToUnit_21 : decode cX5_bringToUnit 21 = .ok (.laload, 1) := by decide +kernel
theorem dX5_bringToUnit_22 : decode cX5_bringToUnit 22 = .ok (.aload_n 0, 1) := by decide +kernel
theorem dX5_bringToUnit_23 : decode cX5_bringToUnit 23 = .ok (.getfield 19, 3) := by decide +kernel
theorem dX5_bringToUnit_26 : decode cX5_bringToUnit 26 = .ok (.getfield 77, 3) := by decide +kernel
theorem dX5_bringToUnit_29 : decode cX5_bringToUnit 29 = .ok (.aload_n 2, 1) := by decide +kernel
theorem dX5_bringToUnit_30 : decode cX5_bringToUnit 30 = .ok (.getfield 81, 3) := by decide +kernel
theorem dX5_bringToUnit_33 : decode cX5_bringToUnit 33 = .ok (.iload_n 3, 1) := by decide +kernel
theorem dX5_bringToUnit_34 : decode cX5_bringToUnit 34 = .ok (.iaload, 1) := by decide +kernel
theorem dX5_bringToUnit_35 : decode cX5_bringToUnit 35 = .ok (.laload, 1) := by decide +kernel
theorem dX5_bringToUnit_36 : decode cX5_bringToUnit 36 = .ok (.lmul, 1) := by decide +kernel
theorem dX5_bringToUnit_37 : decode cX5_bringToUnit 37 = .ok (.lastore, 1) := by decide +kernel
theorem dX5_bringToUnit_38 : decode cX5_bringToUnit 38 = .ok (.iinc 3 1, 3) := by decide +kernel
theorem dX5_bringToUnit_41 : decode cX5_bringToUnit 41 = .ok (.goto (-31), 3) := by decide +kernel
theorem dX5_bringToUnit_44 : decode cX5_bringToUnit 44 = .ok (.return_, 1) := by decide +kernel
theorem dX5_chooseHolds_0 : decode cX5_chooseHolds 0 = .ok (.aload_n 0, 1) := by decide +kernel
theorem dX5_chooseHolds_1 : decode cX5_chooseHolds 1 = .ok (.getfield 19, 3) := by decide +kernel
theorem dX5_chooseHolds_4 : decode cX5_chooseHolds 4 = .ok (.getfield 23, 3) := by decide +kernel
theorem dX5_chooseHolds_7 : decode cX5_chooseHolds 7 = .ok (.astore_n 3, 1) := by decide +kernel
theorem dX5_chooseHolds_8 : decode cX5_chooseHolds 8 = .ok (.aload_n 1, 1) := by decide +kernel
theorem dX5_chooseHolds_9 : decode cX5_chooseHolds 9 = .ok (.iconst 0, 1) := by decide +kernel
theorem dX5_chooseHolds_10 : decode cX5_chooseHolds 10 = .ok (.aload_n 2, 1) := by decide +kernel
theorem dX5_chooseHolds_11 : decode cX5_chooseHolds 11 = .ok (.iconst 0, 1) := by decide +kernel
theorem dX5_chooseHolds_12 : decode cX5_chooseHolds 12 = .ok (.aload_n 3, 1) := by decide +kernel
theorem dX5_chooseHolds_13 : decode cX5_chooseHolds 13 = .ok (.getfield 74, 3) := by decide +kernel
theorem dX5_chooseHolds_16 : decode cX5_chooseHolds 16 = .ok (.invokestatic 61, 3) := by decide +kernel
theorem dX5_chooseHolds_19 : decode cX5_chooseHolds 19 = .ok (.iconst 0, 1) := by decide +kernel
theorem dX5_chooseHolds_20 : decode cX5_chooseHolds 20 = .ok (.istore 4, 2) := by decide +kernel
theorem dX5_chooseHolds_22 : decode cX5_chooseHolds 22 = .ok (.iload 4, 2) := by decide +kernel
theorem dX5_chooseHolds_24 : decode cX5_chooseHolds 24 = .ok (.aload_n 3, 1) := by decide +kernel
theorem dX5_chooseHolds_25 : decode cX5_chooseHolds 25 = .ok (.getfield 54, 3) := by decide +kernel
theorem dX5_chooseHolds_28 : decode cX5_chooseHolds 28 = .ok (.if_icmp .ge 66, 3) := by decide +kernel
theorem dX5_chooseHolds_31 : decode cX5_chooseHolds 31 = .ok (.iload 4, 2) := by decide +kernel
theorem dX5_chooseHolds_33 : decode cX5_chooseHolds 33 = .ok (.bipush 6, 2) := by decide +kernel
theorem dX5_chooseHolds_35 : decode cX5_chooseHolds 35 = .ok (.imul, 1) := by decide +kernel
theorem dX5_chooseHolds_36 : decode cX5_chooseHolds 36 = .ok (.istore 5, 2) := by decide +kernel
theorem dX5_chooseHolds_38 : decode cX5_chooseHolds 38 = .ok (.iconst 0, 1) := by decide +kernel
theorem dX5_chooseHolds_39 : decode cX5_chooseHolds 39 = .ok (.istore 6, 2) := by decide +kernel
theorem dX5_chooseHolds_41 : decode cX5_chooseHolds 41 = .ok (.iload 6, 2) := by decide +kernel
theorem dX5_chooseHolds_43 : decode cX5_chooseHolds 43 = .ok (.aload_n 3, 1) := by decide +kernel
theorem dX5_chooseHolds_44 : decode cX5_chooseHolds 44 = .ok (.getfield 67, 3) := by decide +kernel
theorem dX5_chooseHolds_47 : decode cX5_chooseHolds 47 = .ok (.if_icmp .ge 41, 3) := by decide +kernel
theorem dX5_chooseHolds_50 : decode cX5_chooseHolds 50 = .ok (.aload_n 3, 1) := by decide +kernel
theorem dX5_chooseHolds_51 : decode cX5_chooseHolds 51 = .ok (.getfield 70, 3) := by decide +kernel
theorem dX5_chooseHolds_54 : decode cX5_chooseHolds 54 = .ok (.iload 5, 2) := by decide +kernel
theorem dX5_chooseHolds_56 : decode cX5_chooseHolds 56 = .ok (.iload 6, 2) := by decide +kernel
theorem dX5_chooseHolds_58 : decode cX5_chooseHolds 58 = .ok (.iadd, 1) := by decide +kernel
theorem dX5_chooseHolds_59 : decode cX5_chooseHolds 59 = .ok (.iaload, 1) := by decide +kernel
theorem dX5_chooseHolds_60 : decode cX5_chooseHolds 60 = .ok (.istore 7, 2) := by decide +kernel
theorem dX5_chooseHolds_62 : decode cX5_chooseHolds 62 = .ok (.aload_n 2, 1) := by decide +kernel
theorem dX5_chooseHolds_63 : decode cX5_chooseHolds 63 = .ok (.iload 7, 2) := by decide +kernel
theorem dX5_chooseHolds_65 : decode cX5_chooseHolds 65 = .ok (.laload, 1) := by decide +kernel
theorem dX5_chooseHolds_66 : decode cX5_chooseHolds 66 = .ok (.aload_n 2, 1) := by decide +kernel
theorem dX5_chooseHolds_67 : decode cX5_chooseHolds 67 = .ok (.iload 4, 2) := by decide +kernel
theorem dX5_chooseHolds_69 : decode cX5_chooseHolds 69 = .ok (.laload, 1) := by decide +kernel
theorem dX5_chooseHolds_70 : decode cX5_chooseHolds 70 = .ok (.lcmp, 1) := by decide +kernel
theorem dX5_chooseHolds_71 : decode cX5_chooseHolds 71 = .ok (.ifCond .ge 11, 3) := by decide +kernel
theorem dX5_chooseHolds_74 : decode cX5_chooseHolds 74 = .ok (.aload_n 2, 1) := by decide +kernel
theorem dX5_chooseHolds_75 : decode cX5_chooseHolds 75 = .ok (.iload 7, 2) := by decide +kernel
theorem dX5_chooseHolds_77 : decode cX5_chooseHolds 77 = .ok (.aload_n 2, 1) := by decide +kernel
theorem dX5_chooseHolds_78 : decode cX5_chooseHolds 78 = .ok (.iload 4, 2) := by decide +kernel
theorem dX5_chooseHolds_80 : decode cX5_chooseHolds 80 = .ok (.laload, 1) := by decide +kernel
theorem dX5_chooseHolds_81 : decode cX5_chooseHolds 81 = .ok (.lastore, 1) := by decide +kernel
theorem dX5_chooseHolds_82 : decode cX5_chooseHolds 82 = .ok (.iinc 6 1, 3) := by decide +kernel
theorem dX5_chooseHolds_85 : decode cX5_chooseHolds 85 = .ok (.goto (-44), 3) := by decide +kernel
theorem dX5_chooseHolds_88 : decode cX5_chooseHolds 88 = .ok (.iinc 4 1, 3) := by decide +kernel
theorem dX5_chooseHolds_91 : decode cX5_chooseHolds 91 = .ok (.goto (-69), 3) := by decide +kernel
theorem dX5_chooseHolds_94 : decode cX5_chooseHolds 94 = .ok (.return_, 1) := by decide +kernel
theorem dX6_init_0 : decode cX6_init 0 = .ok (.aload_n 0, 1) := by decide +kernel
theorem dX6_init_1 : decode cX6_init 1 = .ok (.invokespecial 3, 3) := by decide +kernel
theorem dX6_init_4 : decode cX6_init 4 = .ok (.aload_n 0, 1) := by decide +kernel
theorem dX6_init_5 : decode cX6_init 5 = .ok (.sipush 256, 3) := by decide +kernel
theorem dX6_init_8 : decode cX6_init 8 = .ok (.newarray .long, 2) := by decide +kernel
theorem dX6_init_10 : decode cX6_init 10 = .ok (.putfield 9, 3) := by decide +kernel
theorem dX6_init_13 : decode cX6_init 13 = .ok (.aload_n 0, 1) := by decide +kernel
theorem dX6_init_14 : decode cX6_init 14 = .ok (.aload_n 1, 1) := by decide +kernel
theorem dX6_init_15 : decode cX6_init 15 = .ok (.putfield 15, 3) := by decide +kernel
theorem dX6_init_18 : decode cX6_init 18 = .ok (.aload_n 0, 1) := by decide +kernel
theorem dX6_init_19 : decode cX6_init 19 = .ok (.new 19, 3) := by decide +kernel
theorem dX6_init_22 : decode cX6_init 22 = .ok (.dup, 1) := by decide +kernel
theorem dX6_init_23 : decode cX6_init 23 = .ok (.aload_n 1, 1) := by decide +kernel
theorem dX6_init_24 : decode cX6_init 24 = .ok (.invokespecial 21, 3) := by decide +kernel
theorem dX6_init_27 : decode cX6_init 27 = .ok (.putfield 24, 3) := by decide +kernel
theorem dX6_init_30 : decode cX6_init 30 = .ok (.return_, 1) := by decide +kernel
theorem dX6_reckonAll_0 : decode cX6_reckonAll 0 = .ok (.aload_n 0, 1) := by decide +kernel
theorem dX6_reckonAll_1 : decode cX6_reckonAll 1 = .ok (.getfield 15, 3) := by decide +kernel
theorem dX6_reckonAll_4 : decode cX6_reckonAll 4 = .ok (.invokevirtual 28, 3) := by decide +kernel
theorem dX6_reckonAll_7 : decode cX6_reckonAll 7 = .ok (.istore_n 1, 1) := by decide +kernel
theorem dX6_reckonAll_8 : decode cX6_reckonAll 8 = .ok (.aload_n 0, 1) := by decide +kernel
theorem dX6_reckonAll_9 : decode cX6_reckonAll 9 = .ok (.getfield 9, 3) := by decide +kernel
theorem dX6_reckonAll_12 : decode cX6_reckonAll 12 = .ok (.iload_n 1, 1) := by decide +kernel
theorem dX6_reckonAll_13 : decode cX6_reckonAll 13 = .ok (.lconst 0, 1) := by decide +kernel
theorem dX6_reckonAll_14 : decode cX6_reckonAll 14 = .ok (.lastore, 1) := by decide +kernel
theorem dX6_reckonAll_15 : decode cX6_reckonAll 15 = .ok (.iload_n 1, 1) := by decide +kernel
theorem dX6_reckonAll_16 : decode cX6_reckonAll 16 = .ok (.iconst 1, 1) := by decide +kernel
theorem dX6_reckonAll_17 : decode cX6_reckonAll 17 = .ok (.isub, 1) := by decide +kernel
theorem dX6_reckonAll_18 : decode cX6_reckonAll 18 = .ok (.istore_n 2, 1) := by decide +kernel
theorem dX6_reckonAll_19 : decode cX6_reckonAll 19 = .ok (.iload_n 2, 1) := by decide +kernel
theorem dX6_reckonAll_20 : decode cX6_reckonAll 20 = .ok (.ifCond .lt 27, 3) := by decide +kernel
theorem dX6_reckonAll_23 : decode cX6_reckonAll 23 = .ok (.aload_n 0, 1) := by decide +kernel
theorem dX6_reckonAll_24 : decode cX6_reckonAll 24 = .ok (.iload_n 2, 1) := by decide +kernel
theorem dX6_reckonAll_25 : decode cX6_reckonAll 25 = .ok (.invokevirtual 34, 3) := by decide +kernel
theorem dX6_reckonAll_28 : decode cX6_reckonAll 28 = .ok (.aload_n 0, 1) := by decide +kernel
theorem dX6_reckonAll_29 : decode cX6_reckonAll 29 = .ok (.getfield 9, 3) := by decide +kernel
theorem dX6_reckonAll_32 : decode cX6_reckonAll 32 = .ok (.iload_n 2, 1) := by decide +kernel
theorem dX6_reckonAll_33 : decode cX6_reckonAll 33 = .ok (.aload_n 0, 1) := by decide +kernel
theorem dX6_reckonAll_34 : decode cX6_reckonAll 34 = .ok (.getfield 24, 3) := by decide +kernel
theorem dX6_reckonAll_37 : decode cX6_reckonAll 37 = .ok (.invokevirtual 38, 3) := by decide +kernel
theorem dX6_reckonAll_40 : decode cX6_reckonAll 40 = .ok (.lastore, 1) := by decide +kernel
theorem dX6_reckonAll_41 : decode cX6_reckonAll 41 = .ok (.iinc 2 (-1), 3) := by decide +kernel
theorem dX6_reckonAll_44 : decode cX6_reckonAll 44 = .ok (.goto (-25), 3) := by decide +kernel
theorem dX6_reckonAll_47 : decode cX6_reckonAll 47 = .ok (.return_, 1) := by decide +kernel
theorem dX6_lookAt_0 : decode cX6_lookAt 0 = .ok (.aload_n 0, 1) := by decide +kernel
theorem dX6_lookAt_1 : decode cX6_lookAt 1 = .ok (.iload_n 1, 1) := by decide +kernel
theorem dX6_lookAt_2 : decode cX6_lookAt 2 = .ok (.invokevirtual 34, 3) := by decide +kernel
theorem dX6_lookAt_5 : decode cX6_lookAt 5 = .ok (.aload_n 0, 1) := by decide +kernel
theorem dX6_lookAt_6 : decode cX6_lookAt 6 = .ok (.getfield 24, 3) := by decide +kernel
theorem dX6_lookAt_9 : decode cX6_lookAt 9 = .ok (.aload_n 0, 1) := by decide +kernel
theorem dX6_lookAt_10 : decode cX6_lookAt 10 = .ok (.getfield 15, 3) := by decide +kernel
theorem dX6_lookAt_13 : decode cX6_lookAt 13 = .ok (.getfield 42, 3) := by decide +kernel
theorem dX6_lookAt_16 : decode cX6_lookAt 16 = .ok (.iconst 1, 1) := by decide +kernel
theorem dX6_lookAt_17 : decode cX6_lookAt 17 = .ok (.isub, 1) := by decide +kernel
theorem dX6_lookAt_18 : decode cX6_lookAt 18 = .ok (.invokevirtual 46, 3) := by decide +kernel
theorem dX6_lookAt_21 : decode cX6_lookAt 21 = .ok (.return_, 1) := by decide +kernel
theorem dX6_bestRowFor_0 : decode cX6_bestRowFor 0 = .ok (.iconst (-1), 1) := by decide +kernel
theorem dX6_bestRowFor_1 : decode cX6_bestRowFor 1 = .ok (.istore_n 3, 1) := by decide +kernel
theorem dX6_bestRowFor_2 : decode cX6_bestRowFor 2 = .ok (.ldc2_w 49, 3) := by decide +kernel
theorem dX6_bestRowFor_5 : decode cX6_bestRowFor 5 = .ok (.lstore 4, 2) := by decide +kernel
theorem dX6_bestRowFor_7 : decode cX6_bestRowFor 7 = .ok (.iconst 0, 1) := by decide +kernel
theorem dX6_bestRowFor_8 : decode cX6_bestRowFor 8 = .ok (.istore 6, 2) := by decide +kernel
theorem dX6_bestRowFor_10 : decode cX6_bestRowFor 10 = .ok (.iload 6, 2) := by decide +kernel
theorem dX6_bestRowFor_12 : decode cX6_bestRowFor 12 = .ok (.aload_n 0, 1) := by decide +kernel
theorem dX6_bestRowFor_13 : decode cX6_bestRowFor 13 = .ok (.getfield 15, 3) := by decide +kernel
theorem dX6_bestRowFor_16 : decode cX6_bestRowFor 16 = .ok (.getfield 51, 3) := by decide +kernel
theorem dX6_bestRowFor_19 : decode cX6_bestRowFor 19 = .ok (.if_icmp .ge 76, 3) := by decide +kernel
theorem dX6_bestRowFor_22 : decode cX6_bestRowFor 22 = .ok (.aload_n 0, 1) := by decide +kernel
theorem dX6_bestRowFor_23 : decode cX6_bestRowFor 23 = .ok (.getfield 15, 3) := by decide +kernel
theorem dX6_bestRowFor_26 : decode cX6_bestRowFor 26 = .ok (.iload_n 1, 1) := by decide +kernel
theorem dX6_bestRowFor_27 : decode cX6_bestRowFor 27 = .ok (.iload 6, 2) := by decide +kernel
theorem dX6_bestRowFor_29 : decode cX6_bestRowFor 29 = .ok (.invokevirtual 54, 3) := by decide +kernel
theorem dX6_bestRowFor_32 : decode cX6_bestRowFor 32 = .ok (.ifCond .eq 57, 3) := by decide +kernel
theorem dX6_bestRowFor_35 : decode cX6_bestRowFor 35 = .ok (.iload_n 1, 1) := by decide +kernel
theorem dX6_bestRowFor_36 : decode cX6_bestRowFor 36 = .ok (.iconst 1, 1) := by decide +kernel
theorem dX6_bestRowFor_37 : decode cX6_bestRowFor 37 = .ok (.iload 6, 2) := by decide +kernel
theorem dX6_bestRowFor_39 : decode cX6_bestRowFor 39 = .ok (.ishl, 1) := by decide +kernel
theorem dX6_bestRowFor_40 : decode cX6_bestRowFor 40 = .ok (.ior, 1) := by decide +kernel
theorem dX6_bestRowFor_41 : decode cX6_bestRowFor 41 = .ok (.istore 7, 2) := by decide +kernel
theorem dX6_bestRowFor_43 : decode cX6_bestRowFor 43 = .ok (.aload_n 0, 1) := by decide +kernel
theorem dX6_bestRowFor_44 : decode cX6_bestRowFor 44 = .ok (.getfield 15, 3) := by decide +kernel
theorem dX6_bestRowFor_47 : decode cX6_bestRowFor 47 = .ok (.iload 6, 2) := by decide +kernel
theorem dX6_bestRowFor_49 : decode cX6_bestRowFor 49 = .ok (.iload_n 2, 1) := by decide +kernel
theorem dX6_bestRowFor_50 : decode cX6_bestRowFor 50 = .ok (.invokevirtual 58, 3) := by decide +kernel
theorem dX6_bestRowFor_53 : decode cX6_bestRowFor 53 = .ok (.i2l, 1) := by decide +kernel
theorem dX6_bestRowFor_54 : decode cX6_bestRowFor 54 = .ok (.aload_n 0, 1) := by decide +kernel
theorem dX6_bestRowFor_55 : decode cX6_bestRowFor 55 = .ok (.getfield 15, 3) := by decide +kernel
theorem dX6_bestRowFor_58 : decode cX6_bestRowFor 58 = .ok (.iload 7, 2) := by decide +kernel
theorem dX6_bestRowFor_60 : decode cX6_bestRowFor 60 = .ok (.invokevirtual 62, 3) := by decide +kernel
theorem dX6_bestRowFor_63 : decode cX6_bestRowFor 63 = .ok (.lmul, 1) := by decide +kernel
theorem dX6_bestRowFor_64 : decode cX6_bestRowFor 64 = .ok (.aload_n 0, 1) := by decide +kernel
theorem dX6_bestRowFor_65 : decode cX6_bestRowFor 65 = .ok (.getfield 9, 3) := by decide +kernel
theorem dX6_bestRowFor_68 : decode cX6_bestRowFor 68 = .ok (.iload 7, 2) := by decide +kernel
theorem dX6_bestRowFor_70 : decode cX6_bestRowFor 70 = .ok (.laload, 1) := by decide +kernel
theorem dX6_bestRowFor_71 : decode cX6_bestRowFor 71 = .ok (.ladd, 1) := by decide +kernel
theorem dX6_bestRowFor_72 : decode cX6_bestRowFor 72 = .ok (.lstore 8, 2) := by decide +kernel
theorem dX6_bestRowFor_74 : decode cX6_bestRowFor 74 = .ok (.lload 8, 2) := by decide +kernel
theorem dX6_bestRowFor_76 : decode cX6_bestRowFor 76 = .ok (.lload 4, 2) := by decide +kernel
theorem dX6_bestRowFor_78 : decode cX6_bestRowFor 78 = .ok (.lcmp, 1) := by decide +kernel
theorem dX6_bestRowFor_79 : decode cX6_bestRowFor 79 = .ok (.ifCond .le 10, 3) := by decide +kernel
theorem dX6_bestRowFor_82 : decode cX6_bestRowFor 82 = .ok (.iload 6, 2) := by decide +kernel
theorem dX6_bestRowFor_84 : decode cX6_bestRowFor 84 = .ok (.istore_n 3, 1) := by decide +kernel
theorem dX6_bestRowFor_85 : decode cX6_bestRowFor 85 = .ok (.lload 8, 2) := by decide +kernel
theorem dX6_bestRowFor_87 : decode cX6_bestRowFor 87 = .ok (.lstore 4, 2) := by decide +kernel
theorem dX6_bestRowFor_89 : decode cX6_bestRowFor 89 = .ok (.iinc 6 1, 3) := by decide +kernel
theorem dX6_bestRowFor_92 : decode cX6_bestRowFor 92 = .ok (.goto (-82), 3) := by decide +kernel
theorem dX6_bestRowFor_95 : decode cX6_bestRowFor 95 = .ok (.iload_n 3, 1) := by decide +kernel
theorem dX6_bestRowFor_96 : decode cX6_bestRowFor 96 = .ok (.ireturn, 1) := by decide +kernel
theorem dX6_layGround_0 : decode cX6_layGround 0 = .ok (.aload_n 0, 1) := by decide +kernel
theorem dX6_layGround_1 : decode cX6_layGround 1 = .ok (.getfield 15, 3) := by decide +kernel
theorem dX6_layGround_4 : decode cX6_layGround 4 = .ok (.getfield 66, 3) := by decide +kernel
theorem dX6_layGround_7 : decode cX6_layGround 7 = .ok (.invokevirtual 70, 3) := by decide +kernel
theorem dX6_layGround_10 : decode cX6_layGround 10 = .ok (.istore_n 2, 1) := by decide +kernel
theorem dX6_layGround_11 : decode cX6_layGround 11 = .ok (.aload_n 0, 1) := by decide +kernel
theorem dX6_layGround_12 : decode cX6_layGround 12 = .ok (.getfield 15, 3) := by decide +kernel
theorem dX6_layGround_15 : decode cX6_layGround 15 = .ok (.getfield 66, 3) := by decide +kernel
theorem dX6_layGround_18 : decode cX6_layGround 18 = .ok (.getfield 75, 3) := by decide +kernel
theorem dX6_layGround_21 : decode cX6_layGround 21 = .ok (.istore_n 3, 1) := by decide +kernel
theorem dX6_layGround_22 : decode cX6_layGround 22 = .ok (.aload_n 0, 1) := by decide +kernel
theorem dX6_layGround_23 : decode cX6_layGround 23 = .ok (.getfield 24, 3) := by decide +kernel
theorem dX6_layGround_26 : decode cX6_layGround 26 = .ok (.invokevirtual 78, 3) := by decide +kernel
theorem dX6_layGround_29 : decode cX6_layGround 29 = .ok (.astore 4, 2) := by decide +kernel
theorem dX6_layGround_31 : decode cX6_layGround 31 = .ok (.aload 4, 2) := by decide +kernel
theorem dX6_layGround_33 : decode cX6_layGround 33 = .ok (.iload_n 3, 1) := by decide +kernel
theorem dX6_layGround_34 : decode cX6_layGround 34 = .ok (.iload_n 3, 1) := by decide +kernel
theorem dX6_layGround_35 : decode cX6_layGround 35 = .ok (.iload_n 2, 1) := by decide +kernel
theorem dX6_layGround_36 : decode cX6_layGround 36 = .ok (.iadd, 1) := by decide +kernel
theorem dX6_layGround_37 : decode cX6_layGround 37 = .ok (.lconst 0, 1) := by decide +kernel
theorem dX6_layGround_38 : decode cX6_layGround 38 = .ok (.invokestatic 82, 3) := by decide +kernel
theorem dX6_layGround_41 : decode cX6_layGround 41 = .ok (.iconst 0, 1) := by decide +kernel
theorem dX6_layGround_42 : decode cX6_layGround 42 = .ok (.istore 5, 2) := by decide +kernel
theorem dX6_layGround_44 : decode cX6_layGround 44 = .ok (.iload 5, 2) := by decide +kernel
theorem dX6_layGround_46 : decode cX6_layGround 46 = .ok (.aload_n 0, 1) := by decide +kernel
theorem dX6_layGround_47 : decode cX6_layGround 47 = .ok (.getfield 15, 3) := by decide +kernel
theorem dX6_layGround_50 : decode cX6_layGround 50 = .ok (.getfield 51, 3) := by decide +kernel
theorem dX6_layGround_53 : decode cX6_layGround 53 = .ok (.if_icmp .ge 108, 3) := by decide +kernel
theorem dX6_layGround_56 : decode cX6_layGround 56 = .ok (.aload_n 0, 1) := by decide +kernel
theorem dX6_layGround_57 : decode cX6_layGround 57 = .ok (.getfield 15, 3) := by decide +kernel
theorem dX6_layGround_60 : decode cX6_layGround 60 = .ok (.iload_n 1, 1) := by decide +kernel
theorem dX6_layGround_61 : decode cX6_layGround 61 = .ok (.iload 5, 2) := by decide +kernel
theorem dX6_layGround_63 : decode cX6_layGround 63 = .ok (.invokevirtual 54, 3) := by decide +kernel
theorem dX6_layGround_66 : decode cX6_layGround 66 = .ok (.ifCond .eq 89, 3) := by decide +kernel
theorem dX6_layGround_69 : decode cX6_layGround 69 = .ok (.iload_n 1, 1) := by decide +kernel
theorem dX6_layGround_70 : decode cX6_layGround 70 = .ok (.iconst 1, 1) := by decide +kernel
theorem dX6_layGround_71 : decode cX6_layGround 71 = .ok (.iload 5, 2) := by decide +kernel
theorem dX6_layGround_73 : decode cX6_layGround 73 = .ok (.ishl, 1) := by decide +kernel
theorem dX6_layGround_74 : decode cX6_layGround 74 = .ok (.ior, 1) := by decide +kernel
theorem dX6_layGround_75 : decode cX6_layGround 75 = .ok (.istore 6, 2) := by decide +kernel
theorem dX6_layGround_77 : decode cX6_layGround 77 = .ok (.aload_n 0, 1) := by decide +kernel
theorem dX6_layGround_78 : decode cX6_layGround 78 = .ok (.getfield 15, 3) := by decide +kernel
theorem dX6_layGround_81 : decode cX6_layGround 81 = .ok (.iload 6, 2) := by decide +kernel
theorem dX6_layGround_83 : decode cX6_layGround 83 = .ok (.invokevirtual 62, 3) := by decide +kernel
theorem dX6_layGround_86 : decode cX6_layGround 86 = .ok (.lstore 7, 2) := by decide +kernel
theorem dX6_layGround_88 : decode cX6_layGround 88 = .ok (.aload_n 0, 1) := by decide +kernel
theorem dX6_layGround_89 : decode cX6_layGround 89 = .ok (.getfield 9, 3) := by decide +kernel
theorem dX6_layGround_92 : decode cX6_layGround 92 = .ok (.iload 6, 2) := by decide +kernel
theorem dX6_layGround_94 : decode cX6_layGround 94 = .ok (.laload, 1) := by decide +kernel
theorem dX6_layGround_95 : decode cX6_layGround 95 = .ok (.lstore 9, 2) := by decide +kernel
theorem dX6_layGround_97 : decode cX6_layGround 97 = .ok (.iconst 0, 1) := by decide +kernel
theorem dX6_layGround_98 : decode cX6_layGround 98 = .ok (.istore 11, 2) := by decide +kernel
theorem dX6_layGround_100 : decode cX6_layGround 100 = .ok (.iload 11, 2) := by decide +kernel
theorem dX6_layGround_102 : decode cX6_layGround 102 = .ok (.iload_n 2, 1) := by decide +kernel
theorem dX6_layGround_103 : decode cX6_layGround 103 = .ok (.if_icmp .ge 52, 3) := by decide +kernel
theorem dX6_layGround_106 : decode cX6_layGround 106 = .ok (.aload_n 0, 1) := by decide +kernel
theorem dX6_layGround_107 : decode cX6_layGround 107 = .ok (.getfield 15, 3) := by decide +kernel
theorem dX6_layGround_110 : decode cX6_layGround 110 = .ok (.getfield 88, 3) := by decide +kernel
theorem dX6_layGround_113 : decode cX6_layGround 113 = .ok (.iload 5, 2) := by decide +kernel
theorem dX6_layGround_115 : decode cX6_layGround 115 = .ok (.iload_n 2, 1) := by decide +kernel
theorem dX6_layGround_116 : decode cX6_layGround 116 = .ok (.imul, 1) := by decide +kernel
theorem dX6_layGround_117 : decode cX6_layGround 117 = .ok (.iload 11, 2) := by decide +kernel
theorem dX6_layGround_119 : decode cX6_layGround 119 = .ok (.iadd, 1) := by decide +kernel
theorem dX6_layGround_120 : decode cX6_layGround 120 = .ok (.iaload, 1) := by decide +kernel
theorem dX6_layGround_121 : decode cX6_layGround 121 = .ok (.i2l, 1) := by decide +kernel
theorem dX6_layGround_122 : decode cX6_layGround 122 = .ok (.lload 7, 2) := by decide +kernel
theorem dX6_layGround_124 : decode cX6_layGround 124 = .ok (.lmul, 1) := by decide +kernel
theorem dX6_layGround_125 : decode cX6_layGround 125 = .ok (.lload 9, 2) := by decide +kernel
theorem dX6_layGround_127 : decode cX6_layGround 127 = .ok (.ladd, 1) := by decide +kernel
theorem dX6_layGround_128 : decode cX6_layGround 128 = .ok (.lstore 12, 2) := by decide +kernel
theorem dX6_layGround_130 : decode cX6_layGround 130 = .ok (.aload 4, 2) := by decide +kernel
theorem dX6_layGround_132 : decode cX6_layGround 132 = .ok (.iload_n 3, 1) := by decide +kernel
theorem dX6_layGround_133 : decode cX6_layGround 133 = .ok (.iload 11, 2) := by decide +kernel
theorem dX6_layGround_135 : decode cX6_layGround 135 = .ok (.iadd, 1) := by decide +kernel
theorem dX6_layGround_136 : decode cX6_layGround 136 = .ok (.aload 4, 2) := by decide +kernel
theorem dX6_layGround_138 : decode cX6_layGround 138 = .ok (.iload_n 3, 1) := by decide +kernel
theorem dX6_layGround_139 : decode cX6_layGround 139 = .ok (.iload 11, 2) := by decide +kernel
theorem dX6_layGround_141 : decode cX6_layGround 141 = .ok (.iadd, 1) := by decide +kernel
theorem dX6_layGround_142 : decode cX6_layGround 142 = .ok (.laload, 1) := by decide +kernel
theorem dX6_layGround_143 : decode cX6_layGround 143 = .ok (.lload 12, 2) := by decide +kernel
theorem dX6_layGround_145 : decode cX6_layGround 145 = .ok (.invokestatic 92, 3) := by decide +kernel
theorem dX6_layGround_148 : decode cX6_layGround 148 = .ok (.lastore, 1) := by decide +kernel
theorem dX6_layGround_149 : decode cX6_layGround 149 = .ok (.iinc 11 1, 3) := by decide +kernel
theorem dX6_layGround_152 : decode cX6_layGround 152 = .ok (.goto (-52), 3) := by decide +kernel
theorem dX6_layGround_155 : decode cX6_layGround 155 = .ok (.iinc 5 1, 3) := by decide +kernel
theorem dX6_layGround_158 : decode cX6_layGround 158 = .ok (.goto (-114), 3) := by decide +kernel
theorem dX6_layGround_161 : decode cX6_layGround 161 = .ok (.return_, 1) := by decide +kernel
theorem dX7_init_0 : decode cX7_init 0 = .ok (.aload_n 0, 1) := by decide +kernel
theorem dX7_init_1 : decode cX7_init 1 = .ok (.invokespecial 1, 3) := by decide +kernel
theorem dX7_init_4 : decode cX7_init 4 = .ok (.aload_n 0, 1) := by decide +kernel
theorem dX7_init_5 : decode cX7_init 5 = .ok (.new 7, 3) := by decide +kernel
theorem dX7_init_8 : decode cX7_init 8 = .ok (.dup, 1) := by decide +kernel
theorem dX7_init_9 : decode cX7_init 9 = .ok (.invokespecial 9, 3) := by decide +kernel
theorem dX7_init_12 : decode cX7_init 12 = .ok (.putfield 10, 3) := by decide +kernel
theorem dX7_init_15 : decode cX7_init 15 = .ok (.aload_n 0, 1) := by decide +kernel
theorem dX7_init_16 : decode cX7_init 16 = .ok (.bipush 8, 2) := by decide +kernel
theorem dX7_init_18 : decode cX7_init 18 = .ok (.anewarray 16, 3) := by decide +kernel
theorem dX7_init_21 : decode cX7_init 21 = .ok (.putfield 18, 3) := by decide +kernel
theorem dX7_init_24 : decode cX7_init 24 = .ok (.aload_n 0, 1) := by decide +kernel
theorem dX7_init_25 : decode cX7_init 25 = .ok (.new 22, 3) := by decide +kernel
theorem dX7_init_28 : decode cX7_init 28 = .ok (.dup, 1) := by decide +kernel
theorem dX7_init_29 : decode cX7_init 29 = .ok (.invokespecial 24, 3) := by decide +kernel
theorem dX7_init_32 : decode cX7_init 32 = .ok (.putfield 25, 3) := by decide +kernel
theorem dX7_init_35 : decode cX7_init 35 = .ok (.aload_n 0, 1) := by decide +kernel
theorem dX7_init_36 : decode cX7_init 36 = .ok (.new 29, 3) := by decide +kernel
theorem dX7_init_39 : decode cX7_init 39 = .ok (.dup, 1) := by decide +kernel
theorem dX7_init_40 : decode cX7_init 40 = .ok (.aload_n 0, 1) := by decide +kernel
theorem dX7_init_41 : decode cX7_init 41 = .ok (.getfield 25, 3) := by decide +kernel
theorem dX7_init_44 : decode cX7_init 44 = .ok (.invokespecial 31, 3) := by decide +kernel
theorem dX7_init_47 : decode cX7_init 47 = .ok (.putfield 34, 3) := by decide +kernel
theorem dX7_init_50 : decode cX7_init 50 = .ok (.aload_n 0, 1) := by decide +kernel
theorem dX7_init_51 : decode cX7_init 51 = .ok (.new 38, 3) := by decide +kernel
theorem dX7_init_54 : decode cX7_init 54 = .ok (.dup, 1) := by decide +kernel
theorem dX7_init_55 : decode cX7_init 55 = .ok (.aload_n 0, 1) := by decide +kernel
theorem dX7_init_56 : decode cX7_init 56 = .ok (.getfield 25, 3) := by decide +kernel
theorem dX7_init_59 : decode cX7_init 59 = .ok (.invokespecial 40, 3) := by decide +kernel
theorem dX7_init_62 : decode cX7_init 62 = .ok (.putfield 41, 3) := by decide +kernel
theorem dX7_init_65 : decode cX7_init 65 = .ok (.aload_n 0, 1) := by decide +kernel
theorem dX7_init_66 : decode cX7_init 66 = .ok (.iconst 5, 1) := by decide +kernel
theorem dX7_init_67 : decode cX7_init 67 = .ok (.putfield 45, 3) := by decide +kernel
theorem dX7_init_70 : decode cX7_init 70 = .ok (.aload_n 0, 1) := by decide +kernel
theorem dX7_init_71 : decode cX7_init 71 = .ok (.bipush 6, 2) := by decide +kernel
theorem dX7_init_73 : decode cX7_init 73 = .ok (.putfield 49, 3) := by decide +kernel
theorem dX7_init_76 : decode cX7_init 76 = .ok (.aload_n 0, 1) := by decide +kernel
theorem dX7_init_77 : decode cX7_init 77 = .ok (.iconst 3, 1) := by decide +kernel
theorem dX7_init_78 : decode cX7_init 78 = .ok (.putfield 52, 3) := by decide +kernel
theorem dX7_init_81 : decode cX7_init 81 = .ok (.aload_n 0, 1) := by decide +kernel
theorem dX7_init_82 : decode cX7_init 82 = .ok (.iconst 0, 1) := by decide +kernel
theorem dX7_init_83 : decode cX7_init 83 = .ok (.putfield 55, 3) := by decide +kernel
theorem dX7_init_86 : decode cX7_init 86 = .ok (.aload_n 0, 1) := by decide +kernel
theorem dX7_init_87 : decode cX7_init 87 = .ok (.iconst 0, 1) := by decide +kernel
theorem dX7_init_88 : decode cX7_init 88 = .ok (.putfield 58, 3) := by decide +kernel
theorem dX7_init_91 : decode cX7_init 91 = .ok (.aload_n 0, 1) := by decide +kernel
theorem dX7_init_92 : decode cX7_init 92 = .ok (.iconst 0, 1) := by decide +kernel
theorem dX7_init_93 : decode cX7_init 93 = .ok (.putfield 62, 3) := by decide +kernel
theorem dX7_init_96 : decode cX7_init 96 = .ok (.aload_n 0, 1) := by decide +kernel
theorem dX7_init_97 : decode cX7_init 97 = .ok (.iconst 0, 1) := by decide +kernel
theorem dX7_init_98 : decode cX7_init 98 = .ok (.putfield 65, 3) := by decide +kernel
theorem dX7_init_101 : decode cX7_init 101 = .ok (.aload_n 0, 1) := by decide +kernel
theorem dX7_init_102 : decode cX7_init 102 = .ok (.lconst 0, 1) := by decide +kernel
theorem dX7_init_103 : decode cX7_init 103 = .ok (.putfield 68, 3) := by decide +kernel
theorem dX7_init_106 : decode cX7_init 106 = .ok (.aload_n 0, 1) := by decide +kernel
theorem dX7_init_107 : decode cX7_init 107 = .ok (.lconst 0, 1) := by decide +kernel
theorem dX7_init_108 : decode cX7_init 108 = .ok (.putfield 72, 3) := by decide +kernel
theorem dX7_init_111 : decode cX7_init 111 = .ok (.aload_n 0, 1) := by decide +kernel
theorem dX7_init_112 : decode cX7_init 112 = .ok (.iconst 0, 1) := by decide +kernel
theorem dX7_init_113 : decode cX7_init 113 = .ok (.putfield 75, 3) := by decide +kernel
theorem dX7_init_116 : decode cX7_init 116 = .ok (.aload_n 0, 1) := by decide +kernel
theorem dX7_init_117 : decode cX7_init 117 = .ok (.iconst 0, 1) := by decide +kernel
theorem dX7_init_118 : decode cX7_init 118 = .ok (.putfield 78, 3) := by decide +kernel
theorem dX7_init_121 : decode cX7_init 121 = .ok (.aload_n 0, 1) := by decide +kernel
theorem dX7_init_122 : decode cX7_init 122 = .ok (.iconst 0, 1) := by decide +kernel
theorem dX7_init_123 : decode cX7_init 123 = .ok (.putfield 81, 3) := by decide +kernel
theorem dX7_init_126 : decode cX7_init 126 = .ok (.aload_n 0, 1) := by decide +kernel
theorem dX7_init_127 : decode cX7_init 127 = .ok (.iconst 0, 1) := by decide +kernel
theorem dX7_init_128 : decode cX7_init 128 = .ok (.putfield 84, 3) := by decide +kernel
theorem dX7_init_131 : decode cX7_init 131 = .ok (.iconst 0, 1) := by decide +kernel
theorem dX7_init_132 : decode cX7_init 132 = .ok (.istore_n 1, 1) := by decide +kernel
theorem dX7_init_133 : decode cX7_init 133 = .ok (.iload_n 1, 1) := by decide +kernel
theorem dX7_init_134 : decode cX7_init 134 = .ok (.bipush 8, 2) := by decide +kernel
theorem dX7_init_136 : decode cX7_init 136 = .ok (.if_icmp .ge 22, 3) := by decide +kernel
theorem dX7_init_139 : decode cX7_init 139 = .ok (.aload_n 0, 1) := by decide +kernel
theorem dX7_init_140 : decode cX7_init 140 = .ok (.getfield 18, 3) := by decide +kernel
theorem dX7_init_143 : decode cX7_init 143 = .ok (.iload_n 1, 1) := by decide +kernel
theorem dX7_init_144 : decode cX7_init 144 = .ok (.new 16, 3) := by decide +kernel
theorem dX7_init_147 : decode cX7_init 147 = .ok (.dup, 1) := by decide +kernel
theorem dX7_init_148 : decode cX7_init 148 = .ok (.invokespecial 87, 3) := by decide +kernel
theorem dX7_init_151 : decode cX7_init 151 = .ok (.aastore, 1) := by decide +kernel
theorem dX7_init_152 : decode cX7_init 152 = .ok (.iinc 1 1, 3) := by decide +kernel
theorem dX7_init_155 : decode cX7_init 155 = .ok (.goto (-22), 3) := by decide +kernel
theorem dX7_init_158 : decode cX7_init 158 = .ok (.return_, 1) := by decide +kernel
theorem dX7_dice_0 : decode cX7_dice 0 = .ok (.iload_n 1, 1) := by decide +kernel
theorem dX7_dice_1 : decode cX7_dice 1 = .ok (.iconst 1, 1) := by decide +kernel
theorem dX7_dice_2 : decode cX7_dice 2 = .ok (.if_icmp .lt 29, 3) := by decide +kernel
theorem dX7_dice_5 : decode cX7_dice 5 = .ok (.iload_n 1, 1) := by decide +kernel
theorem dX7_dice_6 : decode cX7_dice 6 = .ok (.iconst 5, 1) := by decide +kernel
theorem dX7_dice_7 : decode cX7_dice 7 = .ok (.if_icmp .gt 24, 3) := by decide +kernel
theorem dX7_dice_10 : decode cX7_dice 10 = .ok (.iload_n 2, 1) := by decide +kernel
theorem dX7_dice_11 : decode cX7_dice 11 = .ok (.iconst 2, 1) := by decide +kernel
theorem dX7_dice_12 : decode cX7_dice 12 = .ok (.if_icmp .lt 19, 3) := by decide +kernel
theorem dX7_dice_15 : decode cX7_dice 15 = .ok (.iload_n 2, 1) := by decide +kernel
theorem dX7_dice_16 : decode cX7_dice 16 = .ok (.bipush 6, 2) := by decide +kernel
theorem dX7_dice_18 : decode cX7_dice 18 = .ok (.if_icmp .gt 13, 3) := by decide +kernel
theorem dX7_dice_21 : decode cX7_dice 21 = .ok (.iload_n 3, 1) := by decide +kernel
theorem dX7_dice_22 : decode cX7_dice 22 = .ok (.iconst 1, 1) := by decide +kernel
theorem dX7_dice_23 : decode cX7_dice 23 = .ok (.if_icmp .lt 8, 3) := by decide +kernel
theorem dX7_dice_26 : decode cX7_dice 26 = .ok (.iload_n 3, 1) := by decide +kernel
theorem dX7_dice_27 : decode cX7_dice 27 = .ok (.iconst 3, 1) := by decide +kernel
theorem dX7_dice_28 : decode cX7_dice 28 = .ok (.if_icmp .le 6, 3) := by decide +kernel
theorem dX7_dice_31 : decode cX7_dice 31 = .ok (.bipush (-3), 2) := by decide +kernel
theorem dX7_dice_33 : decode cX7_dice 33 = .ok (.ireturn, 1) := by decide +kernel
theorem dX7_dice_34 : decode cX7_dice 34 = .ok (.aload_n 0, 1) := by decide +kernel
theorem dX7_dice_35 : decode cX7_dice 35 = .ok (.getfield 58, 3) := by decide +kernel
theorem dX7_dice_38 : decode cX7_dice 38 = .ok (.ifCond .eq 6, 3) := by decide +kernel
theorem dX7_dice_41 : decode cX7_dice 41 = .ok (.bipush (-4), 2) := by decide +kernel
theorem dX7_dice_43 : decode cX7_dice 43 = .ok (.ireturn, 1) := by decide +kernel
theorem dX7_dice_44 : decode cX7_dice 44 = .ok (.aload_n 0, 1) := by decide +kernel
theorem dX7_dice_45 : decode cX7_dice 45 = .ok (.iload_n 1, 1) := by decide +kernel
theorem dX7_dice_46 : decode cX7_dice 46 = .ok (.putfield 45, 3) := by decide +kernel
theorem dX7_dice_49 : decode cX7_dice 49 = .ok (.aload_n 0, 1) := by decide +kernel
theorem dX7_dice_50 : decode cX7_dice 50 = .ok (.iload_n 2, 1) := by decide +kernel
theorem dX7_dice_51 : decode cX7_dice 51 = .ok (.putfield 49, 3) := by decide +kernel
theorem dX7_dice_54 : decode cX7_dice 54 = .ok (.aload_n 0, 1) := by decide +kernel
theorem dX7_dice_55 : decode cX7_dice 55 = .ok (.iload_n 3, 1) := by decide +kernel
theorem dX7_dice_56 : decode cX7_dice 56 = .ok (.putfield 52, 3) := by decide +kernel
theorem dX7_dice_59 : decode cX7_dice 59 = .ok (.iconst 1, 1) := by decide +kernel
theorem dX7_dice_60 : decode cX7_dice 60 = .ok (.ireturn, 1) := by decide +kernel
theorem dX7_row_0 : decode cX7_row 0 = .ok (.iload_n 1, 1) := by decide +kernel
theorem dX7_row_1 : decode cX7_row 1 = .ok (.ifCond .lt 29, 3) := by decide +kernel
theorem dX7_row_4 : decode cX7_row 4 = .ok (.iload_n 1, 1) := by decide +kernel
theorem dX7_row_5 : decode cX7_row 5 = .ok (.iconst 5, 1) := by decide +kernel
theorem dX7_row_6 : decode cX7_row 6 = .ok (.if_icmp .gt 24, 3) := by decide +kernel
theorem dX7_row_9 : decode cX7_row 9 = .ok (.iload_n 2, 1) := by decide +kernel
theorem dX7_row_10 : decode cX7_row 10 = .ok (.iconst 1, 1) := by decide +kernel
theorem dX7_row_11 : decode cX7_row 11 = .ok (.if_icmp .lt 19, 3) := by decide +kernel
theorem dX7_row_14 : decode cX7_row 14 = .ok (.iload_n 2, 1) := by decide +kernel
theorem dX7_row_15 : decode cX7_row 15 = .ok (.bipush 6, 2) := by decide +kernel
theorem dX7_row_17 : decode cX7_row 17 = .ok (.if_icmp .gt 13, 3) := by decide +kernel
theorem dX7_row_20 : decode cX7_row 20 = .ok (.iload_n 3, 1) := by decide +kernel
theorem dX7_row_21 : decode cX7_row 21 = .ok (.ifCond .lt 9, 3) := by decide +kernel
theorem dX7_row_24 : decode cX7_row 24 = .ok (.iload_n 3, 1) := by decide +kernel
theorem dX7_row_25 : decode cX7_row 25 = .ok (.bipush 30, 2) := by decide +kernel
theorem dX7_row_27 : decode cX7_row 27 = .ok (.if_icmp .le 6, 3) := by decide +kernel
theorem dX7_row_30 : decode cX7_row 30 = .ok (.bipush (-3), 2) := by decide +kernel
theorem dX7_row_32 : decode cX7_row 32 = .ok (.ireturn, 1) := by decide +kernel
theorem dX7_row_33 : decode cX7_row 33 = .ok (.aload_n 0, 1) := by decide +kernel
theorem dX7_row_34 : decode cX7_row 34 = .ok (.getfield 58, 3) := by decide +kernel
theorem dX7_row_37 : decode cX7_row 37 = .ok (.ifCond .eq 6, 3) := by decide +kernel
theorem dX7_row_40 : decode cX7_row 40 = .ok (.bipush (-4), 2) := by decide +kernel
theorem dX7_row_42 : decode cX7_row 42 = .ok (.ireturn, 1) := by decide +kernel
theorem dX7_row_43 : decode cX7_row 43 = .ok (.aload_n 0, 1) := by decide +kernel
theorem dX7_row_44 : decode cX7_row 44 = .ok (.getfield 55, 3) := by decide +kernel
theorem dX7_row_47 : decode cX7_row 47 = .ok (.bipush 8, 2) := by decide +kernel
theorem dX7_row_49 : decode cX7_row 49 = .ok (.if_icmp .lt 6, 3) := by decide +kernel
theorem dX7_row_52 : decode cX7_row 52 = .ok (.bipush (-6), 2) := by decide +kernel
theorem dX7_row_54 : decode cX7_row 54 = .ok (.ireturn, 1) := by decide +kernel
theorem dX7_row_55 : decode cX7_row 55 = .ok (.aload_n 0, 1) := by decide +kernel
theorem dX7_row_56 : decode cX7_row 56 = .ok (.getfield 18, 3) := by decide +kernel
theorem dX7_row_59 : decode cX7_row 59 = .ok (.aload_n 0, 1) := by decide +kernel
theorem dX7_row_60 : decode cX7_row 60 = .ok (.getfield 55, 3) := by decide +kernel
theorem dX7_row_63 : decode cX7_row 63 = .ok (.aaload, 1) := by decide +kernel
theorem dX7_row_64 : decode cX7_row 64 = .ok (.iload_n 1, 1) := by decide +kernel
theorem dX7_row_65 : decode cX7_row 65 = .ok (.iload_n 2, 1) := by decide +kernel
theorem dX7_row_66 : decode cX7_row 66 = .ok (.iload_n 3, 1) := by decide +kernel
theorem dX7_row_67 : decode cX7_row 67 = .ok (.invokevirtual 88, 3) := by decide +kernel
theorem dX7_row_70 : decode cX7_row 70 = .ok (.aload_n 0, 1) := by decide +kernel
theorem dX7_row_71 : decode cX7_row 71 = .ok (.dup, 1) := by decide +kernel
theorem dX7_row_72 : decode cX7_row 72 = .ok (.getfield 55, 3) := by decide +kernel
theorem dX7_row_75 : decode cX7_row 75 = .ok (.iconst 1, 1) := by decide +kernel
theorem dX7_row_76 : decode cX7_row 76 = .ok (.iadd, 1) := by decide +kernel
theorem dX7_row_77 : decode cX7_row 77 = .ok (.putfield 55, 3) := by decide +kernel
theorem dX7_row_80 : decode cX7_row 80 = .ok (.aload_n 0, 1) := by decide +kernel
theorem dX7_row_81 : decode cX7_row 81 = .ok (.getfield 55, 3) := by decide +kernel
theorem dX7_row_84 : decode cX7_row 84 = .ok (.iconst 1, 1) := by decide +kernel
theorem dX7_row_85 : decode cX7_row 85 = .ok (.isub, 1) := by decide +kernel
theorem dX7_row_86 : decode cX7_row 86 = .ok (.ireturn, 1) := by decide +kernel
theorem dX7_begin_0 : decode cX7_begin 0 = .ok (.aload_n 0, 1) := by decide +kernel
theorem dX7_begin_1 : decode cX7_begin 1 = .ok (.getfield 58, 3) := by decide +kernel
theorem dX7_begin_4 : decode cX7_begin 4 = .ok (.ifCond .ne 10, 3) := by decide +kernel
theorem dX7_begin_7 : decode cX7_begin 7 = .ok (.aload_n 0, 1) := by decide +kernel
theorem dX7_begin_8 : decode cX7_begin 8 = .ok (.getfield 55, 3) := by decide +kernel
theorem dX7_begin_11 : decode cX7_begin 11 = .ok (.ifCond .ne 6, 3) := by decide +kernel
theorem dX7_begin_14 : decode cX7_begin 14 = .ok (.bipush (-4), 2) := by decide +kernel
theorem dX7_begin_16 : decode cX7_begin 16 = .ok (.ireturn, 1) := by decide +kernel
theorem dX7_begin_17 : decode cX7_begin 17 = .ok (.aload_n 0, 1) := by decide +kernel
theorem dX7_begin_18 : decode cX7_begin 18 = .ok (.invokevirtual 92, 3) := by decide +kernel
theorem dX7_begin_21 : decode cX7_begin 21 = .ok (.ifCond .eq 6, 3) := by decide +kernel
theorem dX7_begin_24 : decode cX7_begin 24 = .ok (.bipush (-5), 2) := by decide +kernel
theorem dX7_begin_26 : decode cX7_begin 26 = .ok (.ireturn, 1) := by decide +kernel
theorem dX7_begin_27 : decode cX7_begin 27 = .ok (.aload_n 0, 1) := by decide +kernel
theorem dX7_begin_28 : decode cX7_begin 28 = .ok (.getfield 25, 3) := by decide +kernel
theorem dX7_begin_31 : decode cX7_begin 31 = .ok (.aload_n 0, 1) := by decide +kernel
theorem dX7_begin_32 : decode cX7_begin 32 = .ok (.getfield 45, 3) := by decide +kernel
theorem dX7_begin_35 : decode cX7_begin 35 = .ok (.aload_n 0, 1) := by decide +kernel
theorem dX7_begin_36 : decode cX7_begin 36 = .ok (.getfield 49, 3) := by decide +kernel
theorem dX7_begin_39 : decode cX7_begin 39 = .ok (.aload_n 0, 1) := by decide +kernel
theorem dX7_begin_40 : decode cX7_begin 40 = .ok (.getfield 52, 3) := by decide +kernel
theorem dX7_begin_43 : decode cX7_begin 43 = .ok (.aload_n 0, 1) := by decide +kernel
theorem dX7_begin_44 : decode cX7_begin 44 = .ok (.getfield 55, 3) := by decide +kernel
theorem dX7_begin_47 : decode cX7_begin 47 = .ok (.invokevirtual 96, 3) := by decide +kernel
theorem dX7_begin_50 : decode cX7_begin 50 = .ok (.aload_n 0, 1) := by decide +kernel
theorem dX7_begin_51 : decode cX7_begin 51 = .ok (.getfield 25, 3) := by decide +kernel
theorem dX7_begin_54 : decode cX7_begin 54 = .ok (.aload_n 0, 1) := by decide +kernel
theorem dX7_begin_55 : decode cX7_begin 55 = .ok (.getfield 18, 3) := by decide +kernel
theorem dX7_begin_58 : decode cX7_begin 58 = .ok (.aload_n 0, 1) := by decide +kernel
theorem dX7_begin_59 : decode cX7_begin 59 = .ok (.getfield 10, 3) := by decide +kernel
theorem dX7_begin_62 : decode cX7_begin 62 = .ok (.invokevirtual 100, 3) := by decide +kernel
theorem dX7_begin_65 : decode cX7_begin 65 = .ok (.aload_n 0, 1) := by decide +kernel
theorem dX7_begin_66 : decode cX7_begin 66 = .ok (.getfield 34, 3) := by decide +kernel
theorem dX7_begin_69 : decode cX7_begin 69 = .ok (.invokevirtual 104, 3) := by decide +kernel
theorem dX7_begin_72 : decode cX7_begin 72 = .ok (.aload_n 0, 1) := by decide +kernel
theorem dX7_begin_73 : decode cX7_begin 73 = .ok (.getfield 41, 3) := by decide +kernel
theorem dX7_begin_76 : decode cX7_begin 76 = .ok (.invokevirtual 107, 3) := by decide +kernel
theorem dX7_begin_79 : decode cX7_begin 79 = .ok (.aload_n 0, 1) := by decide +kernel
theorem dX7_begin_80 : decode cX7_begin 80 = .ok (.iconst 1, 1) := by decide +kernel
theorem dX7_begin_81 : decode cX7_begin 81 = .ok (.putfield 58, 3) := by decide +kernel
theorem dX7_begin_84 : decode cX7_begin 84 = .ok (.aload_n 0, 1) := by decide +kernel
theorem dX7_begin_85 : decode cX7_begin 85 = .ok (.invokevirtual 110, 3) := by decide +kernel
theorem dX7_begin_88 : decode cX7_begin 88 = .ok (.iconst 1, 1) := by decide +kernel
theorem dX7_begin_89 : decode cX7_begin 89 = .ok (.ireturn, 1) := by decide +kernel
theorem dX7_end_0 : decode cX7_end 0 = .ok (.aload_n 0, 1) := by decide +kernel
theorem dX7_end_1 : decode cX7_end 1 = .ok (.iconst 0, 1) := by decide +kernel
theorem dX7_end_2 : decode cX7_end 2 = .ok (.putfield 58, 3) := by decide +kernel
theorem dX7_end_5 : decode cX7_end 5 = .ok (.aload_n 0, 1) := by decide +kernel
theorem dX7_end_6 : decode cX7_end 6 = .ok (.iconst 0, 1) := by decide +kernel
theorem dX7_end_7 : decode cX7_end 7 = .ok (.putfield 55, 3) := by decide +kernel
theorem dX7_end_10 : decode cX7_end 10 = .ok (.aload_n 0, 1) := by decide +kernel
theorem dX7_end_11 : decode cX7_end 11 = .ok (.iconst 0, 1) := by decide +kernel
theorem dX7_end_12 : decode cX7_end 12 = .ok (.putfield 62, 3) := by decide +kernel
theorem dX7_end_15 : decode cX7_end 15 = .ok (.aload_n 0, 1) := by decide +kernel
theorem dX7_end_16 : decode cX7_end 16 = .ok (.iconst 0, 1) := by decide +kernel
theorem dX7_end_17 : decode cX7_end 17 = .ok (.putfield 65, 3) := by decide +kernel
theorem dX7_end_20 : decode cX7_end 20 = .ok (.aload_n 0, 1) := by decide +kernel
theorem dX7_end_21 : decode cX7_end 21 = .ok (.lconst 0, 1) := by decide +kernel
theorem dX7_end_22 : decode cX7_end 22 = .ok (.putfield 68, 3) := by decide +kernel
theorem dX7_end_25 : decode cX7_end 25 = .ok (.aload_n 0, 1) := by decide +kernel
theorem dX7_end_26 : decode cX7_end 26 = .ok (.lconst 0, 1) := by decide +kernel
theorem dX7_end_27 : decode cX7_end 27 = .ok (.putfield 72, 3) := by decide +kernel
theorem dX7_end_30 : decode cX7_end 30 = .ok (.aload_n 0, 1) := by decide +kernel
theorem dX7_end_31 : decode cX7_end 31 = .ok (.iconst 0, 1) := by decide +kernel
theorem dX7_end_32 : decode cX7_end 32 = .ok (.putfield 75, 3) := by decide +kernel
theorem dX7_end_35 : decode cX7_end 35 = .ok (.aload_n 0, 1) := by decide +kernel
theorem dX7_end_36 : decode cX7_end 36 = .ok (.iconst 0, 1) := by decide +kernel
theorem dX7_end_37 : decode cX7_end 37 = .ok (.putfield 78, 3) := by decide +kernel
theorem dX7_end_40 : decode cX7_end 40 = .ok (.aload_n 0, 1) := by decide +kernel
theorem dX7_end_41 : decode cX7_end 41 = .ok (.iconst 0, 1) := by decide +kernel
theorem dX7_end_42 : decode cX7_end 42 = .ok (.putfield 81, 3) := by decide +kernel
theorem dX7_end_45 : decode cX7_end 45 = .ok (.aload_n 0, 1) := by decide +kernel
theorem dX7_end_46 : decode cX7_end 46 = .ok (.iconst 0, 1) := by decide +kernel
theorem dX7_end_47 : decode cX7_end 47 = .ok (.putfield 84, 3) := by decide +kernel
theorem dX7_end_50 : decode cX7_end 50 = .ok (.iconst 1, 1) := by decide +kernel
theorem dX7_end_51 : decode cX7_end 51 = .ok (.ireturn, 1) := by decide +kernel
theorem dX7_fall_0 : decode cX7_fall 0 = .ok (.aload_n 0, 1) := by decide +kernel
theorem dX7_fall_1 : decode cX7_fall 1 = .ok (.getfield 81, 3) := by decide +kernel
theorem dX7_fall_4 : decode cX7_fall 4 = .ok (.ifCond .ne 6, 3) := by decide +kernel
theorem dX7_fall_7 : decode cX7_fall 7 = .ok (.bipush (-4), 2) := by decide +kernel
theorem dX7_fall_9 : decode cX7_fall 9 = .ok (.ireturn, 1) := by decide +kernel
theorem dX7_fall_10 : decode cX7_fall 10 = .ok (.aload_n 0, 1) := by decide +kernel
theorem dX7_fall_11 : decode cX7_fall 11 = .ok (.getfield 25, 3) := by decide +kernel
theorem dX7_fall_14 : decode cX7_fall 14 = .ok (.getfield 113, 3) := by decide +kernel
theorem dX7_fall_17 : decode cX7_fall 17 = .ok (.aload_n 0, 1) := by decide +kernel
theorem dX7_fall_18 : decode cX7_fall 18 = .ok (.getfield 78, 3) := by decide +kernel
theorem dX7_fall_21 : decode cX7_fall 21 = .ok (.iload_n 1, 1) := by decide +kernel
theorem dX7_fall_22 : decode cX7_fall 22 = .ok (.aload_n 0, 1) := by decide +kernel
theorem dX7_fall_23 : decode cX7_fall 23 = .ok (.getfield 81, 3) := by decide +kernel
theorem dX7_fall_26 : decode cX7_fall 26 = .ok (.invokevirtual 117, 3) := by decide +kernel
theorem dX7_fall_29 : decode cX7_fall 29 = .ok (.istore_n 2, 1) := by decide +kernel
theorem dX7_fall_30 : decode cX7_fall 30 = .ok (.iload_n 2, 1) := by decide +kernel
theorem dX7_fall_31 : decode cX7_fall 31 = .ok (.iconst (-1), 1) := by decide +kernel
theorem dX7_fall_32 : decode cX7_fall 32 = .ok (.if_icmp .ne 6, 3) := by decide +kernel
theorem dX7_fall_35 : decode cX7_fall 35 = .ok (.bipush (-3), 2) := by decide +kernel
theorem dX7_fall_37 : decode cX7_fall 37 = .ok (.ireturn, 1) := by decide +kernel
theorem dX7_fall_38 : decode cX7_fall 38 = .ok (.aload_n 0, 1) := by decide +kernel
theorem dX7_fall_39 : decode cX7_fall 39 = .ok (.iload_n 2, 1) := by decide +kernel
theorem dX7_fall_40 : decode cX7_fall 40 = .ok (.invokevirtual 123, 3) := by decide +kernel
theorem dX7_fall_43 : decode cX7_fall 43 = .ok (.ireturn, 1) := by decide +kernel
theorem dX7_draw_0 : decode cX7_draw 0 = .ok (.aload_n 0, 1) := by decide +kernel
theorem dX7_draw_1 : decode cX7_draw 1 = .ok (.getfield 81, 3) := by decide +kernel
theorem dX7_draw_4 : decode cX7_draw 4 = .ok (.ifCond .ne 6, 3) := by decide +kernel
theorem dX7_draw_7 : decode cX7_draw 7 = .ok (.bipush (-4), 2) := by decide +kernel
theorem dX7_draw_9 : decode cX7_draw 9 = .ok (.ireturn, 1) := by decide +kernel
theorem dX7_draw_10 : decode cX7_draw 10 = .ok (.aload_n 0, 1) := by decide +kernel
theorem dX7_draw_11 : decode cX7_draw 11 = .ok (.getfield 78, 3) := by decide +kernel
theorem dX7_draw_14 : decode cX7_draw 14 = .ok (.istore_n 2, 1) := by decide +kernel
theorem dX7_draw_15 : decode cX7_draw 15 = .ok (.iload_n 1, 1) := by decide +kernel
theorem dX7_draw_16 : decode cX7_draw 16 = .ok (.istore_n 3, 1) := by decide +kernel
theorem dX7_draw_17 : decode cX7_draw 17 = .ok (.iconst 0, 1) := by decide +kernel
theorem dX7_draw_18 : decode cX7_draw 18 = .ok (.istore 4, 2) := by decide +kernel
theorem dX7_draw_20 : decode cX7_draw 20 = .ok (.iload 4, 2) := by decide +kernel
theorem dX7_draw_22 : decode cX7_draw 22 = .ok (.aload_n 0, 1) := by decide +kernel
theorem dX7_draw_23 : decode cX7_draw 23 = .ok (.getfield 81, 3) := by decide +kernel
theorem dX7_draw_26 : decode cX7_draw 26 = .ok (.if_icmp .ge 44, 3) := by decide +kernel
theorem dX7_draw_29 : decode cX7_draw 29 = .ok (.iload_n 3, 1) := by decide +kernel
theorem dX7_draw_30 : decode cX7_draw 30 = .ok (.ldc 127, 2) := by decide +kernel
theorem dX7_draw_32 : decode cX7_draw 32 = .ok (.imul, 1) := by decide +kernel
theorem dX7_draw_33 : decode cX7_draw 33 = .ok (.sipush 12345, 3) := by decide +kernel
theorem dX7_draw_36 : decode cX7_draw 36 = .ok (.iadd, 1) := by decide +kernel
theorem dX7_draw_37 : decode cX7_draw 37 = .ok (.ldc 128, 2) := by decide +kernel
theorem dX7_draw_39 : decode cX7_draw 39 = .ok (.iand, 1) := by decide +kernel
theorem dX7_draw_40 : decode cX7_draw 40 = .ok (.istore_n 3, 1) := by decide +kernel
theorem dX7_draw_41 : decode cX7_draw 41 = .ok (.aload_n 0, 1) := by decide +kernel
theorem dX7_draw_42 : decode cX7_draw 42 = .ok (.getfield 25, 3) := by decide +kernel
theorem dX7_draw_45 : decode cX7_draw 45 = .ok (.getfield 113, 3) := by decide +kernel
theorem dX7_draw_48 : decode cX7_draw 48 = .ok (.iload_n 2, 1) := by decide +kernel
theorem dX7_draw_49 : decode cX7_draw 49 = .ok (.iconst 1, 1) := by decide +kernel
theorem dX7_draw_50 : decode cX7_draw 50 = .ok (.iload_n 3, 1) := by decide +kernel
theorem dX7_draw_51 : decode cX7_draw 51 = .ok (.bipush 12, 2) := by decide +kernel
theorem dX7_draw_53 : decode cX7_draw 53 = .ok (.ishr, 1) := by decide +kernel
theorem dX7_draw_54 : decode cX7_draw 54 = .ok (.aload_n 0, 1) := by decide +kernel
theorem dX7_draw_55 : decode cX7_draw 55 = .ok (.getfield 49, 3) := by decide +kernel
theorem dX7_draw_58 : decode cX7_draw 58 = .ok (.irem, 1) := by decide +kernel
theorem dX7_draw_59 : decode cX7_draw 59 = .ok (.iadd, 1) := by decide +kernel
theorem dX7_draw_60 : decode cX7_draw 60 = .ok (.invokevirtual 129, 3) := by decide +kernel
theorem dX7_draw_63 : decode cX7_draw 63 = .ok (.istore_n 2, 1) := by decide +kernel
theorem dX7_draw_64 : decode cX7_draw 64 = .ok (.iinc 4 1, 3) := by decide +kernel
theorem dX7_draw_67 : decode cX7_draw 67 = .ok (.goto (-47), 3) := by decide +kernel
theorem dX7_draw_70 : decode cX7_draw 70 = .ok (.aload_n 0, 1) := by decide +kernel
theorem dX7_draw_71 : decode cX7_draw 71 = .ok (.iload_n 2, 1) := by decide +kernel
theorem dX7_draw_72 : decode cX7_draw 72 = .ok (.invokevirtual 123, 3) := by decide +kernel
theorem dX7_draw_75 : decode cX7_draw 75 = .ok (.ireturn, 1) := by decide +kernel
theorem dX7_hold_0 : decode cX7_hold 0 = .ok (.aload_n 0, 1) := by decide +kernel
theorem dX7_hold_1 : decode cX7_hold 1 = .ok (.invokevirtual 133, 3) := by decide +kernel
theorem dX7_hold_4 : decode cX7_hold 4 = .ok (.ifCond .ne 6, 3) := by decide +kernel
theorem dX7_hold_7 : decode cX7_hold 7 = .ok (.bipush (-4), 2) := by decide +kernel
theorem dX7_hold_9 : decode cX7_hold 9 = .ok (.ireturn, 1) := by decide +kernel
theorem dX7_hold_10 : decode cX7_hold 10 = .ok (.aload_n 0, 1) := by decide +kernel
theorem dX7_hold_11 : decode cX7_hold 11 = .ok (.getfield 25, 3) := by decide +kernel
theorem dX7_hold_14 : decode cX7_hold 14 = .ok (.getfield 113, 3) := by decide +kernel
theorem dX7_hold_17 : decode cX7_hold 17 = .ok (.aload_n 0, 1) := by decide +kernel
theorem dX7_hold_18 : decode cX7_hold 18 = .ok (.getfield 78, 3) := by decide +kernel
theorem dX7_hold_21 : decode cX7_hold 21 = .ok (.iload_n 1, 1) := by decide +kernel
theorem dX7_hold_22 : decode cX7_hold 22 = .ok (.invokevirtual 136, 3) := by decide +kernel
theorem dX7_hold_25 : decode cX7_hold 25 = .ok (.istore_n 2, 1) := by decide +kernel
theorem dX7_hold_26 : decode cX7_hold 26 = .ok (.iload_n 2, 1) := by decide +kernel
theorem dX7_hold_27 : decode cX7_hold 27 = .ok (.iconst (-1), 1) := by decide +kernel
theorem dX7_hold_28 : decode cX7_hold 28 = .ok (.if_icmp .ne 6, 3) := by decide +kernel
theorem dX7_hold_31 : decode cX7_hold 31 = .ok (.bipush (-3), 2) := by decide +kernel
theorem dX7_hold_33 : decode cX7_hold 33 = .ok (.ireturn, 1) := by decide +kernel
theorem dX7_hold_34 : decode cX7_hold 34 = .ok (.aload_n 0, 1) := by decide +kernel
theorem dX7_hold_35 : decode cX7_hold 35 = .ok (.invokevirtual 139, 3) := by decide +kernel
theorem dX7_hold_38 : decode cX7_hold 38 = .ok (.lstore_n 3, 1) := by decide +kernel
theorem dX7_hold_39 : decode cX7_hold 39 = .ok (.iload_n 2, 1) := by decide +kernel
theorem dX7_hold_40 : decode cX7_hold 40 = .ok (.aload_n 0, 1) := by decide +kernel
theorem dX7_hold_41 : decode cX7_hold 41 = .ok (.getfield 78, 3) := by decide +kernel
theorem dX7_hold_44 : decode cX7_hold 44 = .ok (.if_icmp .ne 16, 3) := by decide +kernel
theorem dX7_hold_47 : decode cX7_hold 47 = .ok (.aload_n 0, 1) := by decide +kernel
theorem dX7_hold_48 : decode cX7_hold 48 = .ok (.dup, 1) := by decide +kernel
theorem dX7_hold_49 : decode cX7_hold 49 = .ok (.getfield 84, 3) := by decide +kernel
theorem dX7_hold_52 : decode cX7_hold 52 = .ok (.iconst 1, 1) := by decide +kernel
theorem dX7_hold_53 : decode cX7_hold 53 = .ok (.isub, 1) := by decide +kernel
theorem dX7_hold_54 : decode cX7_hold 54 = .ok (.putfield 84, 3) := by decide +kernel
theorem dX7_hold_57 : decode cX7_hold 57 = .ok (.goto 29, 3) := by decide +kernel
theorem dX7_hold_60 : decode cX7_hold 60 = .ok (.aload_n 0, 1) := by decide +kernel
theorem dX7_hold_61 : decode cX7_hold 61 = .ok (.iload_n 2, 1) := by decide +kernel
theorem dX7_hold_62 : decode cX7_hold 62 = .ok (.putfield 78, 3) := by decide +kernel
theorem dX7_hold_65 : decode cX7_hold 65 = .ok (.aload_n 0, 1) := by decide +kernel
theorem dX7_hold_66 : decode cX7_hold 66 = .ok (.aload_n 0, 1) := by decide +kernel
theorem dX7_hold_67 : decode cX7_hold 67 = .ok (.getfield 45, 3) := by decide +kernel
theorem dX7_hold_70 : decode cX7_hold 70 = .ok (.aload_n 0, 1) := by decide +kernel
theorem dX7_hold_71 : decode cX7_hold 71 = .ok (.getfield 25, 3) := by decide +kernel
theorem dX7_hold_74 : decode cX7_hold 74 = .ok (.getfield 113, 3) := by decide +kernel
theorem dX7_hold_77 : decode cX7_hold 77 = .ok (.getfield 143, 3) := by decide +kernel
theorem dX7_hold_80 : decode cX7_hold 80 = .ok (.iload_n 2, 1) := by decide +kernel
theorem dX7_hold_81 : decode cX7_hold 81 = .ok (.iaload, 1) := by decide +kernel
theorem dX7_hold_82 : decode cX7_hold 82 = .ok (.isub, 1) := by decide +kernel
theorem dX7_hold_83 : decode cX7_hold 83 = .ok (.putfield 81, 3) := by decide +kernel
theorem dX7_hold_86 : decode cX7_hold 86 = .ok (.aload_n 0, 1) := by decide +kernel
theorem dX7_hold_87 : decode cX7_hold 87 = .ok (.dup, 1) := by decide +kernel
theorem dX7_hold_88 : decode cX7_hold 88 = .ok (.getfield 72, 3) := by decide +kernel
theorem dX7_hold_91 : decode cX7_hold 91 = .ok (.lload_n 3, 1) := by decide +kernel
theorem dX7_hold_92 : decode cX7_hold 92 = .ok (.aload_n 0, 1) := by decide +kernel
theorem dX7_hold_93 : decode cX7_hold 93 = .ok (.invokevirtual 139, 3) := by decide +kernel
theorem dX7_hold_96 : decode cX7_hold 96 = .ok (.lsub, 1) := by decide +kernel
theorem dX7_hold_97 : decode cX7_hold 97 = .ok (.ladd, 1) := by decide +kernel
theorem dX7_hold_98 : decode cX7_hold 98 = .ok (.putfield 72, 3) := by decide +kernel
theorem dX7_hold_101 : decode cX7_hold 101 = .ok (.aload_n 0, 1) := by decide +kernel
theorem dX7_hold_102 : decode cX7_hold 102 = .ok (.getfield 81, 3) := by decide +kernel
theorem dX7_hold_105 : decode cX7_hold 105 = .ok (.ireturn, 1) := by decide +kernel
theorem dX7_fill_0 : decode cX7_fill 0 = .ok (.aload_n 0, 1) := by decide +kernel
theorem dX7_fill_1 : decode cX7_fill 1 = .ok (.iload_n 1, 1) := by decide +kernel
theorem dX7_fill_2 : decode cX7_fill 2 = .ok (.invokevirtual 147, 3) := by decide +kernel
theorem dX7_fill_5 : decode cX7_fill 5 = .ok (.ifCond .ne 6, 3) := by decide +kernel
theorem dX7_fill_8 : decode cX7_fill 8 = .ok (.bipush (-2), 2) := by decide +kernel
theorem dX7_fill_10 : decode cX7_fill 10 = .ok (.ireturn, 1) := by decide +kernel
theorem dX7_fill_11 : decode cX7_fill 11 = .ok (.aload_n 0, 1) := by decide +kernel
theorem dX7_fill_12 : decode cX7_fill 12 = .ok (.invokevirtual 151, 3) := by decide +kernel
theorem dX7_fill_15 : decode cX7_fill 15 = .ok (.ifCond .eq 11, 3) := by decide +kernel
theorem dX7_fill_18 : decode cX7_fill 18 = .ok (.aload_n 0, 1) := by decide +kernel
theorem dX7_fill_19 : decode cX7_fill 19 = .ok (.iload_n 1, 1) := by decide +kernel
theorem dX7_fill_20 : decode cX7_fill 20 = .ok (.invokevirtual 154, 3) := by decide +kernel
theorem dX7_fill_23 : decode cX7_fill 23 = .ok (.ifCond .eq 6, 3) := by decide +kernel
theorem dX7_fill_26 : decode cX7_fill 26 = .ok (.bipush (-4), 2) := by decide +kernel
theorem dX7_fill_28 : decode cX7_fill 28 = .ok (.ireturn, 1) := by decide +kernel
theorem dX7_fill_29 : decode cX7_fill 29 = .ok (.aload_n 0, 1) := by decide +kernel
theorem dX7_fill_30 : decode cX7_fill 30 = .ok (.invokevirtual 139, 3) := by decide +kernel
theorem dX7_fill_33 : decode cX7_fill 33 = .ok (.lstore_n 2, 1) := by decide +kernel
theorem dX7_fill_34 : decode cX7_fill 34 = .ok (.aload_n 0, 1) := by decide +kernel
theorem dX7_fill_35 : decode cX7_fill 35 = .ok (.getfield 25, 3) := by decide +kernel
theorem dX7_fill_38 : decode cX7_fill 38 = .ok (.iload_n 1, 1) := by decide +kernel
theorem dX7_fill_39 : decode cX7_fill 39 = .ok (.aload_n 0, 1) := by decide +kernel
theorem dX7_fill_40 : decode cX7_fill 40 = .ok (.getfield 78, 3) := by decide +kernel
theorem dX7_fill_43 : decode cX7_fill 43 = .ok (.invokevirtual 157, 3) := by decide +kernel
theorem dX7_fill_46 : decode cX7_fill 46 = .ok (.istore 4, 2) := by decide +kernel
theorem dX7_fill_48 : decode cX7_fill 48 = .ok (.aload_n 0, 1) := by decide +kernel
theorem dX7_fill_49 : decode cX7_fill 49 = .ok (.getfield 18, 3) := by decide +kernel
theorem dX7_fill_52 : decode cX7_fill 52 = .ok (.iload_n 1, 1) := by decide +kernel
theorem dX7_fill_53 : decode cX7_fill 53 = .ok (.aaload, 1) := by decide +kernel
theorem dX7_fill_54 : decode cX7_fill 54 = .ok (.iload 4, 2) := by decide +kernel
theorem dX7_fill_56 : decode cX7_fill 56 = .ok (.putfield 160, 3) := by decide +kernel
theorem dX7_fill_59 : decode cX7_fill 59 = .ok (.aload_n 0, 1) := by decide +kernel
theorem dX7_fill_60 : decode cX7_fill 60 = .ok (.dup, 1) := by decide +kernel
theorem dX7_fill_61 : decode cX7_fill 61 = .ok (.getfield 65, 3) := by decide +kernel
theorem dX7_fill_64 : decode cX7_fill 64 = .ok (.iload 4, 2) := by decide +kernel
theorem dX7_fill_66 : decode cX7_fill 66 = .ok (.iadd, 1) := by decide +kernel
theorem dX7_fill_67 : decode cX7_fill 67 = .ok (.putfield 65, 3) := by decide +kernel
end
section
theorem dX7_fill_70 : decode cX7_fill 70 = .ok (.aload_n 0, 1) := by decide +kernel
theorem dX7_fill_71 : decode cX7_fill 71 = .ok (.dup, 1) := by decide +kernel
theorem dX7_fill_72 : decode cX7_fill 72 = .ok (.getfield 62, 3) := by decide +kernel
theorem dX7_fill_75 : decode cX7_fill 75 = .ok (.iconst 1, 1) := by decide +kernel
theorem dX7_fill_76 : decode cX7_fill 76 = .ok (.iload_n 1, 1) := by decide +kernel
theorem dX7_fill_77 : decode cX7_fill 77 = .ok (.ishl, 1) := by decide +kernel
theorem dX7_fill_78 : decode cX7_fill 78 = .ok (.ior, 1) := by decide +kernel
theorem dX7_fill_79 : decode cX7_fill 79 = .ok (.putfield 62, 3) := by decide +kernel
theorem dX7_fill_82 : decode cX7_fill 82 = .ok (.aload_n 0, 1) := by decide +kernel
theorem dX7_fill_83 : decode cX7_fill 83 = .ok (.invokevirtual 110, 3) := by decide +kernel
theorem dX7_fill_86 : decode cX7_fill 86 = .ok (.aload_n 0, 1) := by decide +kernel
theorem dX7_fill_87 : decode cX7_fill 87 = .ok (.dup, 1) := by decide +kernel
theorem dX7_fill_88 : decode cX7_fill 88 = .ok (.getfield 72, 3) := by decide +kernel
theorem dX7_fill_91 : decode cX7_fill 91 = .ok (.lload_n 2, 1) := by decide +kernel
theorem dX7_fill_92 : decode cX7_fill 92 = .ok (.aload_n 0, 1) := by decide +kernel
theorem dX7_fill_93 : decode cX7_fill 93 = .ok (.invokevirtual 139, 3) := by decide +kernel
theorem dX7_fill_96 : decode cX7_fill 96 = .ok (.lsub, 1) := by decide +kernel
theorem dX7_fill_97 : decode cX7_fill 97 = .ok (.ladd, 1) := by decide +kernel
theorem dX7_fill_98 : decode cX7_fill 98 = .ok (.putfield 72, 3) := by decide +kernel
theorem dX7_fill_101 : decode cX7_fill 101 = .ok (.iload 4, 2) := by decide +kernel
theorem dX7_fill_103 : decode cX7_fill 103 = .ok (.ireturn, 1) := by decide +kernel
theorem dX7_unit_0 : decode cX7_unit 0 = .ok (.aload_n 0, 1) := by decide +kernel
theorem dX7_unit_1 : decode cX7_unit 1 = .ok (.getfield 58, 3) := by decide +kernel
theorem dX7_unit_4 : decode cX7_unit 4 = .ok (.ifCond .eq 18, 3) := by decide +kernel
theorem dX7_unit_7 : decode cX7_unit 7 = .ok (.aload_n 0, 1) := by decide +kernel
theorem dX7_unit_8 : decode cX7_unit 8 = .ok (.getfield 25, 3) := by decide +kernel
theorem dX7_unit_11 : decode cX7_unit 11 = .ok (.getfield 163, 3) := by decide +kernel
theorem dX7_unit_14 : decode cX7_unit 14 = .ok (.aload_n 0, 1) := by decide +kernel
theorem dX7_unit_15 : decode cX7_unit 15 = .ok (.invokevirtual 167, 3) := by decide +kernel
theorem dX7_unit_18 : decode cX7_unit 18 = .ok (.laload, 1) := by decide +kernel
theorem dX7_unit_19 : decode cX7_unit 19 = .ok (.goto 6, 3) := by decide +kernel
theorem dX7_unit_22 : decode cX7_unit 22 = .ok (.ldc2_w 171, 3) := by decide +kernel
theorem dX7_unit_25 : decode cX7_unit 25 = .ok (.lreturn, 1) := by decide +kernel
theorem dX7_worth_0 : decode cX7_worth 0 = .ok (.aload_n 0, 1) := by decide +kernel
theorem dX7_worth_1 : decode cX7_worth 1 = .ok (.getfield 58, 3) := by decide +kernel
theorem dX7_worth_4 : decode cX7_worth 4 = .ok (.ifCond .eq 10, 3) := by decide +kernel
theorem dX7_worth_7 : decode cX7_worth 7 = .ok (.aload_n 0, 1) := by decide +kernel
theorem dX7_worth_8 : decode cX7_worth 8 = .ok (.invokevirtual 173, 3) := by decide +kernel
theorem dX7_worth_11 : decode cX7_worth 11 = .ok (.goto 6, 3) := by decide +kernel
theorem dX7_worth_14 : decode cX7_worth 14 = .ok (.ldc2_w 171, 3) := by decide +kernel
theorem dX7_worth_17 : decode cX7_worth 17 = .ok (.lreturn, 1) := by decide +kernel
theorem dX7_worthOf_0 : decode cX7_worthOf 0 = .ok (.aload_n 0, 1) := by decide +kernel
theorem dX7_worthOf_1 : decode cX7_worthOf 1 = .ok (.invokevirtual 133, 3) := by decide +kernel
theorem dX7_worthOf_4 : decode cX7_worthOf 4 = .ok (.ifCond .ne 7, 3) := by decide +kernel
theorem dX7_worthOf_7 : decode cX7_worthOf 7 = .ok (.ldc2_w 171, 3) := by decide +kernel
theorem dX7_worthOf_10 : decode cX7_worthOf 10 = .ok (.lreturn, 1) := by decide +kernel
theorem dX7_worthOf_11 : decode cX7_worthOf 11 = .ok (.aload_n 0, 1) := by decide +kernel
theorem dX7_worthOf_12 : decode cX7_worthOf 12 = .ok (.getfield 25, 3) := by decide +kernel
theorem dX7_worthOf_15 : decode cX7_worthOf 15 = .ok (.getfield 113, 3) := by decide +kernel
theorem dX7_worthOf_18 : decode cX7_worthOf 18 = .ok (.aload_n 0, 1) := by decide +kernel
theorem dX7_worthOf_19 : decode cX7_worthOf 19 = .ok (.getfield 78, 3) := by decide +kernel
theorem dX7_worthOf_22 : decode cX7_worthOf 22 = .ok (.iload_n 1, 1) := by decide +kernel
theorem dX7_worthOf_23 : decode cX7_worthOf 23 = .ok (.invokevirtual 136, 3) := by decide +kernel
theorem dX7_worthOf_26 : decode cX7_worthOf 26 = .ok (.istore_n 2, 1) := by decide +kernel
theorem dX7_worthOf_27 : decode cX7_worthOf 27 = .ok (.iload_n 2, 1) := by decide +kernel
theorem dX7_worthOf_28 : decode cX7_worthOf 28 = .ok (.iconst (-1), 1) := by decide +kernel
theorem dX7_worthOf_29 : decode cX7_worthOf 29 = .ok (.if_icmp .ne 9, 3) := by decide +kernel
theorem dX7_worthOf_32 : decode cX7_worthOf 32 = .ok (.ldc2_w 176, 3) := by decide +kernel
theorem dX7_worthOf_35 : decode cX7_worthOf 35 = .ok (.goto 18, 3) := by decide +kernel
theorem dX7_worthOf_38 : decode cX7_worthOf 38 = .ok (.aload_n 0, 1) := by decide +kernel
theorem dX7_worthOf_39 : decode cX7_worthOf 39 = .ok (.getfield 34, 3) := by decide +kernel
theorem dX7_worthOf_42 : decode cX7_worthOf 42 = .ok (.getfield 178, 3) := by decide +kernel
theorem dX7_worthOf_45 : decode cX7_worthOf 45 = .ok (.iload_n 2, 1) := by decide +kernel
theorem dX7_worthOf_46 : decode cX7_worthOf 46 = .ok (.aload_n 0, 1) := by decide +kernel
theorem dX7_worthOf_47 : decode cX7_worthOf 47 = .ok (.getfield 84, 3) := by decide +kernel
theorem dX7_worthOf_50 : decode cX7_worthOf 50 = .ok (.invokevirtual 182, 3) := by decide +kernel
theorem dX7_worthOf_53 : decode cX7_worthOf 53 = .ok (.lreturn, 1) := by decide +kernel
theorem dX7_bestHold_0 : decode cX7_bestHold 0 = .ok (.aload_n 0, 1) := by decide +kernel
theorem dX7_bestHold_1 : decode cX7_bestHold 1 = .ok (.invokevirtual 133, 3) := by decide +kernel
theorem dX7_bestHold_4 : decode cX7_bestHold 4 = .ok (.ifCond .ne 6, 3) := by decide +kernel
theorem dX7_bestHold_7 : decode cX7_bestHold 7 = .ok (.bipush (-4), 2) := by decide +kernel
theorem dX7_bestHold_9 : decode cX7_bestHold 9 = .ok (.ireturn, 1) := by decide +kernel
theorem dX7_bestHold_10 : decode cX7_bestHold 10 = .ok (.aload_n 0, 1) := by decide +kernel
theorem dX7_bestHold_11 : decode cX7_bestHold 11 = .ok (.getfield 25, 3) := by decide +kernel
theorem dX7_bestHold_14 : decode cX7_bestHold 14 = .ok (.getfield 113, 3) := by decide +kernel
theorem dX7_bestHold_17 : decode cX7_bestHold 17 = .ok (.getfield 188, 3) := by decide +kernel
theorem dX7_bestHold_20 : decode cX7_bestHold 20 = .ok (.aload_n 0, 1) := by decide +kernel
theorem dX7_bestHold_21 : decode cX7_bestHold 21 = .ok (.getfield 34, 3) := by decide +kernel
theorem dX7_bestHold_24 : decode cX7_bestHold 24 = .ok (.getfield 178, 3) := by decide +kernel
theorem dX7_bestHold_27 : decode cX7_bestHold 27 = .ok (.aload_n 0, 1) := by decide +kernel
theorem dX7_bestHold_28 : decode cX7_bestHold 28 = .ok (.getfield 78, 3) := by decide +kernel
theorem dX7_bestHold_31 : decode cX7_bestHold 31 = .ok (.aload_n 0, 1) := by decide +kernel
theorem dX7_bestHold_32 : decode cX7_bestHold 32 = .ok (.getfield 84, 3) := by decide +kernel
theorem dX7_bestHold_35 : decode cX7_bestHold 35 = .ok (.invokevirtual 191, 3) := by decide +kernel
theorem dX7_bestHold_38 : decode cX7_bestHold 38 = .ok (.iaload, 1) := by decide +kernel
theorem dX7_bestHold_39 : decode cX7_bestHold 39 = .ok (.ireturn, 1) := by decide +kernel
theorem dX7_bestRow_0 : decode cX7_bestRow 0 = .ok (.aload_n 0, 1) := by decide +kernel
theorem dX7_bestRow_1 : decode cX7_bestRow 1 = .ok (.invokevirtual 151, 3) := by decide +kernel
theorem dX7_bestRow_4 : decode cX7_bestRow 4 = .ok (.ifCond .eq 21, 3) := by decide +kernel
theorem dX7_bestRow_7 : decode cX7_bestRow 7 = .ok (.aload_n 0, 1) := by decide +kernel
theorem dX7_bestRow_8 : decode cX7_bestRow 8 = .ok (.getfield 34, 3) := by decide +kernel
theorem dX7_bestRow_11 : decode cX7_bestRow 11 = .ok (.aload_n 0, 1) := by decide +kernel
theorem dX7_bestRow_12 : decode cX7_bestRow 12 = .ok (.getfield 62, 3) := by decide +kernel
theorem dX7_bestRow_15 : decode cX7_bestRow 15 = .ok (.aload_n 0, 1) := by decide +kernel
theorem dX7_bestRow_16 : decode cX7_bestRow 16 = .ok (.getfield 78, 3) := by decide +kernel
theorem dX7_bestRow_19 : decode cX7_bestRow 19 = .ok (.invokevirtual 194, 3) := by decide +kernel
theorem dX7_bestRow_22 : decode cX7_bestRow 22 = .ok (.goto 5, 3) := by decide +kernel
theorem dX7_bestRow_25 : decode cX7_bestRow 25 = .ok (.bipush (-4), 2) := by decide +kernel
theorem dX7_bestRow_27 : decode cX7_bestRow 27 = .ok (.ireturn, 1) := by decide +kernel
theorem dX7_chance_0 : decode cX7_chance 0 = .ok (.iload_n 1, 1) := by decide +kernel
theorem dX7_chance_1 : decode cX7_chance 1 = .ok (.ifCond .lt 10, 3) := by decide +kernel
theorem dX7_chance_4 : decode cX7_chance 4 = .ok (.iload_n 1, 1) := by decide +kernel
theorem dX7_chance_5 : decode cX7_chance 5 = .ok (.sipush 500, 3) := by decide +kernel
theorem dX7_chance_8 : decode cX7_chance 8 = .ok (.if_icmp .le 7, 3) := by decide +kernel
theorem dX7_chance_11 : decode cX7_chance 11 = .ok (.ldc2_w 176, 3) := by decide +kernel
theorem dX7_chance_14 : decode cX7_chance 14 = .ok (.lreturn, 1) := by decide +kernel
theorem dX7_chance_15 : decode cX7_chance 15 = .ok (.aload_n 0, 1) := by decide +kernel
theorem dX7_chance_16 : decode cX7_chance 16 = .ok (.getfield 58, 3) := by decide +kernel
theorem dX7_chance_19 : decode cX7_chance 19 = .ok (.ifCond .ne 7, 3) := by decide +kernel
theorem dX7_chance_22 : decode cX7_chance 22 = .ok (.ldc2_w 171, 3) := by decide +kernel
theorem dX7_chance_25 : decode cX7_chance 25 = .ok (.lreturn, 1) := by decide +kernel
theorem dX7_chance_26 : decode cX7_chance 26 = .ok (.iload_n 1, 1) := by decide +kernel
theorem dX7_chance_27 : decode cX7_chance 27 = .ok (.aload_n 0, 1) := by decide +kernel
theorem dX7_chance_28 : decode cX7_chance 28 = .ok (.getfield 65, 3) := by decide +kernel
theorem dX7_chance_31 : decode cX7_chance 31 = .ok (.isub, 1) := by decide +kernel
theorem dX7_chance_32 : decode cX7_chance 32 = .ok (.istore_n 2, 1) := by decide +kernel
theorem dX7_chance_33 : decode cX7_chance 33 = .ok (.aload_n 0, 1) := by decide +kernel
theorem dX7_chance_34 : decode cX7_chance 34 = .ok (.getfield 75, 3) := by decide +kernel
theorem dX7_chance_37 : decode cX7_chance 37 = .ok (.ifCond .ne 16, 3) := by decide +kernel
theorem dX7_chance_40 : decode cX7_chance 40 = .ok (.aload_n 0, 1) := by decide +kernel
theorem dX7_chance_41 : decode cX7_chance 41 = .ok (.getfield 41, 3) := by decide +kernel
theorem dX7_chance_44 : decode cX7_chance 44 = .ok (.aload_n 0, 1) := by decide +kernel
theorem dX7_chance_45 : decode cX7_chance 45 = .ok (.getfield 62, 3) := by decide +kernel
theorem dX7_chance_48 : decode cX7_chance 48 = .ok (.iload_n 2, 1) := by decide +kernel
theorem dX7_chance_49 : decode cX7_chance 49 = .ok (.invokevirtual 197, 3) := by decide +kernel
theorem dX7_chance_52 : decode cX7_chance 52 = .ok (.lreturn, 1) := by decide +kernel
theorem dX7_chance_53 : decode cX7_chance 53 = .ok (.aload_n 0, 1) := by decide +kernel
theorem dX7_chance_54 : decode cX7_chance 54 = .ok (.getfield 41, 3) := by decide +kernel
theorem dX7_chance_57 : decode cX7_chance 57 = .ok (.aload_n 0, 1) := by decide +kernel
theorem dX7_chance_58 : decode cX7_chance 58 = .ok (.getfield 62, 3) := by decide +kernel
theorem dX7_chance_61 : decode cX7_chance 61 = .ok (.iload_n 2, 1) := by decide +kernel
theorem dX7_chance_62 : decode cX7_chance 62 = .ok (.aload_n 0, 1) := by decide +kernel
theorem dX7_chance_63 : decode cX7_chance 63 = .ok (.getfield 84, 3) := by decide +kernel
theorem dX7_chance_66 : decode cX7_chance 66 = .ok (.invokevirtual 200, 3) := by decide +kernel
theorem dX7_chance_69 : decode cX7_chance 69 = .ok (.astore_n 3, 1) := by decide +kernel
theorem dX7_chance_70 : decode cX7_chance 70 = .ok (.aload_n 0, 1) := by decide +kernel
theorem dX7_chance_71 : decode cX7_chance 71 = .ok (.aload_n 3, 1) := by decide +kernel
theorem dX7_chance_72 : decode cX7_chance 72 = .ok (.invokevirtual 203, 3) := by decide +kernel
theorem dX7_chance_75 : decode cX7_chance 75 = .ok (.lreturn, 1) := by decide +kernel
theorem dX7_luck_0 : decode cX7_luck 0 = .ok (.aload_n 0, 1) := by decide +kernel
theorem dX7_luck_1 : decode cX7_luck 1 = .ok (.getfield 68, 3) := by decide +kernel
theorem dX7_luck_4 : decode cX7_luck 4 = .ok (.lreturn, 1) := by decide +kernel
theorem dX7_slip_0 : decode cX7_slip 0 = .ok (.aload_n 0, 1) := by decide +kernel
theorem dX7_slip_1 : decode cX7_slip 1 = .ok (.getfield 72, 3) := by decide +kernel
theorem dX7_slip_4 : decode cX7_slip 4 = .ok (.lreturn, 1) := by decide +kernel
theorem dX7_points_0 : decode cX7_points 0 = .ok (.aload_n 0, 1) := by decide +kernel
theorem dX7_points_1 : decode cX7_points 1 = .ok (.iload_n 1, 1) := by decide +kernel
theorem dX7_points_2 : decode cX7_points 2 = .ok (.invokevirtual 147, 3) := by decide +kernel
theorem dX7_points_5 : decode cX7_points 5 = .ok (.ifCond .ne 6, 3) := by decide +kernel
theorem dX7_points_8 : decode cX7_points 8 = .ok (.bipush (-2), 2) := by decide +kernel
theorem dX7_points_10 : decode cX7_points 10 = .ok (.ireturn, 1) := by decide +kernel
theorem dX7_points_11 : decode cX7_points 11 = .ok (.aload_n 0, 1) := by decide +kernel
theorem dX7_points_12 : decode cX7_points 12 = .ok (.getfield 10, 3) := by decide +kernel
theorem dX7_points_15 : decode cX7_points 15 = .ok (.iload_n 2, 1) := by decide +kernel
theorem dX7_points_16 : decode cX7_points 16 = .ok (.aload_n 0, 1) := by decide +kernel
theorem dX7_points_17 : decode cX7_points 17 = .ok (.getfield 45, 3) := by decide +kernel
theorem dX7_points_20 : decode cX7_points 20 = .ok (.aload_n 0, 1) := by decide +kernel
theorem dX7_points_21 : decode cX7_points 21 = .ok (.getfield 49, 3) := by decide +kernel
theorem dX7_points_24 : decode cX7_points 24 = .ok (.invokevirtual 207, 3) := by decide +kernel
theorem dX7_points_27 : decode cX7_points 27 = .ok (.ifCond .eq 19, 3) := by decide +kernel
theorem dX7_points_30 : decode cX7_points 30 = .ok (.aload_n 0, 1) := by decide +kernel
theorem dX7_points_31 : decode cX7_points 31 = .ok (.getfield 18, 3) := by decide +kernel
theorem dX7_points_34 : decode cX7_points 34 = .ok (.iload_n 1, 1) := by decide +kernel
theorem dX7_points_35 : decode cX7_points 35 = .ok (.aaload, 1) := by decide +kernel
theorem dX7_points_36 : decode cX7_points 36 = .ok (.aload_n 0, 1) := by decide +kernel
theorem dX7_points_37 : decode cX7_points 37 = .ok (.getfield 10, 3) := by decide +kernel
theorem dX7_points_40 : decode cX7_points 40 = .ok (.invokevirtual 211, 3) := by decide +kernel
theorem dX7_points_43 : decode cX7_points 43 = .ok (.goto 5, 3) := by decide +kernel
theorem dX7_points_46 : decode cX7_points 46 = .ok (.bipush (-3), 2) := by decide +kernel
theorem dX7_points_48 : decode cX7_points 48 = .ok (.ireturn, 1) := by decide +kernel
theorem dX7_ways_0 : decode cX7_ways 0 = .ok (.aload_n 0, 1) := by decide +kernel
theorem dX7_ways_1 : decode cX7_ways 1 = .ok (.getfield 10, 3) := by decide +kernel
theorem dX7_ways_4 : decode cX7_ways 4 = .ok (.iload_n 1, 1) := by decide +kernel
theorem dX7_ways_5 : decode cX7_ways 5 = .ok (.aload_n 0, 1) := by decide +kernel
theorem dX7_ways_6 : decode cX7_ways 6 = .ok (.getfield 45, 3) := by decide +kernel
theorem dX7_ways_9 : decode cX7_ways 9 = .ok (.aload_n 0, 1) := by decide +kernel
theorem dX7_ways_10 : decode cX7_ways 10 = .ok (.getfield 49, 3) := by decide +kernel
theorem dX7_ways_13 : decode cX7_ways 13 = .ok (.invokevirtual 207, 3) := by decide +kernel
theorem dX7_ways_16 : decode cX7_ways 16 = .ok (.ifCond .eq 13, 3) := by decide +kernel
theorem dX7_ways_19 : decode cX7_ways 19 = .ok (.aload_n 0, 1) := by decide +kernel
theorem dX7_ways_20 : decode cX7_ways 20 = .ok (.getfield 10, 3) := by decide +kernel
theorem dX7_ways_23 : decode cX7_ways 23 = .ok (.invokevirtual 215, 3) := by decide +kernel
theorem dX7_ways_26 : decode cX7_ways 26 = .ok (.goto 5, 3) := by decide +kernel
theorem dX7_ways_29 : decode cX7_ways 29 = .ok (.bipush (-3), 2) := by decide +kernel
theorem dX7_ways_31 : decode cX7_ways 31 = .ok (.ireturn, 1) := by decide +kernel
theorem dX7_filled_0 : decode cX7_filled 0 = .ok (.aload_n 0, 1) := by decide +kernel
theorem dX7_filled_1 : decode cX7_filled 1 = .ok (.iload_n 1, 1) := by decide +kernel
theorem dX7_filled_2 : decode cX7_filled 2 = .ok (.invokevirtual 147, 3) := by decide +kernel
theorem dX7_filled_5 : decode cX7_filled 5 = .ok (.ifCond .ne 6, 3) := by decide +kernel
theorem dX7_filled_8 : decode cX7_filled 8 = .ok (.bipush (-2), 2) := by decide +kernel
theorem dX7_filled_10 : decode cX7_filled 10 = .ok (.ireturn, 1) := by decide +kernel
theorem dX7_filled_11 : decode cX7_filled 11 = .ok (.aload_n 0, 1) := by decide +kernel
theorem dX7_filled_12 : decode cX7_filled 12 = .ok (.iload_n 1, 1) := by decide +kernel
theorem dX7_filled_13 : decode cX7_filled 13 = .ok (.invokevirtual 154, 3) := by decide +kernel
theorem dX7_filled_16 : decode cX7_filled 16 = .ok (.ifCond .eq 15, 3) := by decide +kernel
theorem dX7_filled_19 : decode cX7_filled 19 = .ok (.aload_n 0, 1) := by decide +kernel
theorem dX7_filled_20 : decode cX7_filled 20 = .ok (.getfield 18, 3) := by decide +kernel
theorem dX7_filled_23 : decode cX7_filled 23 = .ok (.iload_n 1, 1) := by decide +kernel
theorem dX7_filled_24 : decode cX7_filled 24 = .ok (.aaload, 1) := by decide +kernel
theorem dX7_filled_25 : decode cX7_filled 25 = .ok (.getfield 160, 3) := by decide +kernel
theorem dX7_filled_28 : decode cX7_filled 28 = .ok (.goto 4, 3) := by decide +kernel
theorem dX7_filled_31 : decode cX7_filled 31 = .ok (.iconst (-1), 1) := by decide +kernel
theorem dX7_filled_32 : decode cX7_filled 32 = .ok (.ireturn, 1) := by decide +kernel
theorem dX7_count_0 : decode cX7_count 0 = .ok (.iload_n 1, 1) := by decide +kernel
theorem dX7_count_1 : decode cX7_count 1 = .ok (.tableswitch 127 0 9 #[55, 60, 65, 70, 75, 83, 88, 104, 109, 114], 55) := by decide +kernel
theorem dX7_count_56 : decode cX7_count 56 = .ok (.aload_n 0, 1) := by decide +kernel
theorem dX7_count_57 : decode cX7_count 57 = .ok (.getfield 45, 3) := by decide +kernel
theorem dX7_count_60 : decode cX7_count 60 = .ok (.ireturn, 1) := by decide +kernel
theorem dX7_count_61 : decode cX7_count 61 = .ok (.aload_n 0, 1) := by decide +kernel
theorem dX7_count_62 : decode cX7_count 62 = .ok (.getfield 49, 3) := by decide +kernel
theorem dX7_count_65 : decode cX7_count 65 = .ok (.ireturn, 1) := by decide +kernel
theorem dX7_count_66 : decode cX7_count 66 = .ok (.aload_n 0, 1) := by decide +kernel
theorem dX7_count_67 : decode cX7_count 67 = .ok (.getfield 52, 3) := by decide +kernel
theorem dX7_count_70 : decode cX7_count 70 = .ok (.ireturn, 1) := by decide +kernel
theorem dX7_count_71 : decode cX7_count 71 = .ok (.aload_n 0, 1) := by decide +kernel
theorem dX7_count_72 : decode cX7_count 72 = .ok (.getfield 55, 3) := by decide +kernel
theorem dX7_count_75 : decode cX7_count 75 = .ok (.ireturn, 1) := by decide +kernel
theorem dX7_count_76 : decode cX7_count 76 = .ok (.aload_n 0, 1) := by decide +kernel
theorem dX7_count_77 : decode cX7_count 77 = .ok (.getfield 62, 3) := by decide +kernel
theorem dX7_count_80 : decode cX7_count 80 = .ok (.invokestatic 218, 3) := by decide +kernel
theorem dX7_count_83 : decode cX7_count 83 = .ok (.ireturn, 1) := by decide +kernel
theorem dX7_count_84 : decode cX7_count 84 = .ok (.aload_n 0, 1) := by decide +kernel
theorem dX7_count_85 : decode cX7_count 85 = .ok (.getfield 65, 3) := by decide +kernel
theorem dX7_count_88 : decode cX7_count 88 = .ok (.ireturn, 1) := by decide +kernel
theorem dX7_count_89 : decode cX7_count 89 = .ok (.aload_n 0, 1) := by decide +kernel
theorem dX7_count_90 : decode cX7_count 90 = .ok (.getfield 25, 3) := by decide +kernel
theorem dX7_count_93 : decode cX7_count 93 = .ok (.getfield 113, 3) := by decide +kernel
theorem dX7_count_96 : decode cX7_count 96 = .ok (.getfield 188, 3) := by decide +kernel
theorem dX7_count_99 : decode cX7_count 99 = .ok (.aload_n 0, 1) := by decide +kernel
theorem dX7_count_100 : decode cX7_count 100 = .ok (.getfield 78, 3) := by decide +kernel
theorem dX7_count_103 : decode cX7_count 103 = .ok (.iaload, 1) := by decide +kernel
theorem dX7_count_104 : decode cX7_count 104 = .ok (.ireturn, 1) := by decide +kernel
theorem dX7_count_105 : decode cX7_count 105 = .ok (.aload_n 0, 1) := by decide +kernel
theorem dX7_count_106 : decode cX7_count 106 = .ok (.getfield 84, 3) := by decide +kernel
theorem dX7_count_109 : decode cX7_count 109 = .ok (.ireturn, 1) := by decide +kernel
theorem dX7_count_110 : decode cX7_count 110 = .ok (.aload_n 0, 1) := by decide +kernel
theorem dX7_count_111 : decode cX7_count 111 = .ok (.getfield 81, 3) := by decide +kernel
theorem dX7_count_114 : decode cX7_count 114 = .ok (.ireturn, 1) := by decide +kernel
theorem dX7_count_115 : decode cX7_count 115 = .ok (.aload_n 0, 1) := by decide +kernel
theorem dX7_count_116 : decode cX7_count 116 = .ok (.getfield 58, 3) := by decide +kernel
theorem dX7_count_119 : decode cX7_count 119 = .ok (.ifCond .eq 7, 3) := by decide +kernel
theorem dX7_count_122 : decode cX7_count 122 = .ok (.iconst 1, 1) := by decide +kernel
theorem dX7_count_123 : decode cX7_count 123 = .ok (.goto 4, 3) := by decide +kernel
theorem dX7_count_126 : decode cX7_count 126 = .ok (.iconst 0, 1) := by decide +kernel
theorem dX7_count_127 : decode cX7_count 127 = .ok (.ireturn, 1) := by decide +kernel
theorem dX7_count_128 : decode cX7_count 128 = .ok (.bipush (-3), 2) := by decide +kernel
theorem dX7_count_130 : decode cX7_count 130 = .ok (.ireturn, 1) := by decide +kernel
theorem dX7_isRow_0 : decode cX7_isRow 0 = .ok (.iload_n 1, 1) := by decide +kernel
theorem dX7_isRow_1 : decode cX7_isRow 1 = .ok (.ifCond .lt 15, 3) := by decide +kernel
theorem dX7_isRow_4 : decode cX7_isRow 4 = .ok (.iload_n 1, 1) := by decide +kernel
theorem dX7_isRow_5 : decode cX7_isRow 5 = .ok (.aload_n 0, 1) := by decide +kernel
theorem dX7_isRow_6 : decode cX7_isRow 6 = .ok (.getfield 55, 3) := by decide +kernel
theorem dX7_isRow_9 : decode cX7_isRow 9 = .ok (.if_icmp .ge 7, 3) := by decide +kernel
theorem dX7_isRow_12 : decode cX7_isRow 12 = .ok (.iconst 1, 1) := by decide +kernel
theorem dX7_isRow_13 : decode cX7_isRow 13 = .ok (.goto 4, 3) := by decide +kernel
theorem dX7_isRow_16 : decode cX7_isRow 16 = .ok (.iconst 0, 1) := by decide +kernel
theorem dX7_isRow_17 : decode cX7_isRow 17 = .ok (.ireturn, 1) := by decide +kernel
theorem dX7_isFilled_0 : decode cX7_isFilled 0 = .ok (.aload_n 0, 1) := by decide +kernel
theorem dX7_isFilled_1 : decode cX7_isFilled 1 = .ok (.getfield 62, 3) := by decide +kernel
theorem dX7_isFilled_4 : decode cX7_isFilled 4 = .ok (.iload_n 1, 1) := by decide +kernel
theorem dX7_isFilled_5 : decode cX7_isFilled 5 = .ok (.ishr, 1) := by decide +kernel
theorem dX7_isFilled_6 : decode cX7_isFilled 6 = .ok (.iconst 1, 1) := by decide +kernel
theorem dX7_isFilled_7 : decode cX7_isFilled 7 = .ok (.iand, 1) := by decide +kernel
theorem dX7_isFilled_8 : decode cX7_isFilled 8 = .ok (.ifCond .eq 7, 3) := by decide +kernel
theorem dX7_isFilled_11 : decode cX7_isFilled 11 = .ok (.iconst 1, 1) := by decide +kernel
theorem dX7_isFilled_12 : decode cX7_isFilled 12 = .ok (.goto 4, 3) := by decide +kernel
theorem dX7_isFilled_15 : decode cX7_isFilled 15 = .ok (.iconst 0, 1) := by decide +kernel
theorem dX7_isFilled_16 : decode cX7_isFilled 16 = .ok (.ireturn, 1) := by decide +kernel
theorem dX7_hasHeap_0 : decode cX7_hasHeap 0 = .ok (.aload_n 0, 1) := by decide +kernel
theorem dX7_hasHeap_1 : decode cX7_hasHeap 1 = .ok (.getfield 75, 3) := by decide +kernel
theorem dX7_hasHeap_4 : decode cX7_hasHeap 4 = .ok (.ifCond .eq 14, 3) := by decide +kernel
theorem dX7_hasHeap_7 : decode cX7_hasHeap 7 = .ok (.aload_n 0, 1) := by decide +kernel
theorem dX7_hasHeap_8 : decode cX7_hasHeap 8 = .ok (.getfield 81, 3) := by decide +kernel
theorem dX7_hasHeap_11 : decode cX7_hasHeap 11 = .ok (.ifCond .ne 7, 3) := by decide +kernel
theorem dX7_hasHeap_14 : decode cX7_hasHeap 14 = .ok (.iconst 1, 1) := by decide +kernel
theorem dX7_hasHeap_15 : decode cX7_hasHeap 15 = .ok (.goto 4, 3) := by decide +kernel
theorem dX7_hasHeap_18 : decode cX7_hasHeap 18 = .ok (.iconst 0, 1) := by decide +kernel
theorem dX7_hasHeap_19 : decode cX7_hasHeap 19 = .ok (.ireturn, 1) := by decide +kernel
theorem dX7_mayHold_0 : decode cX7_mayHold 0 = .ok (.aload_n 0, 1) := by decide +kernel
theorem dX7_mayHold_1 : decode cX7_mayHold 1 = .ok (.invokevirtual 151, 3) := by decide +kernel
theorem dX7_mayHold_4 : decode cX7_mayHold 4 = .ok (.ifCond .eq 14, 3) := by decide +kernel
theorem dX7_mayHold_7 : decode cX7_mayHold 7 = .ok (.aload_n 0, 1) := by decide +kernel
theorem dX7_mayHold_8 : decode cX7_mayHold 8 = .ok (.getfield 84, 3) := by decide +kernel
theorem dX7_mayHold_11 : decode cX7_mayHold 11 = .ok (.ifCond .le 7, 3) := by decide +kernel
theorem dX7_mayHold_14 : decode cX7_mayHold 14 = .ok (.iconst 1, 1) := by decide +kernel
theorem dX7_mayHold_15 : decode cX7_mayHold 15 = .ok (.goto 4, 3) := by decide +kernel
theorem dX7_mayHold_18 : decode cX7_mayHold 18 = .ok (.iconst 0, 1) := by decide +kernel
theorem dX7_mayHold_19 : decode cX7_mayHold 19 = .ok (.ireturn, 1) := by decide +kernel
theorem dX7_isLarge_0 : decode cX7_isLarge 0 = .ok (.lconst 1, 1) := by decide +kernel
theorem dX7_isLarge_1 : decode cX7_isLarge 1 = .ok (.lstore_n 1, 1) := by decide +kernel
theorem dX7_isLarge_2 : decode cX7_isLarge 2 = .ok (.iconst 0, 1) := by decide +kernel
theorem dX7_isLarge_3 : decode cX7_isLarge 3 = .ok (.istore_n 3, 1) := by decide +kernel
theorem dX7_isLarge_4 : decode cX7_isLarge 4 = .ok (.iload_n 3, 1) := by decide +kernel
theorem dX7_isLarge_5 : decode cX7_isLarge 5 = .ok (.aload_n 0, 1) := by decide +kernel
theorem dX7_isLarge_6 : decode cX7_isLarge 6 = .ok (.getfield 45, 3) := by decide +kernel
theorem dX7_isLarge_9 : decode cX7_isLarge 9 = .ok (.if_icmp .ge 17, 3) := by decide +kernel
theorem dX7_isLarge_12 : decode cX7_isLarge 12 = .ok (.lload_n 1, 1) := by decide +kernel
theorem dX7_isLarge_13 : decode cX7_isLarge 13 = .ok (.aload_n 0, 1) := by decide +kernel
theorem dX7_isLarge_14 : decode cX7_isLarge 14 = .ok (.getfield 49, 3) := by decide +kernel
theorem dX7_isLarge_17 : decode cX7_isLarge 17 = .ok (.i2l, 1) := by decide +kernel
theorem dX7_isLarge_18 : decode cX7_isLarge 18 = .ok (.lmul, 1) := by decide +kernel
theorem dX7_isLarge_19 : decode cX7_isLarge 19 = .ok (.lstore_n 1, 1) := by decide +kernel
theorem dX7_isLarge_20 : decode cX7_isLarge 20 = .ok (.iinc 3 1, 3) := by decide +kernel
theorem dX7_isLarge_23 : decode cX7_isLarge 23 = .ok (.goto (-19), 3) := by decide +kernel
theorem dX7_isLarge_26 : decode cX7_isLarge 26 = .ok (.lconst 1, 1) := by decide +kernel
theorem dX7_isLarge_27 : decode cX7_isLarge 27 = .ok (.lstore_n 3, 1) := by decide +kernel
theorem dX7_isLarge_28 : decode cX7_isLarge 28 = .ok (.iconst 0, 1) := by decide +kernel
theorem dX7_isLarge_29 : decode cX7_isLarge 29 = .ok (.istore 5, 2) := by decide +kernel
theorem dX7_isLarge_31 : decode cX7_isLarge 31 = .ok (.iload 5, 2) := by decide +kernel
theorem dX7_isLarge_33 : decode cX7_isLarge 33 = .ok (.aload_n 0, 1) := by decide +kernel
theorem dX7_isLarge_34 : decode cX7_isLarge 34 = .ok (.getfield 52, 3) := by decide +kernel
theorem dX7_isLarge_37 : decode cX7_isLarge 37 = .ok (.aload_n 0, 1) := by decide +kernel
theorem dX7_isLarge_38 : decode cX7_isLarge 38 = .ok (.getfield 55, 3) := by decide +kernel
theorem dX7_isLarge_41 : decode cX7_isLarge 41 = .ok (.imul, 1) := by decide +kernel
theorem dX7_isLarge_42 : decode cX7_isLarge 42 = .ok (.if_icmp .ge 23, 3) := by decide +kernel
theorem dX7_isLarge_45 : decode cX7_isLarge 45 = .ok (.lload_n 3, 1) := by decide +kernel
theorem dX7_isLarge_46 : decode cX7_isLarge 46 = .ok (.lload_n 1, 1) := by decide +kernel
theorem dX7_isLarge_47 : decode cX7_isLarge 47 = .ok (.lmul, 1) := by decide +kernel
theorem dX7_isLarge_48 : decode cX7_isLarge 48 = .ok (.lstore_n 3, 1) := by decide +kernel
theorem dX7_isLarge_49 : decode cX7_isLarge 49 = .ok (.lload_n 3, 1) := by decide +kernel
theorem dX7_isLarge_50 : decode cX7_isLarge 50 = .ok (.ldc2_w 223, 3) := by decide +kernel
theorem dX7_isLarge_53 : decode cX7_isLarge 53 = .ok (.lcmp, 1) := by decide +kernel
theorem dX7_isLarge_54 : decode cX7_isLarge 54 = .ok (.ifCond .le 5, 3) := by decide +kernel
theorem dX7_isLarge_57 : decode cX7_isLarge 57 = .ok (.iconst 1, 1) := by decide +kernel
theorem dX7_isLarge_58 : decode cX7_isLarge 58 = .ok (.ireturn, 1) := by decide +kernel
theorem dX7_isLarge_59 : decode cX7_isLarge 59 = .ok (.iinc 5 1, 3) := by decide +kernel
theorem dX7_isLarge_62 : decode cX7_isLarge 62 = .ok (.goto (-31), 3) := by decide +kernel
theorem dX7_isLarge_65 : decode cX7_isLarge 65 = .ok (.iconst 0, 1) := by decide +kernel
theorem dX7_isLarge_66 : decode cX7_isLarge 66 = .ok (.ireturn, 1) := by decide +kernel
theorem dX7_comeToTurn_0 : decode cX7_comeToTurn 0 = .ok (.aload_n 0, 1) := by decide +kernel
theorem dX7_comeToTurn_1 : decode cX7_comeToTurn 1 = .ok (.getfield 25, 3) := by decide +kernel
theorem dX7_comeToTurn_4 : decode cX7_comeToTurn 4 = .ok (.aload_n 0, 1) := by decide +kernel
theorem dX7_comeToTurn_5 : decode cX7_comeToTurn 5 = .ok (.getfield 62, 3) := by decide +kernel
theorem dX7_comeToTurn_8 : decode cX7_comeToTurn 8 = .ok (.invokevirtual 225, 3) := by decide +kernel
theorem dX7_comeToTurn_11 : decode cX7_comeToTurn 11 = .ok (.ifCond .ne 7, 3) := by decide +kernel
theorem dX7_comeToTurn_14 : decode cX7_comeToTurn 14 = .ok (.iconst 1, 1) := by decide +kernel
theorem dX7_comeToTurn_15 : decode cX7_comeToTurn 15 = .ok (.goto 4, 3) := by decide +kernel
theorem dX7_comeToTurn_18 : decode cX7_comeToTurn 18 = .ok (.iconst 0, 1) := by decide +kernel
theorem dX7_comeToTurn_19 : decode cX7_comeToTurn 19 = .ok (.istore_n 1, 1) := by decide +kernel
theorem dX7_comeToTurn_20 : decode cX7_comeToTurn 20 = .ok (.aload_n 0, 1) := by decide +kernel
theorem dX7_comeToTurn_21 : decode cX7_comeToTurn 21 = .ok (.iconst 0, 1) := by decide +kernel
theorem dX7_comeToTurn_22 : decode cX7_comeToTurn 22 = .ok (.putfield 75, 3) := by decide +kernel
theorem dX7_comeToTurn_25 : decode cX7_comeToTurn 25 = .ok (.aload_n 0, 1) := by decide +kernel
theorem dX7_comeToTurn_26 : decode cX7_comeToTurn 26 = .ok (.iconst 0, 1) := by decide +kernel
theorem dX7_comeToTurn_27 : decode cX7_comeToTurn 27 = .ok (.putfield 78, 3) := by decide +kernel
theorem dX7_comeToTurn_30 : decode cX7_comeToTurn 30 = .ok (.aload_n 0, 1) := by decide +kernel
theorem dX7_comeToTurn_31 : decode cX7_comeToTurn 31 = .ok (.iload_n 1, 1) := by decide +kernel
theorem dX7_comeToTurn_32 : decode cX7_comeToTurn 32 = .ok (.ifCond .eq 7, 3) := by decide +kernel
theorem dX7_comeToTurn_35 : decode cX7_comeToTurn 35 = .ok (.iconst 0, 1) := by decide +kernel
theorem dX7_comeToTurn_36 : decode cX7_comeToTurn 36 = .ok (.goto 7, 3) := by decide +kernel
theorem dX7_comeToTurn_39 : decode cX7_comeToTurn 39 = .ok (.aload_n 0, 1) := by decide +kernel
theorem dX7_comeToTurn_40 : decode cX7_comeToTurn 40 = .ok (.getfield 45, 3) := by decide +kernel
theorem dX7_comeToTurn_43 : decode cX7_comeToTurn 43 = .ok (.putfield 81, 3) := by decide +kernel
theorem dX7_comeToTurn_46 : decode cX7_comeToTurn 46 = .ok (.aload_n 0, 1) := by decide +kernel
theorem dX7_comeToTurn_47 : decode cX7_comeToTurn 47 = .ok (.iload_n 1, 1) := by decide +kernel
theorem dX7_comeToTurn_48 : decode cX7_comeToTurn 48 = .ok (.ifCond .eq 7, 3) := by decide +kernel
theorem dX7_comeToTurn_51 : decode cX7_comeToTurn 51 = .ok (.iconst 0, 1) := by decide +kernel
theorem dX7_comeToTurn_52 : decode cX7_comeToTurn 52 = .ok (.goto 7, 3) := by decide +kernel
theorem dX7_comeToTurn_55 : decode cX7_comeToTurn 55 = .ok (.aload_n 0, 1) := by decide +kernel
theorem dX7_comeToTurn_56 : decode cX7_comeToTurn 56 = .ok (.getfield 52, 3) := by decide +kernel
theorem dX7_comeToTurn_59 : decode cX7_comeToTurn 59 = .ok (.putfield 84, 3) := by decide +kernel
theorem dX7_comeToTurn_62 : decode cX7_comeToTurn 62 = .ok (.iload_n 1, 1) := by decide +kernel
theorem dX7_comeToTurn_63 : decode cX7_comeToTurn 63 = .ok (.ifCond .ne 14, 3) := by decide +kernel
theorem dX7_comeToTurn_66 : decode cX7_comeToTurn 66 = .ok (.aload_n 0, 1) := by decide +kernel
theorem dX7_comeToTurn_67 : decode cX7_comeToTurn 67 = .ok (.getfield 34, 3) := by decide +kernel
theorem dX7_comeToTurn_70 : decode cX7_comeToTurn 70 = .ok (.aload_n 0, 1) := by decide +kernel
theorem dX7_comeToTurn_71 : decode cX7_comeToTurn 71 = .ok (.getfield 62, 3) := by decide +kernel
theorem dX7_comeToTurn_74 : decode cX7_comeToTurn 74 = .ok (.invokevirtual 228, 3) := by decide +kernel
theorem dX7_comeToTurn_77 : decode cX7_comeToTurn 77 = .ok (.return_, 1) := by decide +kernel
theorem dX7_comeToHeap_0 : decode cX7_comeToHeap 0 = .ok (.aload_n 0, 1) := by decide +kernel
theorem dX7_comeToHeap_1 : decode cX7_comeToHeap 1 = .ok (.invokevirtual 139, 3) := by decide +kernel
theorem dX7_comeToHeap_4 : decode cX7_comeToHeap 4 = .ok (.lstore_n 2, 1) := by decide +kernel
theorem dX7_comeToHeap_5 : decode cX7_comeToHeap 5 = .ok (.aload_n 0, 1) := by decide +kernel
theorem dX7_comeToHeap_6 : decode cX7_comeToHeap 6 = .ok (.iconst 1, 1) := by decide +kernel
theorem dX7_comeToHeap_7 : decode cX7_comeToHeap 7 = .ok (.putfield 75, 3) := by decide +kernel
theorem dX7_comeToHeap_10 : decode cX7_comeToHeap 10 = .ok (.aload_n 0, 1) := by decide +kernel
theorem dX7_comeToHeap_11 : decode cX7_comeToHeap 11 = .ok (.iload_n 1, 1) := by decide +kernel
theorem dX7_comeToHeap_12 : decode cX7_comeToHeap 12 = .ok (.putfield 78, 3) := by decide +kernel
theorem dX7_comeToHeap_15 : decode cX7_comeToHeap 15 = .ok (.aload_n 0, 1) := by decide +kernel
theorem dX7_comeToHeap_16 : decode cX7_comeToHeap 16 = .ok (.iconst 0, 1) := by decide +kernel
theorem dX7_comeToHeap_17 : decode cX7_comeToHeap 17 = .ok (.putfield 81, 3) := by decide +kernel
theorem dX7_comeToHeap_20 : decode cX7_comeToHeap 20 = .ok (.aload_n 0, 1) := by decide +kernel
theorem dX7_comeToHeap_21 : decode cX7_comeToHeap 21 = .ok (.dup, 1) := by decide +kernel
theorem dX7_comeToHeap_22 : decode cX7_comeToHeap 22 = .ok (.getfield 84, 3) := by decide +kernel
theorem dX7_comeToHeap_25 : decode cX7_comeToHeap 25 = .ok (.iconst 1, 1) := by decide +kernel
theorem dX7_comeToHeap_26 : decode cX7_comeToHeap 26 = .ok (.isub, 1) := by decide +kernel
theorem dX7_comeToHeap_27 : decode cX7_comeToHeap 27 = .ok (.putfield 84, 3) := by decide +kernel
theorem dX7_comeToHeap_30 : decode cX7_comeToHeap 30 = .ok (.aload_n 0, 1) := by decide +kernel
theorem dX7_comeToHeap_31 : decode cX7_comeToHeap 31 = .ok (.dup, 1) := by decide +kernel
theorem dX7_comeToHeap_32 : decode cX7_comeToHeap 32 = .ok (.getfield 68, 3) := by decide +kernel
theorem dX7_comeToHeap_35 : decode cX7_comeToHeap 35 = .ok (.aload_n 0, 1) := by decide +kernel
theorem dX7_comeToHeap_36 : decode cX7_comeToHeap 36 = .ok (.invokevirtual 139, 3) := by decide +kernel
theorem dX7_comeToHeap_39 : decode cX7_comeToHeap 39 = .ok (.lload_n 2, 1) := by decide +kernel
theorem dX7_comeToHeap_40 : decode cX7_comeToHeap 40 = .ok (.lsub, 1) := by decide +kernel
theorem dX7_comeToHeap_41 : decode cX7_comeToHeap 41 = .ok (.ladd, 1) := by decide +kernel
theorem dX7_comeToHeap_42 : decode cX7_comeToHeap 42 = .ok (.putfield 68, 3) := by decide +kernel
theorem dX7_comeToHeap_45 : decode cX7_comeToHeap 45 = .ok (.aload_n 0, 1) := by decide +kernel
theorem dX7_comeToHeap_46 : decode cX7_comeToHeap 46 = .ok (.getfield 25, 3) := by decide +kernel
theorem dX7_comeToHeap_49 : decode cX7_comeToHeap 49 = .ok (.getfield 113, 3) := by decide +kernel
theorem dX7_comeToHeap_52 : decode cX7_comeToHeap 52 = .ok (.getfield 188, 3) := by decide +kernel
theorem dX7_comeToHeap_55 : decode cX7_comeToHeap 55 = .ok (.iload_n 1, 1) := by decide +kernel
theorem dX7_comeToHeap_56 : decode cX7_comeToHeap 56 = .ok (.iaload, 1) := by decide +kernel
theorem dX7_comeToHeap_57 : decode cX7_comeToHeap 57 = .ok (.ireturn, 1) := by decide +kernel
theorem dX7_unitPower_0 : decode cX7_unitPower 0 = .ok (.aload_n 0, 1) := by decide +kernel
theorem dX7_unitPower_1 : decode cX7_unitPower 1 = .ok (.getfield 25, 3) := by decide +kernel
theorem dX7_unitPower_4 : decode cX7_unitPower 4 = .ok (.aload_n 0, 1) := by decide +kernel
theorem dX7_unitPower_5 : decode cX7_unitPower 5 = .ok (.getfield 62, 3) := by decide +kernel
theorem dX7_unitPower_8 : decode cX7_unitPower 8 = .ok (.invokevirtual 225, 3) := by decide +kernel
theorem dX7_unitPower_11 : decode cX7_unitPower 11 = .ok (.istore_n 1, 1) := by decide +kernel
theorem dX7_unitPower_12 : decode cX7_unitPower 12 = .ok (.aload_n 0, 1) := by decide +kernel
theorem dX7_unitPower_13 : decode cX7_unitPower 13 = .ok (.getfield 75, 3) := by decide +kernel
theorem dX7_unitPower_16 : decode cX7_unitPower 16 = .ok (.ifCond .eq 19, 3) := by decide +kernel
theorem dX7_unitPower_19 : decode cX7_unitPower 19 = .ok (.aload_n 0, 1) := by decide +kernel
theorem dX7_unitPower_20 : decode cX7_unitPower 20 = .ok (.getfield 84, 3) := by decide +kernel
theorem dX7_unitPower_23 : decode cX7_unitPower 23 = .ok (.aload_n 0, 1) := by decide +kernel
theorem dX7_unitPower_24 : decode cX7_unitPower 24 = .ok (.getfield 52, 3) := by decide +kernel
theorem dX7_unitPower_27 : decode cX7_unitPower 27 = .ok (.iload_n 1, 1) := by decide +kernel
theorem dX7_unitPower_28 : decode cX7_unitPower 28 = .ok (.iconst 1, 1) := by decide +kernel
theorem dX7_unitPower_29 : decode cX7_unitPower 29 = .ok (.isub, 1) := by decide +kernel
theorem dX7_unitPower_30 : decode cX7_unitPower 30 = .ok (.imul, 1) := by decide +kernel
theorem dX7_unitPower_31 : decode cX7_unitPower 31 = .ok (.iadd, 1) := by decide +kernel
theorem dX7_unitPower_32 : decode cX7_unitPower 32 = .ok (.goto 9, 3) := by decide +kernel
theorem dX7_unitPower_35 : decode cX7_unitPower 35 = .ok (.aload_n 0, 1) := by decide +kernel
theorem dX7_unitPower_36 : decode cX7_unitPower 36 = .ok (.getfield 52, 3) := by decide +kernel
theorem dX7_unitPower_39 : decode cX7_unitPower 39 = .ok (.iload_n 1, 1) := by decide +kernel
theorem dX7_unitPower_40 : decode cX7_unitPower 40 = .ok (.imul, 1) := by decide +kernel
theorem dX7_unitPower_41 : decode cX7_unitPower 41 = .ok (.ireturn, 1) := by decide +kernel
theorem dX7_worthHere_0 : decode cX7_worthHere 0 = .ok (.aload_n 0, 1) := by decide +kernel
theorem dX7_worthHere_1 : decode cX7_worthHere 1 = .ok (.getfield 75, 3) := by decide +kernel
theorem dX7_worthHere_4 : decode cX7_worthHere 4 = .ok (.ifCond .eq 17, 3) := by decide +kernel
theorem dX7_worthHere_7 : decode cX7_worthHere 7 = .ok (.aload_n 0, 1) := by decide +kernel
theorem dX7_worthHere_8 : decode cX7_worthHere 8 = .ok (.aload_n 0, 1) := by decide +kernel
theorem dX7_worthHere_9 : decode cX7_worthHere 9 = .ok (.getfield 34, 3) := by decide +kernel
theorem dX7_worthHere_12 : decode cX7_worthHere 12 = .ok (.getfield 178, 3) := by decide +kernel
theorem dX7_worthHere_15 : decode cX7_worthHere 15 = .ok (.invokevirtual 203, 3) := by decide +kernel
theorem dX7_worthHere_18 : decode cX7_worthHere 18 = .ok (.goto 15, 3) := by decide +kernel
theorem dX7_worthHere_21 : decode cX7_worthHere 21 = .ok (.aload_n 0, 1) := by decide +kernel
theorem dX7_worthHere_22 : decode cX7_worthHere 22 = .ok (.getfield 34, 3) := by decide +kernel
theorem dX7_worthHere_25 : decode cX7_worthHere 25 = .ok (.getfield 232, 3) := by decide +kernel
theorem dX7_worthHere_28 : decode cX7_worthHere 28 = .ok (.aload_n 0, 1) := by decide +kernel
theorem dX7_worthHere_29 : decode cX7_worthHere 29 = .ok (.getfield 62, 3) := by decide +kernel
theorem dX7_worthHere_32 : decode cX7_worthHere 32 = .ok (.laload, 1) := by decide +kernel
theorem dX7_worthHere_33 : decode cX7_worthHere 33 = .ok (.lreturn, 1) := by decide +kernel
theorem dX7_valueIn_0 : decode cX7_valueIn 0 = .ok (.aload_n 0, 1) := by decide +kernel
theorem dX7_valueIn_1 : decode cX7_valueIn 1 = .ok (.getfield 81, 3) := by decide +kernel
theorem dX7_valueIn_4 : decode cX7_valueIn 4 = .ok (.ifCond .le 18, 3) := by decide +kernel
theorem dX7_valueIn_7 : decode cX7_valueIn 7 = .ok (.aload_n 1, 1) := by decide +kernel
theorem dX7_valueIn_8 : decode cX7_valueIn 8 = .ok (.aload_n 0, 1) := by decide +kernel
theorem dX7_valueIn_9 : decode cX7_valueIn 9 = .ok (.getfield 78, 3) := by decide +kernel
theorem dX7_valueIn_12 : decode cX7_valueIn 12 = .ok (.aload_n 0, 1) := by decide +kernel
theorem dX7_valueIn_13 : decode cX7_valueIn 13 = .ok (.getfield 84, 3) := by decide +kernel
theorem dX7_valueIn_16 : decode cX7_valueIn 16 = .ok (.invokevirtual 182, 3) := by decide +kernel
theorem dX7_valueIn_19 : decode cX7_valueIn 19 = .ok (.goto 15, 3) := by decide +kernel
theorem dX7_valueIn_22 : decode cX7_valueIn 22 = .ok (.aload_n 1, 1) := by decide +kernel
theorem dX7_valueIn_23 : decode cX7_valueIn 23 = .ok (.aload_n 0, 1) := by decide +kernel
theorem dX7_valueIn_24 : decode cX7_valueIn 24 = .ok (.getfield 78, 3) := by decide +kernel
theorem dX7_valueIn_27 : decode cX7_valueIn 27 = .ok (.aload_n 0, 1) := by decide +kernel
theorem dX7_valueIn_28 : decode cX7_valueIn 28 = .ok (.getfield 84, 3) := by decide +kernel
theorem dX7_valueIn_31 : decode cX7_valueIn 31 = .ok (.invokevirtual 235, 3) := by decide +kernel
theorem dX7_valueIn_34 : decode cX7_valueIn 34 = .ok (.lreturn, 1) := by decide +kernel
theorem dX7_stand_0 : decode cX7_stand 0 = .ok (.aload_n 0, 1) := by decide +kernel
theorem dX7_stand_1 : decode cX7_stand 1 = .ok (.getfield 52, 3) := by decide +kernel
theorem dX7_stand_4 : decode cX7_stand 4 = .ok (.aload_n 0, 1) := by decide +kernel
theorem dX7_stand_5 : decode cX7_stand 5 = .ok (.getfield 55, 3) := by decide +kernel
theorem dX7_stand_8 : decode cX7_stand 8 = .ok (.imul, 1) := by decide +kernel
theorem dX7_stand_9 : decode cX7_stand 9 = .ok (.istore_n 1, 1) := by decide +kernel
theorem dX7_stand_10 : decode cX7_stand 10 = .ok (.aload_n 0, 1) := by decide +kernel
theorem dX7_stand_11 : decode cX7_stand 11 = .ok (.getfield 65, 3) := by decide +kernel
theorem dX7_stand_14 : decode cX7_stand 14 = .ok (.i2l, 1) := by decide +kernel
theorem dX7_stand_15 : decode cX7_stand 15 = .ok (.aload_n 0, 1) := by decide +kernel
theorem dX7_stand_16 : decode cX7_stand 16 = .ok (.getfield 25, 3) := by decide +kernel
theorem dX7_stand_19 : decode cX7_stand 19 = .ok (.getfield 163, 3) := by decide +kernel
theorem dX7_stand_22 : decode cX7_stand 22 = .ok (.iload_n 1, 1) := by decide +kernel
theorem dX7_stand_23 : decode cX7_stand 23 = .ok (.laload, 1) := by decide +kernel
theorem dX7_stand_24 : decode cX7_stand 24 = .ok (.lmul, 1) := by decide +kernel
theorem dX7_stand_25 : decode cX7_stand 25 = .ok (.aload_n 0, 1) := by decide +kernel
theorem dX7_stand_26 : decode cX7_stand 26 = .ok (.invokevirtual 173, 3) := by decide +kernel
theorem dX7_stand_29 : decode cX7_stand 29 = .ok (.aload_n 0, 1) := by decide +kernel
theorem dX7_stand_30 : decode cX7_stand 30 = .ok (.getfield 25, 3) := by decide +kernel
theorem dX7_stand_33 : decode cX7_stand 33 = .ok (.getfield 163, 3) := by decide +kernel
theorem dX7_stand_36 : decode cX7_stand 36 = .ok (.iload_n 1, 1) := by decide +kernel
theorem dX7_stand_37 : decode cX7_stand 37 = .ok (.aload_n 0, 1) := by decide +kernel
theorem dX7_stand_38 : decode cX7_stand 38 = .ok (.invokevirtual 167, 3) := by decide +kernel
theorem dX7_stand_41 : decode cX7_stand 41 = .ok (.isub, 1) := by decide +kernel
theorem dX7_stand_42 : decode cX7_stand 42 = .ok (.laload, 1) := by decide +kernel
theorem dX7_stand_43 : decode cX7_stand 43 = .ok (.lmul, 1) := by decide +kernel
theorem dX7_stand_44 : decode cX7_stand 44 = .ok (.ladd, 1) := by decide +kernel
theorem dX7_stand_45 : decode cX7_stand 45 = .ok (.lreturn, 1) := by decide +kernel
theorem dX8_init_0 : decode cX8_init 0 = .ok (.aload_n 0, 1) := by decide +kernel
theorem dX8_init_1 : decode cX8_init 1 = .ok (.invokespecial 1, 3) := by decide +kernel
theorem dX8_init_4 : decode cX8_init 4 = .ok (.aload_n 0, 1) := by decide +kernel
theorem dX8_init_5 : decode cX8_init 5 = .ok (.iconst 5, 1) := by decide +kernel
theorem dX8_init_6 : decode cX8_init 6 = .ok (.putfield 7, 3) := by decide +kernel
theorem dX8_init_9 : decode cX8_init 9 = .ok (.aload_n 0, 1) := by decide +kernel
theorem dX8_init_10 : decode cX8_init 10 = .ok (.bipush 6, 2) := by decide +kernel
theorem dX8_init_12 : decode cX8_init 12 = .ok (.putfield 13, 3) := by decide +kernel
theorem dX8_init_15 : decode cX8_init 15 = .ok (.aload_n 0, 1) := by decide +kernel
theorem dX8_init_16 : decode cX8_init 16 = .ok (.iconst 3, 1) := by decide +kernel
theorem dX8_init_17 : decode cX8_init 17 = .ok (.putfield 16, 3) := by decide +kernel
theorem dX8_init_20 : decode cX8_init 20 = .ok (.aload_n 0, 1) := by decide +kernel
theorem dX8_init_21 : decode cX8_init 21 = .ok (.bipush 8, 2) := by decide +kernel
theorem dX8_init_23 : decode cX8_init 23 = .ok (.newarray .int, 2) := by decide +kernel
theorem dX8_init_25 : decode cX8_init 25 = .ok (.putfield 19, 3) := by decide +kernel
theorem dX8_init_28 : decode cX8_init 28 = .ok (.aload_n 0, 1) := by decide +kernel
theorem dX8_init_29 : decode cX8_init 29 = .ok (.bipush 8, 2) := by decide +kernel
theorem dX8_init_31 : decode cX8_init 31 = .ok (.newarray .int, 2) := by decide +kernel
theorem dX8_init_33 : decode cX8_init 33 = .ok (.putfield 23, 3) := by decide +kernel
theorem dX8_init_36 : decode cX8_init 36 = .ok (.aload_n 0, 1) := by decide +kernel
theorem dX8_init_37 : decode cX8_init 37 = .ok (.bipush 8, 2) := by decide +kernel
theorem dX8_init_39 : decode cX8_init 39 = .ok (.newarray .int, 2) := by decide +kernel
theorem dX8_init_41 : decode cX8_init 41 = .ok (.putfield 26, 3) := by decide +kernel
theorem dX8_init_44 : decode cX8_init 44 = .ok (.aload_n 0, 1) := by decide +kernel
theorem dX8_init_45 : decode cX8_init 45 = .ok (.sipush 2772, 3) := by decide +kernel
theorem dX8_init_48 : decode cX8_init 48 = .ok (.newarray .int, 2) := by decide +kernel
theorem dX8_init_50 : decode cX8_init 50 = .ok (.putfield 29, 3) := by decide +kernel
theorem dX8_init_53 : decode cX8_init 53 = .ok (.aload_n 0, 1) := by decide +kernel
theorem dX8_init_54 : decode cX8_init 54 = .ok (.sipush 462, 3) := by decide +kernel
theorem dX8_init_57 : decode cX8_init 57 = .ok (.newarray .int, 2) := by decide +kernel
theorem dX8_init_59 : decode cX8_init 59 = .ok (.putfield 32, 3) := by decide +kernel
theorem dX8_init_62 : decode cX8_init 62 = .ok (.aload_n 0, 1) := by decide +kernel
theorem dX8_init_63 : decode cX8_init 63 = .ok (.sipush 462, 3) := by decide +kernel
theorem dX8_init_66 : decode cX8_init 66 = .ok (.newarray .int, 2) := by decide +kernel
theorem dX8_init_68 : decode cX8_init 68 = .ok (.putfield 35, 3) := by decide +kernel
theorem dX8_init_71 : decode cX8_init 71 = .ok (.aload_n 0, 1) := by decide +kernel
theorem dX8_init_72 : decode cX8_init 72 = .ok (.sipush 2772, 3) := by decide +kernel
theorem dX8_init_75 : decode cX8_init 75 = .ok (.newarray .int, 2) := by decide +kernel
theorem dX8_init_77 : decode cX8_init 77 = .ok (.putfield 38, 3) := by decide +kernel
theorem dX8_init_80 : decode cX8_init 80 = .ok (.aload_n 0, 1) := by decide +kernel
theorem dX8_init_81 : decode cX8_init 81 = .ok (.sipush 3696, 3) := by decide +kernel
theorem dX8_init_84 : decode cX8_init 84 = .ok (.newarray .int, 2) := by decide +kernel
theorem dX8_init_86 : decode cX8_init 86 = .ok (.putfield 41, 3) := by decide +kernel
theorem dX8_init_89 : decode cX8_init 89 = .ok (.aload_n 0, 1) := by decide +kernel
theorem dX8_init_90 : decode cX8_init 90 = .ok (.bipush 8, 2) := by decide +kernel
theorem dX8_init_92 : decode cX8_init 92 = .ok (.newarray .int, 2) := by decide +kernel
theorem dX8_init_94 : decode cX8_init 94 = .ok (.putfield 44, 3) := by decide +kernel
theorem dX8_init_97 : decode cX8_init 97 = .ok (.aload_n 0, 1) := by decide +kernel
theorem dX8_init_98 : decode cX8_init 98 = .ok (.bipush 6, 2) := by decide +kernel
theorem dX8_init_100 : decode cX8_init 100 = .ok (.newarray .long, 2) := by decide +kernel
theorem dX8_init_102 : decode cX8_init 102 = .ok (.putfield 47, 3) := by decide +kernel
theorem dX8_init_105 : decode cX8_init 105 = .ok (.aload_n 0, 1) := by decide +kernel
theorem dX8_init_106 : decode cX8_init 106 = .ok (.sipush 256, 3) := by decide +kernel
theorem dX8_init_109 : decode cX8_init 109 = .ok (.newarray .long, 2) := by decide +kernel
theorem dX8_init_111 : decode cX8_init 111 = .ok (.putfield 51, 3) := by decide +kernel
theorem dX8_init_114 : decode cX8_init 114 = .ok (.aload_n 0, 1) := by decide +kernel
theorem dX8_init_115 : decode cX8_init 115 = .ok (.sipush 1386, 3) := by decide +kernel
theorem dX8_init_118 : decode cX8_init 118 = .ok (.newarray .long, 2) := by decide +kernel
theorem dX8_init_120 : decode cX8_init 120 = .ok (.putfield 54, 3) := by decide +kernel
theorem dX8_init_123 : decode cX8_init 123 = .ok (.aload_n 0, 1) := by decide +kernel
theorem dX8_init_124 : decode cX8_init 124 = .ok (.sipush 462, 3) := by decide +kernel
theorem dX8_init_127 : decode cX8_init 127 = .ok (.newarray .long, 2) := by decide +kernel
theorem dX8_init_129 : decode cX8_init 129 = .ok (.putfield 57, 3) := by decide +kernel
theorem dX8_init_132 : decode cX8_init 132 = .ok (.aload_n 0, 1) := by decide +kernel
theorem dX8_init_133 : decode cX8_init 133 = .ok (.ldc 60, 2) := by decide +kernel
theorem dX8_init_135 : decode cX8_init 135 = .ok (.newarray .long, 2) := by decide +kernel
theorem dX8_init_137 : decode cX8_init 137 = .ok (.putfield 61, 3) := by decide +kernel
theorem dX8_init_140 : decode cX8_init 140 = .ok (.aload_n 0, 1) := by decide +kernel
theorem dX8_init_141 : decode cX8_init 141 = .ok (.ldc 60, 2) := by decide +kernel
theorem dX8_init_143 : decode cX8_init 143 = .ok (.newarray .boolean, 2) := by decide +kernel
theorem dX8_init_145 : decode cX8_init 145 = .ok (.putfield 64, 3) := by decide +kernel
theorem dX8_init_148 : decode cX8_init 148 = .ok (.aload_n 0, 1) := by decide +kernel
theorem dX8_init_149 : decode cX8_init 149 = .ok (.bipush 6, 2) := by decide +kernel
theorem dX8_init_151 : decode cX8_init 151 = .ok (.newarray .int, 2) := by decide +kernel
theorem dX8_init_153 : decode cX8_init 153 = .ok (.putfield 68, 3) := by decide +kernel
theorem dX8_init_156 : decode cX8_init 156 = .ok (.iconst 0, 1) := by decide +kernel
theorem dX8_init_157 : decode cX8_init 157 = .ok (.istore_n 1, 1) := by decide +kernel
theorem dX8_init_158 : decode cX8_init 158 = .ok (.iload_n 1, 1) := by decide +kernel
theorem dX8_init_159 : decode cX8_init 159 = .ok (.bipush 8, 2) := by decide +kernel
theorem dX8_init_161 : decode cX8_init 161 = .ok (.if_icmp .ge 16, 3) := by decide +kernel
theorem dX8_init_164 : decode cX8_init 164 = .ok (.aload_n 0, 1) := by decide +kernel
theorem dX8_init_165 : decode cX8_init 165 = .ok (.getfield 44, 3) := by decide +kernel
theorem dX8_init_168 : decode cX8_init 168 = .ok (.iload_n 1, 1) := by decide +kernel
theorem dX8_init_169 : decode cX8_init 169 = .ok (.iconst (-1), 1) := by decide +kernel
theorem dX8_init_170 : decode cX8_init 170 = .ok (.iastore, 1) := by decide +kernel
theorem dX8_init_171 : decode cX8_init 171 = .ok (.iinc 1 1, 3) := by decide +kernel
theorem dX8_init_174 : decode cX8_init 174 = .ok (.goto (-16), 3) := by decide +kernel
theorem dX8_init_177 : decode cX8_init 177 = .ok (.return_, 1) := by decide +kernel
theorem dX8_in_0 : decode cX8_in 0 = .ok (.iload_n 0, 1) := by decide +kernel
theorem dX8_in_1 : decode cX8_in 1 = .ok (.iload_n 1, 1) := by decide +kernel
theorem dX8_in_2 : decode cX8_in 2 = .ok (.if_icmp .lt 12, 3) := by decide +kernel
theorem dX8_in_5 : decode cX8_in 5 = .ok (.iload_n 0, 1) := by decide +kernel
theorem dX8_in_6 : decode cX8_in 6 = .ok (.iload_n 2, 1) := by decide +kernel
theorem dX8_in_7 : decode cX8_in 7 = .ok (.if_icmp .gt 7, 3) := by decide +kernel
theorem dX8_in_10 : decode cX8_in 10 = .ok (.iconst 1, 1) := by decide +kernel
theorem dX8_in_11 : decode cX8_in 11 = .ok (.goto 4, 3) := by decide +kernel
theorem dX8_in_14 : decode cX8_in 14 = .ok (.iconst 0, 1) := by decide +kernel
theorem dX8_in_15 : decode cX8_in 15 = .ok (.ireturn, 1) := by decide +kernel
theorem dX8_placeOf_0 : decode cX8_placeOf 0 = .ok (.iconst 0, 1) := by decide +kernel
theorem dX8_placeOf_1 : decode cX8_placeOf 1 = .ok (.istore_n 3, 1) := by decide +kernel
theorem dX8_placeOf_2 : decode cX8_placeOf 2 = .ok (.iload_n 3, 1) := by decide +kernel
theorem dX8_placeOf_3 : decode cX8_placeOf 3 = .ok (.aload_n 0, 1) := by decide +kernel
theorem dX8_placeOf_4 : decode cX8_placeOf 4 = .ok (.getfield 71, 3) := by decide +kernel
theorem dX8_placeOf_7 : decode cX8_placeOf 7 = .ok (.if_icmp .ge 80, 3) := by decide +kernel
theorem dX8_placeOf_10 : decode cX8_placeOf 10 = .ok (.aload_n 0, 1) := by decide +kernel
theorem dX8_placeOf_11 : decode cX8_placeOf 11 = .ok (.getfield 32, 3) := by decide +kernel
theorem dX8_placeOf_14 : decode cX8_placeOf 14 = .ok (.iload_n 3, 1) := by decide +kernel
theorem dX8_placeOf_15 : decode cX8_placeOf 15 = .ok (.iaload, 1) := by decide +kernel
theorem dX8_placeOf_16 : decode cX8_placeOf 16 = .ok (.iload_n 2, 1) := by decide +kernel
theorem dX8_placeOf_17 : decode cX8_placeOf 17 = .ok (.if_icmp .ne 7, 3) := by decide +kernel
theorem dX8_placeOf_20 : decode cX8_placeOf 20 = .ok (.iconst 1, 1) := by decide +kernel
theorem dX8_placeOf_21 : decode cX8_placeOf 21 = .ok (.goto 4, 3) := by decide +kernel
theorem dX8_placeOf_24 : decode cX8_placeOf 24 = .ok (.iconst 0, 1) := by decide +kernel
theorem dX8_placeOf_25 : decode cX8_placeOf 25 = .ok (.istore 4, 2) := by decide +kernel
theorem dX8_placeOf_27 : decode cX8_placeOf 27 = .ok (.iconst 0, 1) := by decide +kernel
theorem dX8_placeOf_28 : decode cX8_placeOf 28 = .ok (.istore 5, 2) := by decide +kernel
theorem dX8_placeOf_30 : decode cX8_placeOf 30 = .ok (.iload 5, 2) := by decide +kernel
theorem dX8_placeOf_32 : decode cX8_placeOf 32 = .ok (.bipush 6, 2) := by decide +kernel
theorem dX8_placeOf_34 : decode cX8_placeOf 34 = .ok (.if_icmp .ge 40, 3) := by decide +kernel
theorem dX8_placeOf_37 : decode cX8_placeOf 37 = .ok (.iload 4, 2) := by decide +kernel
theorem dX8_placeOf_39 : decode cX8_placeOf 39 = .ok (.ifCond .eq 35, 3) := by decide +kernel
theorem dX8_placeOf_42 : decode cX8_placeOf 42 = .ok (.aload_n 0, 1) := by decide +kernel
theorem dX8_placeOf_43 : decode cX8_placeOf 43 = .ok (.getfield 29, 3) := by decide +kernel
theorem dX8_placeOf_46 : decode cX8_placeOf 46 = .ok (.bipush 6, 2) := by decide +kernel
theorem dX8_placeOf_48 : decode cX8_placeOf 48 = .ok (.iload_n 3, 1) := by decide +kernel
theorem dX8_placeOf_49 : decode cX8_placeOf 49 = .ok (.imul, 1) := by decide +kernel
theorem dX8_placeOf_50 : decode cX8_placeOf 50 = .ok (.iload 5, 2) := by decide +kernel
theorem dX8_placeOf_52 : decode cX8_placeOf 52 = .ok (.iadd, 1) := by decide +kernel
theorem dX8_placeOf_53 : decode cX8_placeOf 53 = .ok (.iaload, 1) := by decide +kernel
theorem dX8_placeOf_54 : decode cX8_placeOf 54 = .ok (.aload_n 1, 1) := by decide +kernel
theorem dX8_placeOf_55 : decode cX8_placeOf 55 = .ok (.iload 5, 2) := by decide +kernel
theorem dX8_placeOf_57 : decode cX8_placeOf 57 = .ok (.iaload, 1) := by decide +kernel
theorem dX8_placeOf_58 : decode cX8_placeOf 58 = .ok (.if_icmp .ne 7, 3) := by decide +kernel
theorem dX8_placeOf_61 : decode cX8_placeOf 61 = .ok (.iconst 1, 1) := by decide +kernel
theorem dX8_placeOf_62 : decode cX8_placeOf 62 = .ok (.goto 4, 3) := by decide +kernel
theorem dX8_placeOf_65 : decode cX8_placeOf 65 = .ok (.iconst 0, 1) := by decide +kernel
theorem dX8_placeOf_66 : decode cX8_placeOf 66 = .ok (.istore 4, 2) := by decide +kernel
theorem dX8_placeOf_68 : decode cX8_placeOf 68 = .ok (.iinc 5 1, 3) := by decide +kernel
theorem dX8_placeOf_71 : decode cX8_placeOf 71 = .ok (.goto (-41), 3) := by decide +kernel
theorem dX8_placeOf_74 : decode cX8_placeOf 74 = .ok (.iload 4, 2) := by decide +kernel
theorem dX8_placeOf_76 : decode cX8_placeOf 76 = .ok (.ifCond .eq 5, 3) := by decide +kernel
theorem dX8_placeOf_79 : decode cX8_placeOf 79 = .ok (.iload_n 3, 1) := by decide +kernel
theorem dX8_placeOf_80 : decode cX8_placeOf 80 = .ok (.ireturn, 1) := by decide +kernel
theorem dX8_placeOf_81 : decode cX8_placeOf 81 = .ok (.iinc 3 1, 3) := by decide +kernel
theorem dX8_placeOf_84 : decode cX8_placeOf 84 = .ok (.goto (-82), 3) := by decide +kernel
theorem dX8_placeOf_87 : decode cX8_placeOf 87 = .ok (.iconst (-1), 1) := by decide +kernel
theorem dX8_placeOf_88 : decode cX8_placeOf 88 = .ok (.ireturn, 1) := by decide +kernel
theorem dX8_findHeaps_0 : decode cX8_findHeaps 0 = .ok (.aload_n 0, 1) := by decide +kernel
theorem dX8_findHeaps_1 : decode cX8_findHeaps 1 = .ok (.iconst 1, 1) := by decide +kernel
theorem dX8_findHeaps_2 : decode cX8_findHeaps 2 = .ok (.putfield 71, 3) := by decide +kernel
theorem dX8_findHeaps_5 : decode cX8_findHeaps 5 = .ok (.aload_n 0, 1) := by decide +kernel
theorem dX8_findHeaps_6 : decode cX8_findHeaps 6 = .ok (.getfield 32, 3) := by decide +kernel
theorem dX8_findHeaps_9 : decode cX8_findHeaps 9 = .ok (.iconst 0, 1) := by decide +kernel
theorem dX8_findHeaps_10 : decode cX8_findHeaps 10 = .ok (.iconst 0, 1) := by decide +kernel
theorem dX8_findHeaps_11 : decode cX8_findHeaps 11 = .ok (.iastore, 1) := by decide +kernel
theorem dX8_findHeaps_12 : decode cX8_findHeaps 12 = .ok (.aload_n 0, 1) := by decide +kernel
theorem dX8_findHeaps_13 : decode cX8_findHeaps 13 = .ok (.getfield 35, 3) := by decide +kernel
theorem dX8_findHeaps_16 : decode cX8_findHeaps 16 = .ok (.iconst 0, 1) := by decide +kernel
theorem dX8_findHeaps_17 : decode cX8_findHeaps 17 = .ok (.iconst 0, 1) := by decide +kernel
theorem dX8_findHeaps_18 : decode cX8_findHeaps 18 = .ok (.iastore, 1) := by decide +kernel
theorem dX8_findHeaps_19 : decode cX8_findHeaps 19 = .ok (.iconst 0, 1) := by decide +kernel
theorem dX8_findHeaps_20 : decode cX8_findHeaps 20 = .ok (.istore_n 1, 1) := by decide +kernel
theorem dX8_findHeaps_21 : decode cX8_findHeaps 21 = .ok (.iload_n 1, 1) := by decide +kernel
theorem dX8_findHeaps_22 : decode cX8_findHeaps 22 = .ok (.bipush 6, 2) := by decide +kernel
theorem dX8_findHeaps_24 : decode cX8_findHeaps 24 = .ok (.if_icmp .ge 16, 3) := by decide +kernel
theorem dX8_findHeaps_27 : decode cX8_findHeaps 27 = .ok (.aload_n 0, 1) := by decide +kernel
theorem dX8_findHeaps_28 : decode cX8_findHeaps 28 = .ok (.getfield 29, 3) := by decide +kernel
theorem dX8_findHeaps_31 : decode cX8_findHeaps 31 = .ok (.iload_n 1, 1) := by decide +kernel
theorem dX8_findHeaps_32 : decode cX8_findHeaps 32 = .ok (.iconst 0, 1) := by decide +kernel
theorem dX8_findHeaps_33 : decode cX8_findHeaps 33 = .ok (.iastore, 1) := by decide +kernel
theorem dX8_findHeaps_34 : decode cX8_findHeaps 34 = .ok (.iinc 1 1, 3) := by decide +kernel
theorem dX8_findHeaps_37 : decode cX8_findHeaps 37 = .ok (.goto (-16), 3) := by decide +kernel
theorem dX8_findHeaps_40 : decode cX8_findHeaps 40 = .ok (.iconst 0, 1) := by decide +kernel
theorem dX8_findHeaps_41 : decode cX8_findHeaps 41 = .ok (.istore_n 1, 1) := by decide +kernel
theorem dX8_findHeaps_42 : decode cX8_findHeaps 42 = .ok (.iload_n 1, 1) := by decide +kernel
theorem dX8_findHeaps_43 : decode cX8_findHeaps 43 = .ok (.aload_n 0, 1) := by decide +kernel
theorem dX8_findHeaps_44 : decode cX8_findHeaps 44 = .ok (.getfield 71, 3) := by decide +kernel
theorem dX8_findHeaps_47 : decode cX8_findHeaps 47 = .ok (.if_icmp .ge 222, 3) := by decide +kernel
theorem dX8_findHeaps_50 : decode cX8_findHeaps 50 = .ok (.iconst 0, 1) := by decide +kernel
theorem dX8_findHeaps_51 : decode cX8_findHeaps 51 = .ok (.istore_n 2, 1) := by decide +kernel
theorem dX8_findHeaps_52 : decode cX8_findHeaps 52 = .ok (.iload_n 2, 1) := by decide +kernel
theorem dX8_findHeaps_53 : decode cX8_findHeaps 53 = .ok (.aload_n 0, 1) := by decide +kernel
theorem dX8_findHeaps_54 : decode cX8_findHeaps 54 = .ok (.getfield 13, 3) := by decide +kernel
theorem dX8_findHeaps_57 : decode cX8_findHeaps 57 = .ok (.if_icmp .ge 206, 3) := by decide +kernel
theorem dX8_findHeaps_60 : decode cX8_findHeaps 60 = .ok (.aload_n 0, 1) := by decide +kernel
theorem dX8_findHeaps_61 : decode cX8_findHeaps 61 = .ok (.getfield 32, 3) := by decide +kernel
theorem dX8_findHeaps_64 : decode cX8_findHeaps 64 = .ok (.iload_n 1, 1) := by decide +kernel
theorem dX8_findHeaps_65 : decode cX8_findHeaps 65 = .ok (.iaload, 1) := by decide +kernel
theorem dX8_findHeaps_66 : decode cX8_findHeaps 66 = .ok (.aload_n 0, 1) := by decide +kernel
theorem dX8_findHeaps_67 : decode cX8_findHeaps 67 = .ok (.getfield 7, 3) := by decide +kernel
theorem dX8_findHeaps_70 : decode cX8_findHeaps 70 = .ok (.if_icmp .ge 193, 3) := by decide +kernel
theorem dX8_findHeaps_73 : decode cX8_findHeaps 73 = .ok (.iconst 0, 1) := by decide +kernel
theorem dX8_findHeaps_74 : decode cX8_findHeaps 74 = .ok (.istore_n 3, 1) := by decide +kernel
theorem dX8_findHeaps_75 : decode cX8_findHeaps 75 = .ok (.iload_n 3, 1) := by decide +kernel
theorem dX8_findHeaps_76 : decode cX8_findHeaps 76 = .ok (.bipush 6, 2) := by decide +kernel
theorem dX8_findHeaps_78 : decode cX8_findHeaps 78 = .ok (.if_icmp .ge 37, 3) := by decide +kernel
theorem dX8_findHeaps_81 : decode cX8_findHeaps 81 = .ok (.aload_n 0, 1) := by decide +kernel
theorem dX8_findHeaps_82 : decode cX8_findHeaps 82 = .ok (.getfield 68, 3) := by decide +kernel
theorem dX8_findHeaps_85 : decode cX8_findHeaps 85 = .ok (.iload_n 3, 1) := by decide +kernel
theorem dX8_findHeaps_86 : decode cX8_findHeaps 86 = .ok (.aload_n 0, 1) := by decide +kernel
theorem dX8_findHeaps_87 : decode cX8_findHeaps 87 = .ok (.getfield 29, 3) := by decide +kernel
theorem dX8_findHeaps_90 : decode cX8_findHeaps 90 = .ok (.bipush 6, 2) := by decide +kernel
theorem dX8_findHeaps_92 : decode cX8_findHeaps 92 = .ok (.iload_n 1, 1) := by decide +kernel
theorem dX8_findHeaps_93 : decode cX8_findHeaps 93 = .ok (.imul, 1) := by decide +kernel
theorem dX8_findHeaps_94 : decode cX8_findHeaps 94 = .ok (.iload_n 3, 1) := by decide +kernel
theorem dX8_findHeaps_95 : decode cX8_findHeaps 95 = .ok (.iadd, 1) := by decide +kernel
theorem dX8_findHeaps_96 : decode cX8_findHeaps 96 = .ok (.iaload, 1) := by decide +kernel
theorem dX8_findHeaps_97 : decode cX8_findHeaps 97 = .ok (.iload_n 3, 1) := by decide +kernel
theorem dX8_findHeaps_98 : decode cX8_findHeaps 98 = .ok (.iload_n 2, 1) := by decide +kernel
theorem dX8_findHeaps_99 : decode cX8_findHeaps 99 = .ok (.if_icmp .ne 7, 3) := by decide +kernel
theorem dX8_findHeaps_102 : decode cX8_findHeaps 102 = .ok (.iconst 1, 1) := by decide +kernel
theorem dX8_findHeaps_103 : decode cX8_findHeaps 103 = .ok (.goto 4, 3) := by decide +kernel
end
section
theorem dX8_findHeaps_106 : decode cX8_findHeaps 106 = .ok (.iconst 0, 1) := by decide +kernel
theorem dX8_findHeaps_107 : decode cX8_findHeaps 107 = .ok (.iadd, 1) := by decide +kernel
theorem dX8_findHeaps_108 : decode cX8_findHeaps 108 = .ok (.iastore, 1) := by decide +kernel
theorem dX8_findHeaps_109 : decode cX8_findHeaps 109 = .ok (.iinc 3 1, 3) := by decide +kernel
theorem dX8_findHeaps_112 : decode cX8_findHeaps 112 = .ok (.goto (-37), 3) := by decide +kernel
theorem dX8_findHeaps_115 : decode cX8_findHeaps 115 = .ok (.aload_n 0, 1) := by decide +kernel
theorem dX8_findHeaps_116 : decode cX8_findHeaps 116 = .ok (.aload_n 0, 1) := by decide +kernel
theorem dX8_findHeaps_117 : decode cX8_findHeaps 117 = .ok (.getfield 68, 3) := by decide +kernel
theorem dX8_findHeaps_120 : decode cX8_findHeaps 120 = .ok (.aload_n 0, 1) := by decide +kernel
theorem dX8_findHeaps_121 : decode cX8_findHeaps 121 = .ok (.getfield 32, 3) := by decide +kernel
theorem dX8_findHeaps_124 : decode cX8_findHeaps 124 = .ok (.iload_n 1, 1) := by decide +kernel
theorem dX8_findHeaps_125 : decode cX8_findHeaps 125 = .ok (.iaload, 1) := by decide +kernel
theorem dX8_findHeaps_126 : decode cX8_findHeaps 126 = .ok (.iconst 1, 1) := by decide +kernel
theorem dX8_findHeaps_127 : decode cX8_findHeaps 127 = .ok (.iadd, 1) := by decide +kernel
theorem dX8_findHeaps_128 : decode cX8_findHeaps 128 = .ok (.invokevirtual 74, 3) := by decide +kernel
theorem dX8_findHeaps_131 : decode cX8_findHeaps 131 = .ok (.istore_n 3, 1) := by decide +kernel
theorem dX8_findHeaps_132 : decode cX8_findHeaps 132 = .ok (.iload_n 3, 1) := by decide +kernel
theorem dX8_findHeaps_133 : decode cX8_findHeaps 133 = .ok (.iconst (-1), 1) := by decide +kernel
theorem dX8_findHeaps_134 : decode cX8_findHeaps 134 = .ok (.if_icmp .ne 111, 3) := by decide +kernel
theorem dX8_findHeaps_137 : decode cX8_findHeaps 137 = .ok (.aload_n 0, 1) := by decide +kernel
theorem dX8_findHeaps_138 : decode cX8_findHeaps 138 = .ok (.getfield 71, 3) := by decide +kernel
theorem dX8_findHeaps_141 : decode cX8_findHeaps 141 = .ok (.istore_n 3, 1) := by decide +kernel
theorem dX8_findHeaps_142 : decode cX8_findHeaps 142 = .ok (.aload_n 0, 1) := by decide +kernel
theorem dX8_findHeaps_143 : decode cX8_findHeaps 143 = .ok (.getfield 32, 3) := by decide +kernel
theorem dX8_findHeaps_146 : decode cX8_findHeaps 146 = .ok (.iload_n 3, 1) := by decide +kernel
theorem dX8_findHeaps_147 : decode cX8_findHeaps 147 = .ok (.aload_n 0, 1) := by decide +kernel
theorem dX8_findHeaps_148 : decode cX8_findHeaps 148 = .ok (.getfield 32, 3) := by decide +kernel
theorem dX8_findHeaps_151 : decode cX8_findHeaps 151 = .ok (.iload_n 1, 1) := by decide +kernel
theorem dX8_findHeaps_152 : decode cX8_findHeaps 152 = .ok (.iaload, 1) := by decide +kernel
theorem dX8_findHeaps_153 : decode cX8_findHeaps 153 = .ok (.iconst 1, 1) := by decide +kernel
theorem dX8_findHeaps_154 : decode cX8_findHeaps 154 = .ok (.iadd, 1) := by decide +kernel
theorem dX8_findHeaps_155 : decode cX8_findHeaps 155 = .ok (.iastore, 1) := by decide +kernel
theorem dX8_findHeaps_156 : decode cX8_findHeaps 156 = .ok (.iconst 0, 1) := by decide +kernel
theorem dX8_findHeaps_157 : decode cX8_findHeaps 157 = .ok (.istore 4, 2) := by decide +kernel
theorem dX8_findHeaps_159 : decode cX8_findHeaps 159 = .ok (.iconst 0, 1) := by decide +kernel
theorem dX8_findHeaps_160 : decode cX8_findHeaps 160 = .ok (.istore 5, 2) := by decide +kernel
theorem dX8_findHeaps_162 : decode cX8_findHeaps 162 = .ok (.iload 5, 2) := by decide +kernel
theorem dX8_findHeaps_164 : decode cX8_findHeaps 164 = .ok (.bipush 6, 2) := by decide +kernel
theorem dX8_findHeaps_166 : decode cX8_findHeaps 166 = .ok (.if_icmp .ge 61, 3) := by decide +kernel
theorem dX8_findHeaps_169 : decode cX8_findHeaps 169 = .ok (.aload_n 0, 1) := by decide +kernel
theorem dX8_findHeaps_170 : decode cX8_findHeaps 170 = .ok (.getfield 29, 3) := by decide +kernel
theorem dX8_findHeaps_173 : decode cX8_findHeaps 173 = .ok (.bipush 6, 2) := by decide +kernel
theorem dX8_findHeaps_175 : decode cX8_findHeaps 175 = .ok (.iload_n 3, 1) := by decide +kernel
theorem dX8_findHeaps_176 : decode cX8_findHeaps 176 = .ok (.imul, 1) := by decide +kernel
theorem dX8_findHeaps_177 : decode cX8_findHeaps 177 = .ok (.iload 5, 2) := by decide +kernel
theorem dX8_findHeaps_179 : decode cX8_findHeaps 179 = .ok (.iadd, 1) := by decide +kernel
theorem dX8_findHeaps_180 : decode cX8_findHeaps 180 = .ok (.aload_n 0, 1) := by decide +kernel
theorem dX8_findHeaps_181 : decode cX8_findHeaps 181 = .ok (.getfield 68, 3) := by decide +kernel
theorem dX8_findHeaps_184 : decode cX8_findHeaps 184 = .ok (.iload 5, 2) := by decide +kernel
theorem dX8_findHeaps_186 : decode cX8_findHeaps 186 = .ok (.iaload, 1) := by decide +kernel
theorem dX8_findHeaps_187 : decode cX8_findHeaps 187 = .ok (.iastore, 1) := by decide +kernel
theorem dX8_findHeaps_188 : decode cX8_findHeaps 188 = .ok (.iconst 0, 1) := by decide +kernel
theorem dX8_findHeaps_189 : decode cX8_findHeaps 189 = .ok (.istore 6, 2) := by decide +kernel
theorem dX8_findHeaps_191 : decode cX8_findHeaps 191 = .ok (.iload 6, 2) := by decide +kernel
theorem dX8_findHeaps_193 : decode cX8_findHeaps 193 = .ok (.aload_n 0, 1) := by decide +kernel
theorem dX8_findHeaps_194 : decode cX8_findHeaps 194 = .ok (.getfield 68, 3) := by decide +kernel
theorem dX8_findHeaps_197 : decode cX8_findHeaps 197 = .ok (.iload 5, 2) := by decide +kernel
theorem dX8_findHeaps_199 : decode cX8_findHeaps 199 = .ok (.iaload, 1) := by decide +kernel
theorem dX8_findHeaps_200 : decode cX8_findHeaps 200 = .ok (.if_icmp .ge 21, 3) := by decide +kernel
theorem dX8_findHeaps_203 : decode cX8_findHeaps 203 = .ok (.bipush 10, 2) := by decide +kernel
theorem dX8_findHeaps_205 : decode cX8_findHeaps 205 = .ok (.iload 4, 2) := by decide +kernel
theorem dX8_findHeaps_207 : decode cX8_findHeaps 207 = .ok (.imul, 1) := by decide +kernel
theorem dX8_findHeaps_208 : decode cX8_findHeaps 208 = .ok (.iload 5, 2) := by decide +kernel
theorem dX8_findHeaps_210 : decode cX8_findHeaps 210 = .ok (.iadd, 1) := by decide +kernel
theorem dX8_findHeaps_211 : decode cX8_findHeaps 211 = .ok (.iconst 1, 1) := by decide +kernel
theorem dX8_findHeaps_212 : decode cX8_findHeaps 212 = .ok (.iadd, 1) := by decide +kernel
theorem dX8_findHeaps_213 : decode cX8_findHeaps 213 = .ok (.istore 4, 2) := by decide +kernel
theorem dX8_findHeaps_215 : decode cX8_findHeaps 215 = .ok (.iinc 6 1, 3) := by decide +kernel
theorem dX8_findHeaps_218 : decode cX8_findHeaps 218 = .ok (.goto (-27), 3) := by decide +kernel
theorem dX8_findHeaps_221 : decode cX8_findHeaps 221 = .ok (.iinc 5 1, 3) := by decide +kernel
theorem dX8_findHeaps_224 : decode cX8_findHeaps 224 = .ok (.goto (-62), 3) := by decide +kernel
theorem dX8_findHeaps_227 : decode cX8_findHeaps 227 = .ok (.aload_n 0, 1) := by decide +kernel
theorem dX8_findHeaps_228 : decode cX8_findHeaps 228 = .ok (.getfield 35, 3) := by decide +kernel
theorem dX8_findHeaps_231 : decode cX8_findHeaps 231 = .ok (.iload_n 3, 1) := by decide +kernel
theorem dX8_findHeaps_232 : decode cX8_findHeaps 232 = .ok (.iload 4, 2) := by decide +kernel
theorem dX8_findHeaps_234 : decode cX8_findHeaps 234 = .ok (.iastore, 1) := by decide +kernel
theorem dX8_findHeaps_235 : decode cX8_findHeaps 235 = .ok (.aload_n 0, 1) := by decide +kernel
theorem dX8_findHeaps_236 : decode cX8_findHeaps 236 = .ok (.dup, 1) := by decide +kernel
theorem dX8_findHeaps_237 : decode cX8_findHeaps 237 = .ok (.getfield 71, 3) := by decide +kernel
theorem dX8_findHeaps_240 : decode cX8_findHeaps 240 = .ok (.iconst 1, 1) := by decide +kernel
theorem dX8_findHeaps_241 : decode cX8_findHeaps 241 = .ok (.iadd, 1) := by decide +kernel
theorem dX8_findHeaps_242 : decode cX8_findHeaps 242 = .ok (.putfield 71, 3) := by decide +kernel
theorem dX8_findHeaps_245 : decode cX8_findHeaps 245 = .ok (.aload_n 0, 1) := by decide +kernel
theorem dX8_findHeaps_246 : decode cX8_findHeaps 246 = .ok (.getfield 38, 3) := by decide +kernel
theorem dX8_findHeaps_249 : decode cX8_findHeaps 249 = .ok (.bipush 6, 2) := by decide +kernel
theorem dX8_findHeaps_251 : decode cX8_findHeaps 251 = .ok (.iload_n 1, 1) := by decide +kernel
theorem dX8_findHeaps_252 : decode cX8_findHeaps 252 = .ok (.imul, 1) := by decide +kernel
theorem dX8_findHeaps_253 : decode cX8_findHeaps 253 = .ok (.iload_n 2, 1) := by decide +kernel
theorem dX8_findHeaps_254 : decode cX8_findHeaps 254 = .ok (.iadd, 1) := by decide +kernel
theorem dX8_findHeaps_255 : decode cX8_findHeaps 255 = .ok (.iload_n 3, 1) := by decide +kernel
theorem dX8_findHeaps_256 : decode cX8_findHeaps 256 = .ok (.iastore, 1) := by decide +kernel
theorem dX8_findHeaps_257 : decode cX8_findHeaps 257 = .ok (.iinc 2 1, 3) := by decide +kernel
theorem dX8_findHeaps_260 : decode cX8_findHeaps 260 = .ok (.goto (-208), 3) := by decide +kernel
theorem dX8_findHeaps_263 : decode cX8_findHeaps 263 = .ok (.iinc 1 1, 3) := by decide +kernel
theorem dX8_findHeaps_266 : decode cX8_findHeaps 266 = .ok (.goto (-224), 3) := by decide +kernel
theorem dX8_findHeaps_269 : decode cX8_findHeaps 269 = .ok (.return_, 1) := by decide +kernel
theorem dX8_heapOf_0 : decode cX8_heapOf 0 = .ok (.iload_n 1, 1) := by decide +kernel
theorem dX8_heapOf_1 : decode cX8_heapOf 1 = .ok (.ifCond .ge 5, 3) := by decide +kernel
theorem dX8_heapOf_4 : decode cX8_heapOf 4 = .ok (.iconst (-1), 1) := by decide +kernel
theorem dX8_heapOf_5 : decode cX8_heapOf 5 = .ok (.ireturn, 1) := by decide +kernel
theorem dX8_heapOf_6 : decode cX8_heapOf 6 = .ok (.iconst 0, 1) := by decide +kernel
theorem dX8_heapOf_7 : decode cX8_heapOf 7 = .ok (.istore_n 2, 1) := by decide +kernel
theorem dX8_heapOf_8 : decode cX8_heapOf 8 = .ok (.iload_n 1, 1) := by decide +kernel
theorem dX8_heapOf_9 : decode cX8_heapOf 9 = .ok (.istore_n 3, 1) := by decide +kernel
theorem dX8_heapOf_10 : decode cX8_heapOf 10 = .ok (.iload_n 3, 1) := by decide +kernel
theorem dX8_heapOf_11 : decode cX8_heapOf 11 = .ok (.ifCond .le 62, 3) := by decide +kernel
theorem dX8_heapOf_14 : decode cX8_heapOf 14 = .ok (.iload_n 3, 1) := by decide +kernel
theorem dX8_heapOf_15 : decode cX8_heapOf 15 = .ok (.bipush 10, 2) := by decide +kernel
theorem dX8_heapOf_17 : decode cX8_heapOf 17 = .ok (.irem, 1) := by decide +kernel
theorem dX8_heapOf_18 : decode cX8_heapOf 18 = .ok (.istore 4, 2) := by decide +kernel
theorem dX8_heapOf_20 : decode cX8_heapOf 20 = .ok (.iload 4, 2) := by decide +kernel
theorem dX8_heapOf_22 : decode cX8_heapOf 22 = .ok (.iconst 1, 1) := by decide +kernel
theorem dX8_heapOf_23 : decode cX8_heapOf 23 = .ok (.if_icmp .lt 25, 3) := by decide +kernel
theorem dX8_heapOf_26 : decode cX8_heapOf 26 = .ok (.iload 4, 2) := by decide +kernel
theorem dX8_heapOf_28 : decode cX8_heapOf 28 = .ok (.aload_n 0, 1) := by decide +kernel
theorem dX8_heapOf_29 : decode cX8_heapOf 29 = .ok (.getfield 13, 3) := by decide +kernel
theorem dX8_heapOf_32 : decode cX8_heapOf 32 = .ok (.if_icmp .gt 16, 3) := by decide +kernel
theorem dX8_heapOf_35 : decode cX8_heapOf 35 = .ok (.aload_n 0, 1) := by decide +kernel
theorem dX8_heapOf_36 : decode cX8_heapOf 36 = .ok (.getfield 32, 3) := by decide +kernel
theorem dX8_heapOf_39 : decode cX8_heapOf 39 = .ok (.iload_n 2, 1) := by decide +kernel
theorem dX8_heapOf_40 : decode cX8_heapOf 40 = .ok (.iaload, 1) := by decide +kernel
theorem dX8_heapOf_41 : decode cX8_heapOf 41 = .ok (.aload_n 0, 1) := by decide +kernel
theorem dX8_heapOf_42 : decode cX8_heapOf 42 = .ok (.getfield 7, 3) := by decide +kernel
theorem dX8_heapOf_45 : decode cX8_heapOf 45 = .ok (.if_icmp .ne 5, 3) := by decide +kernel
theorem dX8_heapOf_48 : decode cX8_heapOf 48 = .ok (.iconst (-1), 1) := by decide +kernel
theorem dX8_heapOf_49 : decode cX8_heapOf 49 = .ok (.ireturn, 1) := by decide +kernel
theorem dX8_heapOf_50 : decode cX8_heapOf 50 = .ok (.aload_n 0, 1) := by decide +kernel
theorem dX8_heapOf_51 : decode cX8_heapOf 51 = .ok (.getfield 38, 3) := by decide +kernel
theorem dX8_heapOf_54 : decode cX8_heapOf 54 = .ok (.bipush 6, 2) := by decide +kernel
theorem dX8_heapOf_56 : decode cX8_heapOf 56 = .ok (.iload_n 2, 1) := by decide +kernel
theorem dX8_heapOf_57 : decode cX8_heapOf 57 = .ok (.imul, 1) := by decide +kernel
theorem dX8_heapOf_58 : decode cX8_heapOf 58 = .ok (.iload 4, 2) := by decide +kernel
theorem dX8_heapOf_60 : decode cX8_heapOf 60 = .ok (.iadd, 1) := by decide +kernel
theorem dX8_heapOf_61 : decode cX8_heapOf 61 = .ok (.iconst 1, 1) := by decide +kernel
theorem dX8_heapOf_62 : decode cX8_heapOf 62 = .ok (.isub, 1) := by decide +kernel
theorem dX8_heapOf_63 : decode cX8_heapOf 63 = .ok (.iaload, 1) := by decide +kernel
theorem dX8_heapOf_64 : decode cX8_heapOf 64 = .ok (.istore_n 2, 1) := by decide +kernel
theorem dX8_heapOf_65 : decode cX8_heapOf 65 = .ok (.iload_n 3, 1) := by decide +kernel
theorem dX8_heapOf_66 : decode cX8_heapOf 66 = .ok (.bipush 10, 2) := by decide +kernel
theorem dX8_heapOf_68 : decode cX8_heapOf 68 = .ok (.idiv, 1) := by decide +kernel
theorem dX8_heapOf_69 : decode cX8_heapOf 69 = .ok (.istore_n 3, 1) := by decide +kernel
theorem dX8_heapOf_70 : decode cX8_heapOf 70 = .ok (.goto (-60), 3) := by decide +kernel
theorem dX8_heapOf_73 : decode cX8_heapOf 73 = .ok (.iload_n 2, 1) := by decide +kernel
theorem dX8_heapOf_74 : decode cX8_heapOf 74 = .ok (.ireturn, 1) := by decide +kernel
theorem dX8_pointsIn_0 : decode cX8_pointsIn 0 = .ok (.iconst 0, 1) := by decide +kernel
theorem dX8_pointsIn_1 : decode cX8_pointsIn 1 = .ok (.istore_n 3, 1) := by decide +kernel
theorem dX8_pointsIn_2 : decode cX8_pointsIn 2 = .ok (.iconst 0, 1) := by decide +kernel
theorem dX8_pointsIn_3 : decode cX8_pointsIn 3 = .ok (.istore 4, 2) := by decide +kernel
theorem dX8_pointsIn_5 : decode cX8_pointsIn 5 = .ok (.iconst 0, 1) := by decide +kernel
theorem dX8_pointsIn_6 : decode cX8_pointsIn 6 = .ok (.istore 5, 2) := by decide +kernel
theorem dX8_pointsIn_8 : decode cX8_pointsIn 8 = .ok (.iconst 0, 1) := by decide +kernel
theorem dX8_pointsIn_9 : decode cX8_pointsIn 9 = .ok (.istore 6, 2) := by decide +kernel
theorem dX8_pointsIn_11 : decode cX8_pointsIn 11 = .ok (.iconst 0, 1) := by decide +kernel
theorem dX8_pointsIn_12 : decode cX8_pointsIn 12 = .ok (.istore 7, 2) := by decide +kernel
theorem dX8_pointsIn_14 : decode cX8_pointsIn 14 = .ok (.iconst 0, 1) := by decide +kernel
theorem dX8_pointsIn_15 : decode cX8_pointsIn 15 = .ok (.istore 8, 2) := by decide +kernel
theorem dX8_pointsIn_17 : decode cX8_pointsIn 17 = .ok (.iconst 0, 1) := by decide +kernel
theorem dX8_pointsIn_18 : decode cX8_pointsIn 18 = .ok (.istore 9, 2) := by decide +kernel
theorem dX8_pointsIn_20 : decode cX8_pointsIn 20 = .ok (.iload 9, 2) := by decide +kernel
theorem dX8_pointsIn_22 : decode cX8_pointsIn 22 = .ok (.bipush 6, 2) := by decide +kernel
theorem dX8_pointsIn_24 : decode cX8_pointsIn 24 = .ok (.if_icmp .ge 111, 3) := by decide +kernel
theorem dX8_pointsIn_27 : decode cX8_pointsIn 27 = .ok (.aload_n 0, 1) := by decide +kernel
theorem dX8_pointsIn_28 : decode cX8_pointsIn 28 = .ok (.getfield 29, 3) := by decide +kernel
theorem dX8_pointsIn_31 : decode cX8_pointsIn 31 = .ok (.bipush 6, 2) := by decide +kernel
theorem dX8_pointsIn_33 : decode cX8_pointsIn 33 = .ok (.iload_n 1, 1) := by decide +kernel
theorem dX8_pointsIn_34 : decode cX8_pointsIn 34 = .ok (.imul, 1) := by decide +kernel
theorem dX8_pointsIn_35 : decode cX8_pointsIn 35 = .ok (.iload 9, 2) := by decide +kernel
theorem dX8_pointsIn_37 : decode cX8_pointsIn 37 = .ok (.iadd, 1) := by decide +kernel
theorem dX8_pointsIn_38 : decode cX8_pointsIn 38 = .ok (.iaload, 1) := by decide +kernel
theorem dX8_pointsIn_39 : decode cX8_pointsIn 39 = .ok (.istore 10, 2) := by decide +kernel
theorem dX8_pointsIn_41 : decode cX8_pointsIn 41 = .ok (.iload_n 3, 1) := by decide +kernel
theorem dX8_pointsIn_42 : decode cX8_pointsIn 42 = .ok (.iload 10, 2) := by decide +kernel
theorem dX8_pointsIn_44 : decode cX8_pointsIn 44 = .ok (.iload 9, 2) := by decide +kernel
theorem dX8_pointsIn_46 : decode cX8_pointsIn 46 = .ok (.iconst 1, 1) := by decide +kernel
theorem dX8_pointsIn_47 : decode cX8_pointsIn 47 = .ok (.iadd, 1) := by decide +kernel
theorem dX8_pointsIn_48 : decode cX8_pointsIn 48 = .ok (.imul, 1) := by decide +kernel
theorem dX8_pointsIn_49 : decode cX8_pointsIn 49 = .ok (.iadd, 1) := by decide +kernel
theorem dX8_pointsIn_50 : decode cX8_pointsIn 50 = .ok (.istore_n 3, 1) := by decide +kernel
theorem dX8_pointsIn_51 : decode cX8_pointsIn 51 = .ok (.iload 10, 2) := by decide +kernel
theorem dX8_pointsIn_53 : decode cX8_pointsIn 53 = .ok (.iload 4, 2) := by decide +kernel
theorem dX8_pointsIn_55 : decode cX8_pointsIn 55 = .ok (.if_icmp .le 8, 3) := by decide +kernel
theorem dX8_pointsIn_58 : decode cX8_pointsIn 58 = .ok (.iload 10, 2) := by decide +kernel
theorem dX8_pointsIn_60 : decode cX8_pointsIn 60 = .ok (.goto 5, 3) := by decide +kernel
theorem dX8_pointsIn_63 : decode cX8_pointsIn 63 = .ok (.iload 4, 2) := by decide +kernel
theorem dX8_pointsIn_65 : decode cX8_pointsIn 65 = .ok (.istore 4, 2) := by decide +kernel
theorem dX8_pointsIn_67 : decode cX8_pointsIn 67 = .ok (.iload 5, 2) := by decide +kernel
theorem dX8_pointsIn_69 : decode cX8_pointsIn 69 = .ok (.iload 10, 2) := by decide +kernel
theorem dX8_pointsIn_71 : decode cX8_pointsIn 71 = .ok (.iconst 1, 1) := by decide +kernel
theorem dX8_pointsIn_72 : decode cX8_pointsIn 72 = .ok (.if_icmp .le 7, 3) := by decide +kernel
theorem dX8_pointsIn_75 : decode cX8_pointsIn 75 = .ok (.iconst 1, 1) := by decide +kernel
theorem dX8_pointsIn_76 : decode cX8_pointsIn 76 = .ok (.goto 4, 3) := by decide +kernel
theorem dX8_pointsIn_79 : decode cX8_pointsIn 79 = .ok (.iconst 0, 1) := by decide +kernel
theorem dX8_pointsIn_80 : decode cX8_pointsIn 80 = .ok (.iadd, 1) := by decide +kernel
theorem dX8_pointsIn_81 : decode cX8_pointsIn 81 = .ok (.istore 5, 2) := by decide +kernel
theorem dX8_pointsIn_83 : decode cX8_pointsIn 83 = .ok (.iload 6, 2) := by decide +kernel
theorem dX8_pointsIn_85 : decode cX8_pointsIn 85 = .ok (.iload 10, 2) := by decide +kernel
theorem dX8_pointsIn_87 : decode cX8_pointsIn 87 = .ok (.ifCond .le 7, 3) := by decide +kernel
theorem dX8_pointsIn_90 : decode cX8_pointsIn 90 = .ok (.iconst 1, 1) := by decide +kernel
theorem dX8_pointsIn_91 : decode cX8_pointsIn 91 = .ok (.goto 4, 3) := by decide +kernel
theorem dX8_pointsIn_94 : decode cX8_pointsIn 94 = .ok (.iconst 0, 1) := by decide +kernel
theorem dX8_pointsIn_95 : decode cX8_pointsIn 95 = .ok (.iadd, 1) := by decide +kernel
theorem dX8_pointsIn_96 : decode cX8_pointsIn 96 = .ok (.istore 6, 2) := by decide +kernel
theorem dX8_pointsIn_98 : decode cX8_pointsIn 98 = .ok (.iload 10, 2) := by decide +kernel
theorem dX8_pointsIn_100 : decode cX8_pointsIn 100 = .ok (.ifCond .le 10, 3) := by decide +kernel
theorem dX8_pointsIn_103 : decode cX8_pointsIn 103 = .ok (.iload 7, 2) := by decide +kernel
theorem dX8_pointsIn_105 : decode cX8_pointsIn 105 = .ok (.iconst 1, 1) := by decide +kernel
theorem dX8_pointsIn_106 : decode cX8_pointsIn 106 = .ok (.iadd, 1) := by decide +kernel
theorem dX8_pointsIn_107 : decode cX8_pointsIn 107 = .ok (.goto 4, 3) := by decide +kernel
theorem dX8_pointsIn_110 : decode cX8_pointsIn 110 = .ok (.iconst 0, 1) := by decide +kernel
theorem dX8_pointsIn_111 : decode cX8_pointsIn 111 = .ok (.istore 7, 2) := by decide +kernel
theorem dX8_pointsIn_113 : decode cX8_pointsIn 113 = .ok (.iload 7, 2) := by decide +kernel
theorem dX8_pointsIn_115 : decode cX8_pointsIn 115 = .ok (.iload 8, 2) := by decide +kernel
theorem dX8_pointsIn_117 : decode cX8_pointsIn 117 = .ok (.if_icmp .le 8, 3) := by decide +kernel
theorem dX8_pointsIn_120 : decode cX8_pointsIn 120 = .ok (.iload 7, 2) := by decide +kernel
theorem dX8_pointsIn_122 : decode cX8_pointsIn 122 = .ok (.goto 5, 3) := by decide +kernel
theorem dX8_pointsIn_125 : decode cX8_pointsIn 125 = .ok (.iload 8, 2) := by decide +kernel
theorem dX8_pointsIn_127 : decode cX8_pointsIn 127 = .ok (.istore 8, 2) := by decide +kernel
theorem dX8_pointsIn_129 : decode cX8_pointsIn 129 = .ok (.iinc 9 1, 3) := by decide +kernel
theorem dX8_pointsIn_132 : decode cX8_pointsIn 132 = .ok (.goto (-112), 3) := by decide +kernel
theorem dX8_pointsIn_135 : decode cX8_pointsIn 135 = .ok (.aload_n 0, 1) := by decide +kernel
theorem dX8_pointsIn_136 : decode cX8_pointsIn 136 = .ok (.getfield 23, 3) := by decide +kernel
theorem dX8_pointsIn_139 : decode cX8_pointsIn 139 = .ok (.iload_n 2, 1) := by decide +kernel
theorem dX8_pointsIn_140 : decode cX8_pointsIn 140 = .ok (.iaload, 1) := by decide +kernel
theorem dX8_pointsIn_141 : decode cX8_pointsIn 141 = .ok (.istore 9, 2) := by decide +kernel
theorem dX8_pointsIn_143 : decode cX8_pointsIn 143 = .ok (.aload_n 0, 1) := by decide +kernel
theorem dX8_pointsIn_144 : decode cX8_pointsIn 144 = .ok (.getfield 26, 3) := by decide +kernel
theorem dX8_pointsIn_147 : decode cX8_pointsIn 147 = .ok (.iload_n 2, 1) := by decide +kernel
theorem dX8_pointsIn_148 : decode cX8_pointsIn 148 = .ok (.iaload, 1) := by decide +kernel
theorem dX8_pointsIn_149 : decode cX8_pointsIn 149 = .ok (.istore 10, 2) := by decide +kernel
theorem dX8_pointsIn_151 : decode cX8_pointsIn 151 = .ok (.aload_n 0, 1) := by decide +kernel
theorem dX8_pointsIn_152 : decode cX8_pointsIn 152 = .ok (.getfield 19, 3) := by decide +kernel
theorem dX8_pointsIn_155 : decode cX8_pointsIn 155 = .ok (.iload_n 2, 1) := by decide +kernel
theorem dX8_pointsIn_156 : decode cX8_pointsIn 156 = .ok (.iaload, 1) := by decide +kernel
theorem dX8_pointsIn_157 : decode cX8_pointsIn 157 = .ok (.tableswitch 108 0 4 #[35, 53, 66, 80, 94], 35) := by decide +kernel
theorem dX8_pointsIn_192 : decode cX8_pointsIn 192 = .ok (.iload 9, 2) := by decide +kernel
theorem dX8_pointsIn_194 : decode cX8_pointsIn 194 = .ok (.aload_n 0, 1) := by decide +kernel
theorem dX8_pointsIn_195 : decode cX8_pointsIn 195 = .ok (.getfield 29, 3) := by decide +kernel
theorem dX8_pointsIn_198 : decode cX8_pointsIn 198 = .ok (.bipush 6, 2) := by decide +kernel
theorem dX8_pointsIn_200 : decode cX8_pointsIn 200 = .ok (.iload_n 1, 1) := by decide +kernel
theorem dX8_pointsIn_201 : decode cX8_pointsIn 201 = .ok (.imul, 1) := by decide +kernel
theorem dX8_pointsIn_202 : decode cX8_pointsIn 202 = .ok (.iload 9, 2) := by decide +kernel
theorem dX8_pointsIn_204 : decode cX8_pointsIn 204 = .ok (.iadd, 1) := by decide +kernel
theorem dX8_pointsIn_205 : decode cX8_pointsIn 205 = .ok (.iconst 1, 1) := by decide +kernel
theorem dX8_pointsIn_206 : decode cX8_pointsIn 206 = .ok (.isub, 1) := by decide +kernel
theorem dX8_pointsIn_207 : decode cX8_pointsIn 207 = .ok (.iaload, 1) := by decide +kernel
theorem dX8_pointsIn_208 : decode cX8_pointsIn 208 = .ok (.imul, 1) := by decide +kernel
theorem dX8_pointsIn_209 : decode cX8_pointsIn 209 = .ok (.ireturn, 1) := by decide +kernel
theorem dX8_pointsIn_210 : decode cX8_pointsIn 210 = .ok (.iload 4, 2) := by decide +kernel
theorem dX8_pointsIn_212 : decode cX8_pointsIn 212 = .ok (.iload 9, 2) := by decide +kernel
theorem dX8_pointsIn_214 : decode cX8_pointsIn 214 = .ok (.if_icmp .lt 7, 3) := by decide +kernel
theorem dX8_pointsIn_217 : decode cX8_pointsIn 217 = .ok (.iload_n 3, 1) := by decide +kernel
theorem dX8_pointsIn_218 : decode cX8_pointsIn 218 = .ok (.goto 4, 3) := by decide +kernel
theorem dX8_pointsIn_221 : decode cX8_pointsIn 221 = .ok (.iconst 0, 1) := by decide +kernel
theorem dX8_pointsIn_222 : decode cX8_pointsIn 222 = .ok (.ireturn, 1) := by decide +kernel
theorem dX8_pointsIn_223 : decode cX8_pointsIn 223 = .ok (.iload 8, 2) := by decide +kernel
theorem dX8_pointsIn_225 : decode cX8_pointsIn 225 = .ok (.iload 9, 2) := by decide +kernel
theorem dX8_pointsIn_227 : decode cX8_pointsIn 227 = .ok (.if_icmp .lt 8, 3) := by decide +kernel
theorem dX8_pointsIn_230 : decode cX8_pointsIn 230 = .ok (.iload 10, 2) := by decide +kernel
theorem dX8_pointsIn_232 : decode cX8_pointsIn 232 = .ok (.goto 4, 3) := by decide +kernel
theorem dX8_pointsIn_235 : decode cX8_pointsIn 235 = .ok (.iconst 0, 1) := by decide +kernel
theorem dX8_pointsIn_236 : decode cX8_pointsIn 236 = .ok (.ireturn, 1) := by decide +kernel
theorem dX8_pointsIn_237 : decode cX8_pointsIn 237 = .ok (.iload 5, 2) := by decide +kernel
theorem dX8_pointsIn_239 : decode cX8_pointsIn 239 = .ok (.iload 9, 2) := by decide +kernel
theorem dX8_pointsIn_241 : decode cX8_pointsIn 241 = .ok (.if_icmp .lt 8, 3) := by decide +kernel
theorem dX8_pointsIn_244 : decode cX8_pointsIn 244 = .ok (.iload 10, 2) := by decide +kernel
theorem dX8_pointsIn_246 : decode cX8_pointsIn 246 = .ok (.goto 4, 3) := by decide +kernel
theorem dX8_pointsIn_249 : decode cX8_pointsIn 249 = .ok (.iconst 0, 1) := by decide +kernel
theorem dX8_pointsIn_250 : decode cX8_pointsIn 250 = .ok (.ireturn, 1) := by decide +kernel
theorem dX8_pointsIn_251 : decode cX8_pointsIn 251 = .ok (.iload 6, 2) := by decide +kernel
theorem dX8_pointsIn_253 : decode cX8_pointsIn 253 = .ok (.iload 9, 2) := by decide +kernel
theorem dX8_pointsIn_255 : decode cX8_pointsIn 255 = .ok (.if_icmp .ne 8, 3) := by decide +kernel
theorem dX8_pointsIn_258 : decode cX8_pointsIn 258 = .ok (.iload 10, 2) := by decide +kernel
theorem dX8_pointsIn_260 : decode cX8_pointsIn 260 = .ok (.goto 4, 3) := by decide +kernel
theorem dX8_pointsIn_263 : decode cX8_pointsIn 263 = .ok (.iconst 0, 1) := by decide +kernel
theorem dX8_pointsIn_264 : decode cX8_pointsIn 264 = .ok (.ireturn, 1) := by decide +kernel
theorem dX8_pointsIn_265 : decode cX8_pointsIn 265 = .ok (.iload_n 3, 1) := by decide +kernel
theorem dX8_pointsIn_266 : decode cX8_pointsIn 266 = .ok (.iload 10, 2) := by decide +kernel
theorem dX8_pointsIn_268 : decode cX8_pointsIn 268 = .ok (.iadd, 1) := by decide +kernel
theorem dX8_pointsIn_269 : decode cX8_pointsIn 269 = .ok (.ireturn, 1) := by decide +kernel
theorem dX8_dice_0 : decode cX8_dice 0 = .ok (.iload_n 1, 1) := by decide +kernel
theorem dX8_dice_1 : decode cX8_dice 1 = .ok (.iconst 1, 1) := by decide +kernel
theorem dX8_dice_2 : decode cX8_dice 2 = .ok (.iconst 5, 1) := by decide +kernel
theorem dX8_dice_3 : decode cX8_dice 3 = .ok (.invokestatic 78, 3) := by decide +kernel
theorem dX8_dice_6 : decode cX8_dice 6 = .ok (.ifCond .eq 22, 3) := by decide +kernel
theorem dX8_dice_9 : decode cX8_dice 9 = .ok (.iload_n 2, 1) := by decide +kernel
theorem dX8_dice_10 : decode cX8_dice 10 = .ok (.iconst 2, 1) := by decide +kernel
theorem dX8_dice_11 : decode cX8_dice 11 = .ok (.bipush 6, 2) := by decide +kernel
theorem dX8_dice_13 : decode cX8_dice 13 = .ok (.invokestatic 78, 3) := by decide +kernel
theorem dX8_dice_16 : decode cX8_dice 16 = .ok (.ifCond .eq 12, 3) := by decide +kernel
theorem dX8_dice_19 : decode cX8_dice 19 = .ok (.iload_n 3, 1) := by decide +kernel
theorem dX8_dice_20 : decode cX8_dice 20 = .ok (.iconst 1, 1) := by decide +kernel
theorem dX8_dice_21 : decode cX8_dice 21 = .ok (.iconst 3, 1) := by decide +kernel
theorem dX8_dice_22 : decode cX8_dice 22 = .ok (.invokestatic 78, 3) := by decide +kernel
theorem dX8_dice_25 : decode cX8_dice 25 = .ok (.ifCond .ne 6, 3) := by decide +kernel
theorem dX8_dice_28 : decode cX8_dice 28 = .ok (.bipush (-3), 2) := by decide +kernel
theorem dX8_dice_30 : decode cX8_dice 30 = .ok (.ireturn, 1) := by decide +kernel
theorem dX8_dice_31 : decode cX8_dice 31 = .ok (.aload_n 0, 1) := by decide +kernel
theorem dX8_dice_32 : decode cX8_dice 32 = .ok (.getfield 82, 3) := by decide +kernel
theorem dX8_dice_35 : decode cX8_dice 35 = .ok (.ifCond .eq 6, 3) := by decide +kernel
theorem dX8_dice_38 : decode cX8_dice 38 = .ok (.bipush (-4), 2) := by decide +kernel
theorem dX8_dice_40 : decode cX8_dice 40 = .ok (.ireturn, 1) := by decide +kernel
theorem dX8_dice_41 : decode cX8_dice 41 = .ok (.aload_n 0, 1) := by decide +kernel
theorem dX8_dice_42 : decode cX8_dice 42 = .ok (.iload_n 1, 1) := by decide +kernel
theorem dX8_dice_43 : decode cX8_dice 43 = .ok (.putfield 7, 3) := by decide +kernel
theorem dX8_dice_46 : decode cX8_dice 46 = .ok (.aload_n 0, 1) := by decide +kernel
theorem dX8_dice_47 : decode cX8_dice 47 = .ok (.iload_n 2, 1) := by decide +kernel
theorem dX8_dice_48 : decode cX8_dice 48 = .ok (.putfield 13, 3) := by decide +kernel
theorem dX8_dice_51 : decode cX8_dice 51 = .ok (.aload_n 0, 1) := by decide +kernel
theorem dX8_dice_52 : decode cX8_dice 52 = .ok (.iload_n 3, 1) := by decide +kernel
theorem dX8_dice_53 : decode cX8_dice 53 = .ok (.putfield 16, 3) := by decide +kernel
theorem dX8_dice_56 : decode cX8_dice 56 = .ok (.iconst 1, 1) := by decide +kernel
theorem dX8_dice_57 : decode cX8_dice 57 = .ok (.ireturn, 1) := by decide +kernel
theorem dX8_row_0 : decode cX8_row 0 = .ok (.iload_n 1, 1) := by decide +kernel
theorem dX8_row_1 : decode cX8_row 1 = .ok (.iconst 0, 1) := by decide +kernel
theorem dX8_row_2 : decode cX8_row 2 = .ok (.iconst 5, 1) := by decide +kernel
theorem dX8_row_3 : decode cX8_row 3 = .ok (.invokestatic 78, 3) := by decide +kernel
theorem dX8_row_6 : decode cX8_row 6 = .ok (.ifCond .eq 23, 3) := by decide +kernel
theorem dX8_row_9 : decode cX8_row 9 = .ok (.iload_n 2, 1) := by decide +kernel
theorem dX8_row_10 : decode cX8_row 10 = .ok (.iconst 1, 1) := by decide +kernel
theorem dX8_row_11 : decode cX8_row 11 = .ok (.bipush 6, 2) := by decide +kernel
theorem dX8_row_13 : decode cX8_row 13 = .ok (.invokestatic 78, 3) := by decide +kernel
theorem dX8_row_16 : decode cX8_row 16 = .ok (.ifCond .eq 13, 3) := by decide +kernel
theorem dX8_row_19 : decode cX8_row 19 = .ok (.iload_n 3, 1) := by decide +kernel
theorem dX8_row_20 : decode cX8_row 20 = .ok (.iconst 0, 1) := by decide +kernel
theorem dX8_row_21 : decode cX8_row 21 = .ok (.bipush 30, 2) := by decide +kernel
theorem dX8_row_23 : decode cX8_row 23 = .ok (.invokestatic 78, 3) := by decide +kernel
theorem dX8_row_26 : decode cX8_row 26 = .ok (.ifCond .ne 6, 3) := by decide +kernel
theorem dX8_row_29 : decode cX8_row 29 = .ok (.bipush (-3), 2) := by decide +kernel
theorem dX8_row_31 : decode cX8_row 31 = .ok (.ireturn, 1) := by decide +kernel
theorem dX8_row_32 : decode cX8_row 32 = .ok (.aload_n 0, 1) := by decide +kernel
theorem dX8_row_33 : decode cX8_row 33 = .ok (.getfield 82, 3) := by decide +kernel
theorem dX8_row_36 : decode cX8_row 36 = .ok (.ifCond .eq 6, 3) := by decide +kernel
theorem dX8_row_39 : decode cX8_row 39 = .ok (.bipush (-4), 2) := by decide +kernel
theorem dX8_row_41 : decode cX8_row 41 = .ok (.ireturn, 1) := by decide +kernel
theorem dX8_row_42 : decode cX8_row 42 = .ok (.aload_n 0, 1) := by decide +kernel
theorem dX8_row_43 : decode cX8_row 43 = .ok (.getfield 86, 3) := by decide +kernel
theorem dX8_row_46 : decode cX8_row 46 = .ok (.bipush 8, 2) := by decide +kernel
theorem dX8_row_48 : decode cX8_row 48 = .ok (.if_icmp .ne 6, 3) := by decide +kernel
theorem dX8_row_51 : decode cX8_row 51 = .ok (.bipush (-6), 2) := by decide +kernel
theorem dX8_row_53 : decode cX8_row 53 = .ok (.ireturn, 1) := by decide +kernel
theorem dX8_row_54 : decode cX8_row 54 = .ok (.aload_n 0, 1) := by decide +kernel
theorem dX8_row_55 : decode cX8_row 55 = .ok (.getfield 19, 3) := by decide +kernel
theorem dX8_row_58 : decode cX8_row 58 = .ok (.aload_n 0, 1) := by decide +kernel
theorem dX8_row_59 : decode cX8_row 59 = .ok (.getfield 86, 3) := by decide +kernel
theorem dX8_row_62 : decode cX8_row 62 = .ok (.iload_n 1, 1) := by decide +kernel
theorem dX8_row_63 : decode cX8_row 63 = .ok (.iastore, 1) := by decide +kernel
theorem dX8_row_64 : decode cX8_row 64 = .ok (.aload_n 0, 1) := by decide +kernel
theorem dX8_row_65 : decode cX8_row 65 = .ok (.getfield 23, 3) := by decide +kernel
theorem dX8_row_68 : decode cX8_row 68 = .ok (.aload_n 0, 1) := by decide +kernel
theorem dX8_row_69 : decode cX8_row 69 = .ok (.getfield 86, 3) := by decide +kernel
theorem dX8_row_72 : decode cX8_row 72 = .ok (.iload_n 2, 1) := by decide +kernel
theorem dX8_row_73 : decode cX8_row 73 = .ok (.iastore, 1) := by decide +kernel
theorem dX8_row_74 : decode cX8_row 74 = .ok (.aload_n 0, 1) := by decide +kernel
theorem dX8_row_75 : decode cX8_row 75 = .ok (.getfield 26, 3) := by decide +kernel
theorem dX8_row_78 : decode cX8_row 78 = .ok (.aload_n 0, 1) := by decide +kernel
theorem dX8_row_79 : decode cX8_row 79 = .ok (.getfield 86, 3) := by decide +kernel
theorem dX8_row_82 : decode cX8_row 82 = .ok (.iload_n 3, 1) := by decide +kernel
theorem dX8_row_83 : decode cX8_row 83 = .ok (.iastore, 1) := by decide +kernel
theorem dX8_row_84 : decode cX8_row 84 = .ok (.aload_n 0, 1) := by decide +kernel
theorem dX8_row_85 : decode cX8_row 85 = .ok (.dup, 1) := by decide +kernel
theorem dX8_row_86 : decode cX8_row 86 = .ok (.getfield 86, 3) := by decide +kernel
theorem dX8_row_89 : decode cX8_row 89 = .ok (.iconst 1, 1) := by decide +kernel
theorem dX8_row_90 : decode cX8_row 90 = .ok (.iadd, 1) := by decide +kernel
theorem dX8_row_91 : decode cX8_row 91 = .ok (.putfield 86, 3) := by decide +kernel
theorem dX8_row_94 : decode cX8_row 94 = .ok (.aload_n 0, 1) := by decide +kernel
theorem dX8_row_95 : decode cX8_row 95 = .ok (.getfield 86, 3) := by decide +kernel
theorem dX8_row_98 : decode cX8_row 98 = .ok (.iconst 1, 1) := by decide +kernel
theorem dX8_row_99 : decode cX8_row 99 = .ok (.isub, 1) := by decide +kernel
theorem dX8_row_100 : decode cX8_row 100 = .ok (.ireturn, 1) := by decide +kernel
theorem dX8_open_0 : decode cX8_open 0 = .ok (.iconst 0, 1) := by decide +kernel
theorem dX8_open_1 : decode cX8_open 1 = .ok (.istore_n 2, 1) := by decide +kernel
theorem dX8_open_2 : decode cX8_open 2 = .ok (.iconst 0, 1) := by decide +kernel
theorem dX8_open_3 : decode cX8_open 3 = .ok (.istore_n 3, 1) := by decide +kernel
theorem dX8_open_4 : decode cX8_open 4 = .ok (.iload_n 3, 1) := by decide +kernel
theorem dX8_open_5 : decode cX8_open 5 = .ok (.aload_n 0, 1) := by decide +kernel
theorem dX8_open_6 : decode cX8_open 6 = .ok (.getfield 86, 3) := by decide +kernel
theorem dX8_open_9 : decode cX8_open 9 = .ok (.if_icmp .ge 25, 3) := by decide +kernel
theorem dX8_open_12 : decode cX8_open 12 = .ok (.iload_n 2, 1) := by decide +kernel
theorem dX8_open_13 : decode cX8_open 13 = .ok (.iload_n 1, 1) := by decide +kernel
theorem dX8_open_14 : decode cX8_open 14 = .ok (.iload_n 3, 1) := by decide +kernel
theorem dX8_open_15 : decode cX8_open 15 = .ok (.ishr, 1) := by decide +kernel
theorem dX8_open_16 : decode cX8_open 16 = .ok (.iconst 1, 1) := by decide +kernel
theorem dX8_open_17 : decode cX8_open 17 = .ok (.iand, 1) := by decide +kernel
theorem dX8_open_18 : decode cX8_open 18 = .ok (.ifCond .ne 7, 3) := by decide +kernel
theorem dX8_open_21 : decode cX8_open 21 = .ok (.iconst 1, 1) := by decide +kernel
theorem dX8_open_22 : decode cX8_open 22 = .ok (.goto 4, 3) := by decide +kernel
theorem dX8_open_25 : decode cX8_open 25 = .ok (.iconst 0, 1) := by decide +kernel
theorem dX8_open_26 : decode cX8_open 26 = .ok (.iadd, 1) := by decide +kernel
theorem dX8_open_27 : decode cX8_open 27 = .ok (.istore_n 2, 1) := by decide +kernel
theorem dX8_open_28 : decode cX8_open 28 = .ok (.iinc 3 1, 3) := by decide +kernel
theorem dX8_open_31 : decode cX8_open 31 = .ok (.goto (-27), 3) := by decide +kernel
theorem dX8_open_34 : decode cX8_open 34 = .ok (.iload_n 2, 1) := by decide +kernel
theorem dX8_open_35 : decode cX8_open 35 = .ok (.ireturn, 1) := by decide +kernel
theorem dX8_power_0 : decode cX8_power 0 = .ok (.lconst 1, 1) := by decide +kernel
theorem dX8_power_1 : decode cX8_power 1 = .ok (.lstore 4, 2) := by decide +kernel
theorem dX8_power_3 : decode cX8_power 3 = .ok (.iconst 0, 1) := by decide +kernel
theorem dX8_power_4 : decode cX8_power 4 = .ok (.istore 6, 2) := by decide +kernel
theorem dX8_power_6 : decode cX8_power 6 = .ok (.iload 6, 2) := by decide +kernel
theorem dX8_power_8 : decode cX8_power 8 = .ok (.iload_n 3, 1) := by decide +kernel
theorem dX8_power_9 : decode cX8_power 9 = .ok (.if_icmp .ge 15, 3) := by decide +kernel
theorem dX8_power_12 : decode cX8_power 12 = .ok (.lload 4, 2) := by decide +kernel
theorem dX8_power_14 : decode cX8_power 14 = .ok (.lload_n 1, 1) := by decide +kernel
theorem dX8_power_15 : decode cX8_power 15 = .ok (.lmul, 1) := by decide +kernel
theorem dX8_power_16 : decode cX8_power 16 = .ok (.lstore 4, 2) := by decide +kernel
theorem dX8_power_18 : decode cX8_power 18 = .ok (.iinc 6 1, 3) := by decide +kernel
theorem dX8_power_21 : decode cX8_power 21 = .ok (.goto (-15), 3) := by decide +kernel
theorem dX8_power_24 : decode cX8_power 24 = .ok (.lload 4, 2) := by decide +kernel
theorem dX8_power_26 : decode cX8_power 26 = .ok (.lreturn, 1) := by decide +kernel
theorem dX8_unitOf_0 : decode cX8_unitOf 0 = .ok (.aload_n 0, 1) := by decide +kernel
theorem dX8_unitOf_1 : decode cX8_unitOf 1 = .ok (.aload_n 0, 1) := by decide +kernel
theorem dX8_unitOf_2 : decode cX8_unitOf 2 = .ok (.getfield 89, 3) := by decide +kernel
theorem dX8_unitOf_5 : decode cX8_unitOf 5 = .ok (.aload_n 0, 1) := by decide +kernel
theorem dX8_unitOf_6 : decode cX8_unitOf 6 = .ok (.getfield 16, 3) := by decide +kernel
theorem dX8_unitOf_9 : decode cX8_unitOf 9 = .ok (.iload_n 1, 1) := by decide +kernel
theorem dX8_unitOf_10 : decode cX8_unitOf 10 = .ok (.imul, 1) := by decide +kernel
theorem dX8_unitOf_11 : decode cX8_unitOf 11 = .ok (.invokevirtual 93, 3) := by decide +kernel
theorem dX8_unitOf_14 : decode cX8_unitOf 14 = .ok (.lreturn, 1) := by decide +kernel
theorem dX8_isLarge_0 : decode cX8_isLarge 0 = .ok (.lconst 1, 1) := by decide +kernel
theorem dX8_isLarge_1 : decode cX8_isLarge 1 = .ok (.lstore_n 1, 1) := by decide +kernel
theorem dX8_isLarge_2 : decode cX8_isLarge 2 = .ok (.iconst 0, 1) := by decide +kernel
theorem dX8_isLarge_3 : decode cX8_isLarge 3 = .ok (.istore_n 3, 1) := by decide +kernel
theorem dX8_isLarge_4 : decode cX8_isLarge 4 = .ok (.iload_n 3, 1) := by decide +kernel
theorem dX8_isLarge_5 : decode cX8_isLarge 5 = .ok (.aload_n 0, 1) := by decide +kernel
theorem dX8_isLarge_6 : decode cX8_isLarge 6 = .ok (.getfield 16, 3) := by decide +kernel
theorem dX8_isLarge_9 : decode cX8_isLarge 9 = .ok (.aload_n 0, 1) := by decide +kernel
theorem dX8_isLarge_10 : decode cX8_isLarge 10 = .ok (.getfield 86, 3) := by decide +kernel
theorem dX8_isLarge_13 : decode cX8_isLarge 13 = .ok (.imul, 1) := by decide +kernel
theorem dX8_isLarge_14 : decode cX8_isLarge 14 = .ok (.if_icmp .ge 26, 3) := by decide +kernel
theorem dX8_isLarge_17 : decode cX8_isLarge 17 = .ok (.lload_n 1, 1) := by decide +kernel
theorem dX8_isLarge_18 : decode cX8_isLarge 18 = .ok (.aload_n 0, 1) := by decide +kernel
theorem dX8_isLarge_19 : decode cX8_isLarge 19 = .ok (.getfield 89, 3) := by decide +kernel
theorem dX8_isLarge_22 : decode cX8_isLarge 22 = .ok (.lmul, 1) := by decide +kernel
theorem dX8_isLarge_23 : decode cX8_isLarge 23 = .ok (.lstore_n 1, 1) := by decide +kernel
theorem dX8_isLarge_24 : decode cX8_isLarge 24 = .ok (.lload_n 1, 1) := by decide +kernel
theorem dX8_isLarge_25 : decode cX8_isLarge 25 = .ok (.ldc2_w 97, 3) := by decide +kernel
theorem dX8_isLarge_28 : decode cX8_isLarge 28 = .ok (.lcmp, 1) := by decide +kernel
theorem dX8_isLarge_29 : decode cX8_isLarge 29 = .ok (.ifCond .le 5, 3) := by decide +kernel
theorem dX8_isLarge_32 : decode cX8_isLarge 32 = .ok (.iconst 1, 1) := by decide +kernel
theorem dX8_isLarge_33 : decode cX8_isLarge 33 = .ok (.ireturn, 1) := by decide +kernel
theorem dX8_isLarge_34 : decode cX8_isLarge 34 = .ok (.iinc 3 1, 3) := by decide +kernel
theorem dX8_isLarge_37 : decode cX8_isLarge 37 = .ok (.goto (-33), 3) := by decide +kernel
theorem dX8_isLarge_40 : decode cX8_isLarge 40 = .ok (.iconst 0, 1) := by decide +kernel
theorem dX8_isLarge_41 : decode cX8_isLarge 41 = .ok (.ireturn, 1) := by decide +kernel
theorem dX8_findTurn_0 : decode cX8_findTurn 0 = .ok (.iconst 1, 1) := by decide +kernel
theorem dX8_findTurn_1 : decode cX8_findTurn 1 = .ok (.istore_n 1, 1) := by decide +kernel
theorem dX8_findTurn_2 : decode cX8_findTurn 2 = .ok (.iload_n 1, 1) := by decide +kernel
theorem dX8_findTurn_3 : decode cX8_findTurn 3 = .ok (.aload_n 0, 1) := by decide +kernel
theorem dX8_findTurn_4 : decode cX8_findTurn 4 = .ok (.getfield 16, 3) := by decide +kernel
theorem dX8_findTurn_7 : decode cX8_findTurn 7 = .ok (.if_icmp .ge 126, 3) := by decide +kernel
theorem dX8_findTurn_10 : decode cX8_findTurn 10 = .ok (.aload_n 0, 1) := by decide +kernel
theorem dX8_findTurn_11 : decode cX8_findTurn 11 = .ok (.iload_n 1, 1) := by decide +kernel
theorem dX8_findTurn_12 : decode cX8_findTurn 12 = .ok (.invokevirtual 99, 3) := by decide +kernel
theorem dX8_findTurn_15 : decode cX8_findTurn 15 = .ok (.iconst 0, 1) := by decide +kernel
theorem dX8_findTurn_16 : decode cX8_findTurn 16 = .ok (.istore_n 2, 1) := by decide +kernel
theorem dX8_findTurn_17 : decode cX8_findTurn 17 = .ok (.iload_n 2, 1) := by decide +kernel
theorem dX8_findTurn_18 : decode cX8_findTurn 18 = .ok (.aload_n 0, 1) := by decide +kernel
theorem dX8_findTurn_19 : decode cX8_findTurn 19 = .ok (.getfield 71, 3) := by decide +kernel
theorem dX8_findTurn_22 : decode cX8_findTurn 22 = .ok (.if_icmp .ge 105, 3) := by decide +kernel
theorem dX8_findTurn_25 : decode cX8_findTurn 25 = .ok (.aload_n 0, 1) := by decide +kernel
theorem dX8_findTurn_26 : decode cX8_findTurn 26 = .ok (.getfield 32, 3) := by decide +kernel
theorem dX8_findTurn_29 : decode cX8_findTurn 29 = .ok (.iload_n 2, 1) := by decide +kernel
theorem dX8_findTurn_30 : decode cX8_findTurn 30 = .ok (.iaload, 1) := by decide +kernel
theorem dX8_findTurn_31 : decode cX8_findTurn 31 = .ok (.aload_n 0, 1) := by decide +kernel
theorem dX8_findTurn_32 : decode cX8_findTurn 32 = .ok (.getfield 7, 3) := by decide +kernel
theorem dX8_findTurn_35 : decode cX8_findTurn 35 = .ok (.if_icmp .ne 86, 3) := by decide +kernel
theorem dX8_findTurn_38 : decode cX8_findTurn 38 = .ok (.lconst 0, 1) := by decide +kernel
theorem dX8_findTurn_39 : decode cX8_findTurn 39 = .ok (.lstore_n 3, 1) := by decide +kernel
theorem dX8_findTurn_40 : decode cX8_findTurn 40 = .ok (.iconst 0, 1) := by decide +kernel
theorem dX8_findTurn_41 : decode cX8_findTurn 41 = .ok (.istore 5, 2) := by decide +kernel
theorem dX8_findTurn_43 : decode cX8_findTurn 43 = .ok (.iload 5, 2) := by decide +kernel
theorem dX8_findTurn_45 : decode cX8_findTurn 45 = .ok (.aload_n 0, 1) := by decide +kernel
theorem dX8_findTurn_46 : decode cX8_findTurn 46 = .ok (.getfield 71, 3) := by decide +kernel
theorem dX8_findTurn_49 : decode cX8_findTurn 49 = .ok (.if_icmp .ge 59, 3) := by decide +kernel
theorem dX8_findTurn_52 : decode cX8_findTurn 52 = .ok (.aload_n 0, 1) := by decide +kernel
theorem dX8_findTurn_53 : decode cX8_findTurn 53 = .ok (.iload 5, 2) := by decide +kernel
theorem dX8_findTurn_55 : decode cX8_findTurn 55 = .ok (.iload_n 2, 1) := by decide +kernel
theorem dX8_findTurn_56 : decode cX8_findTurn 56 = .ok (.invokevirtual 103, 3) := by decide +kernel
theorem dX8_findTurn_59 : decode cX8_findTurn 59 = .ok (.ifCond .eq 26, 3) := by decide +kernel
theorem dX8_findTurn_62 : decode cX8_findTurn 62 = .ok (.aload_n 0, 1) := by decide +kernel
theorem dX8_findTurn_63 : decode cX8_findTurn 63 = .ok (.getfield 57, 3) := by decide +kernel
theorem dX8_findTurn_66 : decode cX8_findTurn 66 = .ok (.iload 5, 2) := by decide +kernel
theorem dX8_findTurn_68 : decode cX8_findTurn 68 = .ok (.laload, 1) := by decide +kernel
theorem dX8_findTurn_69 : decode cX8_findTurn 69 = .ok (.aload_n 0, 1) := by decide +kernel
theorem dX8_findTurn_70 : decode cX8_findTurn 70 = .ok (.getfield 47, 3) := by decide +kernel
theorem dX8_findTurn_73 : decode cX8_findTurn 73 = .ok (.aload_n 0, 1) := by decide +kernel
theorem dX8_findTurn_74 : decode cX8_findTurn 74 = .ok (.getfield 32, 3) := by decide +kernel
theorem dX8_findTurn_77 : decode cX8_findTurn 77 = .ok (.iload 5, 2) := by decide +kernel
theorem dX8_findTurn_79 : decode cX8_findTurn 79 = .ok (.iaload, 1) := by decide +kernel
theorem dX8_findTurn_80 : decode cX8_findTurn 80 = .ok (.laload, 1) := by decide +kernel
theorem dX8_findTurn_81 : decode cX8_findTurn 81 = .ok (.lmul, 1) := by decide +kernel
theorem dX8_findTurn_82 : decode cX8_findTurn 82 = .ok (.goto 4, 3) := by decide +kernel
theorem dX8_findTurn_85 : decode cX8_findTurn 85 = .ok (.lconst 0, 1) := by decide +kernel
theorem dX8_findTurn_86 : decode cX8_findTurn 86 = .ok (.lstore 6, 2) := by decide +kernel
theorem dX8_findTurn_88 : decode cX8_findTurn 88 = .ok (.lload 6, 2) := by decide +kernel
theorem dX8_findTurn_90 : decode cX8_findTurn 90 = .ok (.lload_n 3, 1) := by decide +kernel
theorem dX8_findTurn_91 : decode cX8_findTurn 91 = .ok (.lcmp, 1) := by decide +kernel
theorem dX8_findTurn_92 : decode cX8_findTurn 92 = .ok (.ifCond .le 8, 3) := by decide +kernel
theorem dX8_findTurn_95 : decode cX8_findTurn 95 = .ok (.lload 6, 2) := by decide +kernel
theorem dX8_findTurn_97 : decode cX8_findTurn 97 = .ok (.goto 4, 3) := by decide +kernel
theorem dX8_findTurn_100 : decode cX8_findTurn 100 = .ok (.lload_n 3, 1) := by decide +kernel
theorem dX8_findTurn_101 : decode cX8_findTurn 101 = .ok (.lstore_n 3, 1) := by decide +kernel
theorem dX8_findTurn_102 : decode cX8_findTurn 102 = .ok (.iinc 5 1, 3) := by decide +kernel
theorem dX8_findTurn_105 : decode cX8_findTurn 105 = .ok (.goto (-62), 3) := by decide +kernel
theorem dX8_findTurn_108 : decode cX8_findTurn 108 = .ok (.aload_n 0, 1) := by decide +kernel
theorem dX8_findTurn_109 : decode cX8_findTurn 109 = .ok (.getfield 54, 3) := by decide +kernel
theorem dX8_findTurn_112 : decode cX8_findTurn 112 = .ok (.sipush 462, 3) := by decide +kernel
theorem dX8_findTurn_115 : decode cX8_findTurn 115 = .ok (.iload_n 1, 1) := by decide +kernel
theorem dX8_findTurn_116 : decode cX8_findTurn 116 = .ok (.imul, 1) := by decide +kernel
theorem dX8_findTurn_117 : decode cX8_findTurn 117 = .ok (.iload_n 2, 1) := by decide +kernel
theorem dX8_findTurn_118 : decode cX8_findTurn 118 = .ok (.iadd, 1) := by decide +kernel
theorem dX8_findTurn_119 : decode cX8_findTurn 119 = .ok (.lload_n 3, 1) := by decide +kernel
theorem dX8_findTurn_120 : decode cX8_findTurn 120 = .ok (.lastore, 1) := by decide +kernel
theorem dX8_findTurn_121 : decode cX8_findTurn 121 = .ok (.iinc 2 1, 3) := by decide +kernel
theorem dX8_findTurn_124 : decode cX8_findTurn 124 = .ok (.goto (-107), 3) := by decide +kernel
theorem dX8_findTurn_127 : decode cX8_findTurn 127 = .ok (.iinc 1 1, 3) := by decide +kernel
theorem dX8_findTurn_130 : decode cX8_findTurn 130 = .ok (.goto (-128), 3) := by decide +kernel
theorem dX8_findTurn_133 : decode cX8_findTurn 133 = .ok (.return_, 1) := by decide +kernel
theorem dX8_findThrown_0 : decode cX8_findThrown 0 = .ok (.aload_n 0, 1) := by decide +kernel
theorem dX8_findThrown_1 : decode cX8_findThrown 1 = .ok (.getfield 71, 3) := by decide +kernel
theorem dX8_findThrown_4 : decode cX8_findThrown 4 = .ok (.iconst 1, 1) := by decide +kernel
theorem dX8_findThrown_5 : decode cX8_findThrown 5 = .ok (.isub, 1) := by decide +kernel
theorem dX8_findThrown_6 : decode cX8_findThrown 6 = .ok (.istore_n 2, 1) := by decide +kernel
theorem dX8_findThrown_7 : decode cX8_findThrown 7 = .ok (.iload_n 2, 1) := by decide +kernel
theorem dX8_findThrown_8 : decode cX8_findThrown 8 = .ok (.ifCond .lt 100, 3) := by decide +kernel
theorem dX8_findThrown_11 : decode cX8_findThrown 11 = .ok (.aload_n 0, 1) := by decide +kernel
theorem dX8_findThrown_12 : decode cX8_findThrown 12 = .ok (.getfield 57, 3) := by decide +kernel
theorem dX8_findThrown_15 : decode cX8_findThrown 15 = .ok (.iload_n 2, 1) := by decide +kernel
theorem dX8_findThrown_16 : decode cX8_findThrown 16 = .ok (.aload_n 0, 1) := by decide +kernel
theorem dX8_findThrown_17 : decode cX8_findThrown 17 = .ok (.getfield 32, 3) := by decide +kernel
theorem dX8_findThrown_20 : decode cX8_findThrown 20 = .ok (.iload_n 2, 1) := by decide +kernel
theorem dX8_findThrown_21 : decode cX8_findThrown 21 = .ok (.iaload, 1) := by decide +kernel
theorem dX8_findThrown_22 : decode cX8_findThrown 22 = .ok (.aload_n 0, 1) := by decide +kernel
theorem dX8_findThrown_23 : decode cX8_findThrown 23 = .ok (.getfield 7, 3) := by decide +kernel
theorem dX8_findThrown_26 : decode cX8_findThrown 26 = .ok (.if_icmp .ne 20, 3) := by decide +kernel
theorem dX8_findThrown_29 : decode cX8_findThrown 29 = .ok (.aload_n 0, 1) := by decide +kernel
theorem dX8_findThrown_30 : decode cX8_findThrown 30 = .ok (.getfield 54, 3) := by decide +kernel
theorem dX8_findThrown_33 : decode cX8_findThrown 33 = .ok (.sipush 462, 3) := by decide +kernel
theorem dX8_findThrown_36 : decode cX8_findThrown 36 = .ok (.iload_n 1, 1) := by decide +kernel
theorem dX8_findThrown_37 : decode cX8_findThrown 37 = .ok (.iconst 1, 1) := by decide +kernel
theorem dX8_findThrown_38 : decode cX8_findThrown 38 = .ok (.isub, 1) := by decide +kernel
theorem dX8_findThrown_39 : decode cX8_findThrown 39 = .ok (.imul, 1) := by decide +kernel
theorem dX8_findThrown_40 : decode cX8_findThrown 40 = .ok (.iload_n 2, 1) := by decide +kernel
theorem dX8_findThrown_41 : decode cX8_findThrown 41 = .ok (.iadd, 1) := by decide +kernel
theorem dX8_findThrown_42 : decode cX8_findThrown 42 = .ok (.laload, 1) := by decide +kernel
theorem dX8_findThrown_43 : decode cX8_findThrown 43 = .ok (.goto 4, 3) := by decide +kernel
theorem dX8_findThrown_46 : decode cX8_findThrown 46 = .ok (.lconst 0, 1) := by decide +kernel
theorem dX8_findThrown_47 : decode cX8_findThrown 47 = .ok (.lastore, 1) := by decide +kernel
theorem dX8_findThrown_48 : decode cX8_findThrown 48 = .ok (.iconst 0, 1) := by decide +kernel
theorem dX8_findThrown_49 : decode cX8_findThrown 49 = .ok (.istore_n 3, 1) := by decide +kernel
theorem dX8_findThrown_50 : decode cX8_findThrown 50 = .ok (.iload_n 3, 1) := by decide +kernel
theorem dX8_findThrown_51 : decode cX8_findThrown 51 = .ok (.aload_n 0, 1) := by decide +kernel
theorem dX8_findThrown_52 : decode cX8_findThrown 52 = .ok (.getfield 13, 3) := by decide +kernel
theorem dX8_findThrown_55 : decode cX8_findThrown 55 = .ok (.if_icmp .ge 47, 3) := by decide +kernel
theorem dX8_findThrown_58 : decode cX8_findThrown 58 = .ok (.aload_n 0, 1) := by decide +kernel
theorem dX8_findThrown_59 : decode cX8_findThrown 59 = .ok (.getfield 32, 3) := by decide +kernel
theorem dX8_findThrown_62 : decode cX8_findThrown 62 = .ok (.iload_n 2, 1) := by decide +kernel
theorem dX8_findThrown_63 : decode cX8_findThrown 63 = .ok (.iaload, 1) := by decide +kernel
theorem dX8_findThrown_64 : decode cX8_findThrown 64 = .ok (.aload_n 0, 1) := by decide +kernel
theorem dX8_findThrown_65 : decode cX8_findThrown 65 = .ok (.getfield 7, 3) := by decide +kernel
theorem dX8_findThrown_68 : decode cX8_findThrown 68 = .ok (.if_icmp .ge 34, 3) := by decide +kernel
theorem dX8_findThrown_71 : decode cX8_findThrown 71 = .ok (.aload_n 0, 1) := by decide +kernel
theorem dX8_findThrown_72 : decode cX8_findThrown 72 = .ok (.getfield 57, 3) := by decide +kernel
theorem dX8_findThrown_75 : decode cX8_findThrown 75 = .ok (.iload_n 2, 1) := by decide +kernel
theorem dX8_findThrown_76 : decode cX8_findThrown 76 = .ok (.dup2, 1) := by decide +kernel
theorem dX8_findThrown_77 : decode cX8_findThrown 77 = .ok (.laload, 1) := by decide +kernel
theorem dX8_findThrown_78 : decode cX8_findThrown 78 = .ok (.aload_n 0, 1) := by decide +kernel
theorem dX8_findThrown_79 : decode cX8_findThrown 79 = .ok (.getfield 57, 3) := by decide +kernel
theorem dX8_findThrown_82 : decode cX8_findThrown 82 = .ok (.aload_n 0, 1) := by decide +kernel
theorem dX8_findThrown_83 : decode cX8_findThrown 83 = .ok (.getfield 38, 3) := by decide +kernel
theorem dX8_findThrown_86 : decode cX8_findThrown 86 = .ok (.bipush 6, 2) := by decide +kernel
theorem dX8_findThrown_88 : decode cX8_findThrown 88 = .ok (.iload_n 2, 1) := by decide +kernel
theorem dX8_findThrown_89 : decode cX8_findThrown 89 = .ok (.imul, 1) := by decide +kernel
theorem dX8_findThrown_90 : decode cX8_findThrown 90 = .ok (.iload_n 3, 1) := by decide +kernel
theorem dX8_findThrown_91 : decode cX8_findThrown 91 = .ok (.iadd, 1) := by decide +kernel
theorem dX8_findThrown_92 : decode cX8_findThrown 92 = .ok (.iaload, 1) := by decide +kernel
theorem dX8_findThrown_93 : decode cX8_findThrown 93 = .ok (.laload, 1) := by decide +kernel
theorem dX8_findThrown_94 : decode cX8_findThrown 94 = .ok (.ladd, 1) := by decide +kernel
theorem dX8_findThrown_95 : decode cX8_findThrown 95 = .ok (.lastore, 1) := by decide +kernel
theorem dX8_findThrown_96 : decode cX8_findThrown 96 = .ok (.iinc 3 1, 3) := by decide +kernel
theorem dX8_findThrown_99 : decode cX8_findThrown 99 = .ok (.goto (-49), 3) := by decide +kernel
theorem dX8_findThrown_102 : decode cX8_findThrown 102 = .ok (.iinc 2 (-1), 3) := by decide +kernel
theorem dX8_findThrown_105 : decode cX8_findThrown 105 = .ok (.goto (-98), 3) := by decide +kernel
theorem dX8_findThrown_108 : decode cX8_findThrown 108 = .ok (.return_, 1) := by decide +kernel
theorem dX8_isPart_0 : decode cX8_isPart 0 = .ok (.iconst 1, 1) := by decide +kernel
theorem dX8_isPart_1 : decode cX8_isPart 1 = .ok (.istore_n 3, 1) := by decide +kernel
theorem dX8_isPart_2 : decode cX8_isPart 2 = .ok (.iconst 0, 1) := by decide +kernel
theorem dX8_isPart_3 : decode cX8_isPart 3 = .ok (.istore 4, 2) := by decide +kernel
theorem dX8_isPart_5 : decode cX8_isPart 5 = .ok (.iload 4, 2) := by decide +kernel
theorem dX8_isPart_7 : decode cX8_isPart 7 = .ok (.bipush 6, 2) := by decide +kernel
theorem dX8_isPart_9 : decode cX8_isPart 9 = .ok (.if_icmp .ge 46, 3) := by decide +kernel
theorem dX8_isPart_12 : decode cX8_isPart 12 = .ok (.iload_n 3, 1) := by decide +kernel
theorem dX8_isPart_13 : decode cX8_isPart 13 = .ok (.ifCond .eq 42, 3) := by decide +kernel
theorem dX8_isPart_16 : decode cX8_isPart 16 = .ok (.aload_n 0, 1) := by decide +kernel
theorem dX8_isPart_17 : decode cX8_isPart 17 = .ok (.getfield 29, 3) := by decide +kernel
theorem dX8_isPart_20 : decode cX8_isPart 20 = .ok (.bipush 6, 2) := by decide +kernel
theorem dX8_isPart_22 : decode cX8_isPart 22 = .ok (.iload_n 1, 1) := by decide +kernel
theorem dX8_isPart_23 : decode cX8_isPart 23 = .ok (.imul, 1) := by decide +kernel
theorem dX8_isPart_24 : decode cX8_isPart 24 = .ok (.iload 4, 2) := by decide +kernel
theorem dX8_isPart_26 : decode cX8_isPart 26 = .ok (.iadd, 1) := by decide +kernel
theorem dX8_isPart_27 : decode cX8_isPart 27 = .ok (.iaload, 1) := by decide +kernel
theorem dX8_isPart_28 : decode cX8_isPart 28 = .ok (.aload_n 0, 1) := by decide +kernel
theorem dX8_isPart_29 : decode cX8_isPart 29 = .ok (.getfield 29, 3) := by decide +kernel
theorem dX8_isPart_32 : decode cX8_isPart 32 = .ok (.bipush 6, 2) := by decide +kernel
theorem dX8_isPart_34 : decode cX8_isPart 34 = .ok (.iload_n 2, 1) := by decide +kernel
theorem dX8_isPart_35 : decode cX8_isPart 35 = .ok (.imul, 1) := by decide +kernel
theorem dX8_isPart_36 : decode cX8_isPart 36 = .ok (.iload 4, 2) := by decide +kernel
theorem dX8_isPart_38 : decode cX8_isPart 38 = .ok (.iadd, 1) := by decide +kernel
theorem dX8_isPart_39 : decode cX8_isPart 39 = .ok (.iaload, 1) := by decide +kernel
theorem dX8_isPart_40 : decode cX8_isPart 40 = .ok (.if_icmp .gt 7, 3) := by decide +kernel
theorem dX8_isPart_43 : decode cX8_isPart 43 = .ok (.iconst 1, 1) := by decide +kernel
theorem dX8_isPart_44 : decode cX8_isPart 44 = .ok (.goto 4, 3) := by decide +kernel
theorem dX8_isPart_47 : decode cX8_isPart 47 = .ok (.iconst 0, 1) := by decide +kernel
theorem dX8_isPart_48 : decode cX8_isPart 48 = .ok (.istore_n 3, 1) := by decide +kernel
theorem dX8_isPart_49 : decode cX8_isPart 49 = .ok (.iinc 4 1, 3) := by decide +kernel
theorem dX8_isPart_52 : decode cX8_isPart 52 = .ok (.goto (-47), 3) := by decide +kernel
theorem dX8_isPart_55 : decode cX8_isPart 55 = .ok (.iload_n 3, 1) := by decide +kernel
theorem dX8_isPart_56 : decode cX8_isPart 56 = .ok (.ireturn, 1) := by decide +kernel
theorem dX8_bestRowOf_0 : decode cX8_bestRowOf 0 = .ok (.aload_n 0, 1) := by decide +kernel
theorem dX8_bestRowOf_1 : decode cX8_bestRowOf 1 = .ok (.aload_n 0, 1) := by decide +kernel
theorem dX8_bestRowOf_2 : decode cX8_bestRowOf 2 = .ok (.iload_n 2, 1) := by decide +kernel
theorem dX8_bestRowOf_3 : decode cX8_bestRowOf 3 = .ok (.invokevirtual 107, 3) := by decide +kernel
theorem dX8_bestRowOf_6 : decode cX8_bestRowOf 6 = .ok (.iconst 1, 1) := by decide +kernel
theorem dX8_bestRowOf_7 : decode cX8_bestRowOf 7 = .ok (.isub, 1) := by decide +kernel
theorem dX8_bestRowOf_8 : decode cX8_bestRowOf 8 = .ok (.invokevirtual 111, 3) := by decide +kernel
theorem dX8_bestRowOf_11 : decode cX8_bestRowOf 11 = .ok (.lstore_n 3, 1) := by decide +kernel
theorem dX8_bestRowOf_12 : decode cX8_bestRowOf 12 = .ok (.ldc2_w 115, 3) := by decide +kernel
theorem dX8_bestRowOf_15 : decode cX8_bestRowOf 15 = .ok (.lstore 5, 2) := by decide +kernel
theorem dX8_bestRowOf_17 : decode cX8_bestRowOf 17 = .ok (.iconst 0, 1) := by decide +kernel
theorem dX8_bestRowOf_18 : decode cX8_bestRowOf 18 = .ok (.istore 7, 2) := by decide +kernel
theorem dX8_bestRowOf_20 : decode cX8_bestRowOf 20 = .ok (.iload 7, 2) := by decide +kernel
theorem dX8_bestRowOf_22 : decode cX8_bestRowOf 22 = .ok (.aload_n 0, 1) := by decide +kernel
theorem dX8_bestRowOf_23 : decode cX8_bestRowOf 23 = .ok (.getfield 86, 3) := by decide +kernel
theorem dX8_bestRowOf_26 : decode cX8_bestRowOf 26 = .ok (.if_icmp .ge 85, 3) := by decide +kernel
theorem dX8_bestRowOf_29 : decode cX8_bestRowOf 29 = .ok (.iload_n 2, 1) := by decide +kernel
theorem dX8_bestRowOf_30 : decode cX8_bestRowOf 30 = .ok (.iload 7, 2) := by decide +kernel
theorem dX8_bestRowOf_32 : decode cX8_bestRowOf 32 = .ok (.ishr, 1) := by decide +kernel
theorem dX8_bestRowOf_33 : decode cX8_bestRowOf 33 = .ok (.iconst 1, 1) := by decide +kernel
theorem dX8_bestRowOf_34 : decode cX8_bestRowOf 34 = .ok (.iand, 1) := by decide +kernel
theorem dX8_bestRowOf_35 : decode cX8_bestRowOf 35 = .ok (.ifCond .ne 70, 3) := by decide +kernel
theorem dX8_bestRowOf_38 : decode cX8_bestRowOf 38 = .ok (.aload_n 0, 1) := by decide +kernel
theorem dX8_bestRowOf_39 : decode cX8_bestRowOf 39 = .ok (.getfield 41, 3) := by decide +kernel
theorem dX8_bestRowOf_42 : decode cX8_bestRowOf 42 = .ok (.bipush 8, 2) := by decide +kernel
theorem dX8_bestRowOf_44 : decode cX8_bestRowOf 44 = .ok (.iload_n 1, 1) := by decide +kernel
theorem dX8_bestRowOf_45 : decode cX8_bestRowOf 45 = .ok (.imul, 1) := by decide +kernel
theorem dX8_bestRowOf_46 : decode cX8_bestRowOf 46 = .ok (.iload 7, 2) := by decide +kernel
theorem dX8_bestRowOf_48 : decode cX8_bestRowOf 48 = .ok (.iadd, 1) := by decide +kernel
theorem dX8_bestRowOf_49 : decode cX8_bestRowOf 49 = .ok (.iaload, 1) := by decide +kernel
theorem dX8_bestRowOf_50 : decode cX8_bestRowOf 50 = .ok (.i2l, 1) := by decide +kernel
theorem dX8_bestRowOf_51 : decode cX8_bestRowOf 51 = .ok (.lload_n 3, 1) := by decide +kernel
theorem dX8_bestRowOf_52 : decode cX8_bestRowOf 52 = .ok (.lmul, 1) := by decide +kernel
theorem dX8_bestRowOf_53 : decode cX8_bestRowOf 53 = .ok (.aload_n 0, 1) := by decide +kernel
theorem dX8_bestRowOf_54 : decode cX8_bestRowOf 54 = .ok (.getfield 51, 3) := by decide +kernel
theorem dX8_bestRowOf_57 : decode cX8_bestRowOf 57 = .ok (.iload_n 2, 1) := by decide +kernel
theorem dX8_bestRowOf_58 : decode cX8_bestRowOf 58 = .ok (.iconst 1, 1) := by decide +kernel
theorem dX8_bestRowOf_59 : decode cX8_bestRowOf 59 = .ok (.iload 7, 2) := by decide +kernel
theorem dX8_bestRowOf_61 : decode cX8_bestRowOf 61 = .ok (.ishl, 1) := by decide +kernel
theorem dX8_bestRowOf_62 : decode cX8_bestRowOf 62 = .ok (.ior, 1) := by decide +kernel
theorem dX8_bestRowOf_63 : decode cX8_bestRowOf 63 = .ok (.laload, 1) := by decide +kernel
theorem dX8_bestRowOf_64 : decode cX8_bestRowOf 64 = .ok (.ladd, 1) := by decide +kernel
theorem dX8_bestRowOf_65 : decode cX8_bestRowOf 65 = .ok (.lstore 8, 2) := by decide +kernel
theorem dX8_bestRowOf_67 : decode cX8_bestRowOf 67 = .ok (.aload_n 0, 1) := by decide +kernel
theorem dX8_bestRowOf_68 : decode cX8_bestRowOf 68 = .ok (.lload 8, 2) := by decide +kernel
theorem dX8_bestRowOf_70 : decode cX8_bestRowOf 70 = .ok (.lload 5, 2) := by decide +kernel
theorem dX8_bestRowOf_72 : decode cX8_bestRowOf 72 = .ok (.lcmp, 1) := by decide +kernel
theorem dX8_bestRowOf_73 : decode cX8_bestRowOf 73 = .ok (.ifCond .le 8, 3) := by decide +kernel
theorem dX8_bestRowOf_76 : decode cX8_bestRowOf 76 = .ok (.iload 7, 2) := by decide +kernel
theorem dX8_bestRowOf_78 : decode cX8_bestRowOf 78 = .ok (.goto 7, 3) := by decide +kernel
theorem dX8_bestRowOf_81 : decode cX8_bestRowOf 81 = .ok (.aload_n 0, 1) := by decide +kernel
theorem dX8_bestRowOf_82 : decode cX8_bestRowOf 82 = .ok (.getfield 117, 3) := by decide +kernel
theorem dX8_bestRowOf_85 : decode cX8_bestRowOf 85 = .ok (.putfield 117, 3) := by decide +kernel
theorem dX8_bestRowOf_88 : decode cX8_bestRowOf 88 = .ok (.lload 8, 2) := by decide +kernel
theorem dX8_bestRowOf_90 : decode cX8_bestRowOf 90 = .ok (.lload 5, 2) := by decide +kernel
theorem dX8_bestRowOf_92 : decode cX8_bestRowOf 92 = .ok (.lcmp, 1) := by decide +kernel
theorem dX8_bestRowOf_93 : decode cX8_bestRowOf 93 = .ok (.ifCond .le 8, 3) := by decide +kernel
theorem dX8_bestRowOf_96 : decode cX8_bestRowOf 96 = .ok (.lload 8, 2) := by decide +kernel
theorem dX8_bestRowOf_98 : decode cX8_bestRowOf 98 = .ok (.goto 5, 3) := by decide +kernel
theorem dX8_bestRowOf_101 : decode cX8_bestRowOf 101 = .ok (.lload 5, 2) := by decide +kernel
theorem dX8_bestRowOf_103 : decode cX8_bestRowOf 103 = .ok (.lstore 5, 2) := by decide +kernel
theorem dX8_bestRowOf_105 : decode cX8_bestRowOf 105 = .ok (.iinc 7 1, 3) := by decide +kernel
theorem dX8_bestRowOf_108 : decode cX8_bestRowOf 108 = .ok (.goto (-88), 3) := by decide +kernel
theorem dX8_bestRowOf_111 : decode cX8_bestRowOf 111 = .ok (.lload 5, 2) := by decide +kernel
theorem dX8_bestRowOf_113 : decode cX8_bestRowOf 113 = .ok (.lreturn, 1) := by decide +kernel
theorem dX8_findWorths_0 : decode cX8_findWorths 0 = .ok (.iconst 0, 1) := by decide +kernel
theorem dX8_findWorths_1 : decode cX8_findWorths 1 = .ok (.istore_n 2, 1) := by decide +kernel
theorem dX8_findWorths_2 : decode cX8_findWorths 2 = .ok (.iload_n 2, 1) := by decide +kernel
theorem dX8_findWorths_3 : decode cX8_findWorths 3 = .ok (.aload_n 0, 1) := by decide +kernel
theorem dX8_findWorths_4 : decode cX8_findWorths 4 = .ok (.getfield 71, 3) := by decide +kernel
theorem dX8_findWorths_7 : decode cX8_findWorths 7 = .ok (.if_icmp .ge 34, 3) := by decide +kernel
theorem dX8_findWorths_10 : decode cX8_findWorths 10 = .ok (.aload_n 0, 1) := by decide +kernel
theorem dX8_findWorths_11 : decode cX8_findWorths 11 = .ok (.getfield 32, 3) := by decide +kernel
theorem dX8_findWorths_14 : decode cX8_findWorths 14 = .ok (.iload_n 2, 1) := by decide +kernel
theorem dX8_findWorths_15 : decode cX8_findWorths 15 = .ok (.iaload, 1) := by decide +kernel
theorem dX8_findWorths_16 : decode cX8_findWorths 16 = .ok (.aload_n 0, 1) := by decide +kernel
theorem dX8_findWorths_17 : decode cX8_findWorths 17 = .ok (.getfield 7, 3) := by decide +kernel
theorem dX8_findWorths_20 : decode cX8_findWorths 20 = .ok (.if_icmp .ne 15, 3) := by decide +kernel
theorem dX8_findWorths_23 : decode cX8_findWorths 23 = .ok (.aload_n 0, 1) := by decide +kernel
theorem dX8_findWorths_24 : decode cX8_findWorths 24 = .ok (.getfield 54, 3) := by decide +kernel
theorem dX8_findWorths_27 : decode cX8_findWorths 27 = .ok (.iload_n 2, 1) := by decide +kernel
theorem dX8_findWorths_28 : decode cX8_findWorths 28 = .ok (.aload_n 0, 1) := by decide +kernel
theorem dX8_findWorths_29 : decode cX8_findWorths 29 = .ok (.iload_n 2, 1) := by decide +kernel
end
section
theorem dX8_findWorths_30 : decode cX8_findWorths 30 = .ok (.iload_n 1, 1) := by decide +kernel
theorem dX8_findWorths_31 : decode cX8_findWorths 31 = .ok (.invokevirtual 120, 3) := by decide +kernel
theorem dX8_findWorths_34 : decode cX8_findWorths 34 = .ok (.lastore, 1) := by decide +kernel
theorem dX8_findWorths_35 : decode cX8_findWorths 35 = .ok (.iinc 2 1, 3) := by decide +kernel
theorem dX8_findWorths_38 : decode cX8_findWorths 38 = .ok (.goto (-36), 3) := by decide +kernel
theorem dX8_findWorths_41 : decode cX8_findWorths 41 = .ok (.aload_n 0, 1) := by decide +kernel
theorem dX8_findWorths_42 : decode cX8_findWorths 42 = .ok (.invokevirtual 124, 3) := by decide +kernel
theorem dX8_findWorths_45 : decode cX8_findWorths 45 = .ok (.return_, 1) := by decide +kernel
theorem dX8_begin_0 : decode cX8_begin 0 = .ok (.aload_n 0, 1) := by decide +kernel
theorem dX8_begin_1 : decode cX8_begin 1 = .ok (.getfield 82, 3) := by decide +kernel
theorem dX8_begin_4 : decode cX8_begin 4 = .ok (.ifCond .ne 10, 3) := by decide +kernel
theorem dX8_begin_7 : decode cX8_begin 7 = .ok (.aload_n 0, 1) := by decide +kernel
theorem dX8_begin_8 : decode cX8_begin 8 = .ok (.getfield 86, 3) := by decide +kernel
theorem dX8_begin_11 : decode cX8_begin 11 = .ok (.ifCond .ne 6, 3) := by decide +kernel
theorem dX8_begin_14 : decode cX8_begin 14 = .ok (.bipush (-4), 2) := by decide +kernel
theorem dX8_begin_16 : decode cX8_begin 16 = .ok (.ireturn, 1) := by decide +kernel
theorem dX8_begin_17 : decode cX8_begin 17 = .ok (.aload_n 0, 1) := by decide +kernel
theorem dX8_begin_18 : decode cX8_begin 18 = .ok (.aload_n 0, 1) := by decide +kernel
theorem dX8_begin_19 : decode cX8_begin 19 = .ok (.aload_n 0, 1) := by decide +kernel
theorem dX8_begin_20 : decode cX8_begin 20 = .ok (.getfield 13, 3) := by decide +kernel
theorem dX8_begin_23 : decode cX8_begin 23 = .ok (.i2l, 1) := by decide +kernel
theorem dX8_begin_24 : decode cX8_begin 24 = .ok (.aload_n 0, 1) := by decide +kernel
theorem dX8_begin_25 : decode cX8_begin 25 = .ok (.getfield 7, 3) := by decide +kernel
theorem dX8_begin_28 : decode cX8_begin 28 = .ok (.invokevirtual 93, 3) := by decide +kernel
theorem dX8_begin_31 : decode cX8_begin 31 = .ok (.putfield 89, 3) := by decide +kernel
theorem dX8_begin_34 : decode cX8_begin 34 = .ok (.aload_n 0, 1) := by decide +kernel
theorem dX8_begin_35 : decode cX8_begin 35 = .ok (.invokevirtual 127, 3) := by decide +kernel
theorem dX8_begin_38 : decode cX8_begin 38 = .ok (.ifCond .eq 6, 3) := by decide +kernel
theorem dX8_begin_41 : decode cX8_begin 41 = .ok (.bipush (-5), 2) := by decide +kernel
theorem dX8_begin_43 : decode cX8_begin 43 = .ok (.ireturn, 1) := by decide +kernel
theorem dX8_begin_44 : decode cX8_begin 44 = .ok (.iconst 0, 1) := by decide +kernel
theorem dX8_begin_45 : decode cX8_begin 45 = .ok (.istore_n 1, 1) := by decide +kernel
theorem dX8_begin_46 : decode cX8_begin 46 = .ok (.iload_n 1, 1) := by decide +kernel
theorem dX8_begin_47 : decode cX8_begin 47 = .ok (.bipush 6, 2) := by decide +kernel
theorem dX8_begin_49 : decode cX8_begin 49 = .ok (.if_icmp .ge 25, 3) := by decide +kernel
theorem dX8_begin_52 : decode cX8_begin 52 = .ok (.aload_n 0, 1) := by decide +kernel
theorem dX8_begin_53 : decode cX8_begin 53 = .ok (.getfield 47, 3) := by decide +kernel
theorem dX8_begin_56 : decode cX8_begin 56 = .ok (.iload_n 1, 1) := by decide +kernel
theorem dX8_begin_57 : decode cX8_begin 57 = .ok (.aload_n 0, 1) := by decide +kernel
theorem dX8_begin_58 : decode cX8_begin 58 = .ok (.aload_n 0, 1) := by decide +kernel
theorem dX8_begin_59 : decode cX8_begin 59 = .ok (.getfield 13, 3) := by decide +kernel
theorem dX8_begin_62 : decode cX8_begin 62 = .ok (.i2l, 1) := by decide +kernel
theorem dX8_begin_63 : decode cX8_begin 63 = .ok (.iload_n 1, 1) := by decide +kernel
theorem dX8_begin_64 : decode cX8_begin 64 = .ok (.invokevirtual 93, 3) := by decide +kernel
theorem dX8_begin_67 : decode cX8_begin 67 = .ok (.lastore, 1) := by decide +kernel
theorem dX8_begin_68 : decode cX8_begin 68 = .ok (.iinc 1 1, 3) := by decide +kernel
theorem dX8_begin_71 : decode cX8_begin 71 = .ok (.goto (-25), 3) := by decide +kernel
theorem dX8_begin_74 : decode cX8_begin 74 = .ok (.aload_n 0, 1) := by decide +kernel
theorem dX8_begin_75 : decode cX8_begin 75 = .ok (.invokevirtual 131, 3) := by decide +kernel
theorem dX8_begin_78 : decode cX8_begin 78 = .ok (.iconst 0, 1) := by decide +kernel
theorem dX8_begin_79 : decode cX8_begin 79 = .ok (.istore_n 1, 1) := by decide +kernel
theorem dX8_begin_80 : decode cX8_begin 80 = .ok (.iload_n 1, 1) := by decide +kernel
theorem dX8_begin_81 : decode cX8_begin 81 = .ok (.aload_n 0, 1) := by decide +kernel
theorem dX8_begin_82 : decode cX8_begin 82 = .ok (.getfield 71, 3) := by decide +kernel
theorem dX8_begin_85 : decode cX8_begin 85 = .ok (.if_icmp .ge 59, 3) := by decide +kernel
theorem dX8_begin_88 : decode cX8_begin 88 = .ok (.iconst 0, 1) := by decide +kernel
theorem dX8_begin_89 : decode cX8_begin 89 = .ok (.istore_n 2, 1) := by decide +kernel
theorem dX8_begin_90 : decode cX8_begin 90 = .ok (.iload_n 2, 1) := by decide +kernel
theorem dX8_begin_91 : decode cX8_begin 91 = .ok (.aload_n 0, 1) := by decide +kernel
theorem dX8_begin_92 : decode cX8_begin 92 = .ok (.getfield 86, 3) := by decide +kernel
theorem dX8_begin_95 : decode cX8_begin 95 = .ok (.if_icmp .ge 43, 3) := by decide +kernel
theorem dX8_begin_98 : decode cX8_begin 98 = .ok (.aload_n 0, 1) := by decide +kernel
theorem dX8_begin_99 : decode cX8_begin 99 = .ok (.getfield 41, 3) := by decide +kernel
theorem dX8_begin_102 : decode cX8_begin 102 = .ok (.bipush 8, 2) := by decide +kernel
theorem dX8_begin_104 : decode cX8_begin 104 = .ok (.iload_n 1, 1) := by decide +kernel
theorem dX8_begin_105 : decode cX8_begin 105 = .ok (.imul, 1) := by decide +kernel
theorem dX8_begin_106 : decode cX8_begin 106 = .ok (.iload_n 2, 1) := by decide +kernel
theorem dX8_begin_107 : decode cX8_begin 107 = .ok (.iadd, 1) := by decide +kernel
theorem dX8_begin_108 : decode cX8_begin 108 = .ok (.aload_n 0, 1) := by decide +kernel
theorem dX8_begin_109 : decode cX8_begin 109 = .ok (.getfield 32, 3) := by decide +kernel
theorem dX8_begin_112 : decode cX8_begin 112 = .ok (.iload_n 1, 1) := by decide +kernel
theorem dX8_begin_113 : decode cX8_begin 113 = .ok (.iaload, 1) := by decide +kernel
theorem dX8_begin_114 : decode cX8_begin 114 = .ok (.aload_n 0, 1) := by decide +kernel
theorem dX8_begin_115 : decode cX8_begin 115 = .ok (.getfield 7, 3) := by decide +kernel
theorem dX8_begin_118 : decode cX8_begin 118 = .ok (.if_icmp .ne 12, 3) := by decide +kernel
theorem dX8_begin_121 : decode cX8_begin 121 = .ok (.aload_n 0, 1) := by decide +kernel
theorem dX8_begin_122 : decode cX8_begin 122 = .ok (.iload_n 1, 1) := by decide +kernel
theorem dX8_begin_123 : decode cX8_begin 123 = .ok (.iload_n 2, 1) := by decide +kernel
theorem dX8_begin_124 : decode cX8_begin 124 = .ok (.invokevirtual 134, 3) := by decide +kernel
theorem dX8_begin_127 : decode cX8_begin 127 = .ok (.goto 4, 3) := by decide +kernel
theorem dX8_begin_130 : decode cX8_begin 130 = .ok (.iconst 0, 1) := by decide +kernel
theorem dX8_begin_131 : decode cX8_begin 131 = .ok (.iastore, 1) := by decide +kernel
theorem dX8_begin_132 : decode cX8_begin 132 = .ok (.iinc 2 1, 3) := by decide +kernel
theorem dX8_begin_135 : decode cX8_begin 135 = .ok (.goto (-45), 3) := by decide +kernel
theorem dX8_begin_138 : decode cX8_begin 138 = .ok (.iinc 1 1, 3) := by decide +kernel
theorem dX8_begin_141 : decode cX8_begin 141 = .ok (.goto (-61), 3) := by decide +kernel
theorem dX8_begin_144 : decode cX8_begin 144 = .ok (.iconst 1, 1) := by decide +kernel
theorem dX8_begin_145 : decode cX8_begin 145 = .ok (.aload_n 0, 1) := by decide +kernel
theorem dX8_begin_146 : decode cX8_begin 146 = .ok (.getfield 86, 3) := by decide +kernel
theorem dX8_begin_149 : decode cX8_begin 149 = .ok (.ishl, 1) := by decide +kernel
theorem dX8_begin_150 : decode cX8_begin 150 = .ok (.iconst 1, 1) := by decide +kernel
theorem dX8_begin_151 : decode cX8_begin 151 = .ok (.isub, 1) := by decide +kernel
theorem dX8_begin_152 : decode cX8_begin 152 = .ok (.istore_n 1, 1) := by decide +kernel
theorem dX8_begin_153 : decode cX8_begin 153 = .ok (.aload_n 0, 1) := by decide +kernel
theorem dX8_begin_154 : decode cX8_begin 154 = .ok (.getfield 51, 3) := by decide +kernel
theorem dX8_begin_157 : decode cX8_begin 157 = .ok (.iload_n 1, 1) := by decide +kernel
theorem dX8_begin_158 : decode cX8_begin 158 = .ok (.lconst 0, 1) := by decide +kernel
theorem dX8_begin_159 : decode cX8_begin 159 = .ok (.lastore, 1) := by decide +kernel
theorem dX8_begin_160 : decode cX8_begin 160 = .ok (.iload_n 1, 1) := by decide +kernel
theorem dX8_begin_161 : decode cX8_begin 161 = .ok (.iconst 1, 1) := by decide +kernel
theorem dX8_begin_162 : decode cX8_begin 162 = .ok (.isub, 1) := by decide +kernel
theorem dX8_begin_163 : decode cX8_begin 163 = .ok (.istore_n 2, 1) := by decide +kernel
theorem dX8_begin_164 : decode cX8_begin 164 = .ok (.iload_n 2, 1) := by decide +kernel
theorem dX8_begin_165 : decode cX8_begin 165 = .ok (.ifCond .lt 34, 3) := by decide +kernel
theorem dX8_begin_168 : decode cX8_begin 168 = .ok (.aload_n 0, 1) := by decide +kernel
theorem dX8_begin_169 : decode cX8_begin 169 = .ok (.iload_n 2, 1) := by decide +kernel
theorem dX8_begin_170 : decode cX8_begin 170 = .ok (.invokevirtual 138, 3) := by decide +kernel
theorem dX8_begin_173 : decode cX8_begin 173 = .ok (.aload_n 0, 1) := by decide +kernel
theorem dX8_begin_174 : decode cX8_begin 174 = .ok (.aload_n 0, 1) := by decide +kernel
theorem dX8_begin_175 : decode cX8_begin 175 = .ok (.getfield 16, 3) := by decide +kernel
theorem dX8_begin_178 : decode cX8_begin 178 = .ok (.invokevirtual 99, 3) := by decide +kernel
theorem dX8_begin_181 : decode cX8_begin 181 = .ok (.aload_n 0, 1) := by decide +kernel
theorem dX8_begin_182 : decode cX8_begin 182 = .ok (.getfield 51, 3) := by decide +kernel
theorem dX8_begin_185 : decode cX8_begin 185 = .ok (.iload_n 2, 1) := by decide +kernel
theorem dX8_begin_186 : decode cX8_begin 186 = .ok (.aload_n 0, 1) := by decide +kernel
theorem dX8_begin_187 : decode cX8_begin 187 = .ok (.getfield 57, 3) := by decide +kernel
theorem dX8_begin_190 : decode cX8_begin 190 = .ok (.iconst 0, 1) := by decide +kernel
theorem dX8_begin_191 : decode cX8_begin 191 = .ok (.laload, 1) := by decide +kernel
theorem dX8_begin_192 : decode cX8_begin 192 = .ok (.lastore, 1) := by decide +kernel
theorem dX8_begin_193 : decode cX8_begin 193 = .ok (.iinc 2 (-1), 3) := by decide +kernel
theorem dX8_begin_196 : decode cX8_begin 196 = .ok (.goto (-32), 3) := by decide +kernel
theorem dX8_begin_199 : decode cX8_begin 199 = .ok (.aload_n 0, 1) := by decide +kernel
theorem dX8_begin_200 : decode cX8_begin 200 = .ok (.iconst 1, 1) := by decide +kernel
theorem dX8_begin_201 : decode cX8_begin 201 = .ok (.putfield 82, 3) := by decide +kernel
theorem dX8_begin_204 : decode cX8_begin 204 = .ok (.aload_n 0, 1) := by decide +kernel
theorem dX8_begin_205 : decode cX8_begin 205 = .ok (.iconst 0, 1) := by decide +kernel
theorem dX8_begin_206 : decode cX8_begin 206 = .ok (.putfield 141, 3) := by decide +kernel
theorem dX8_begin_209 : decode cX8_begin 209 = .ok (.aload_n 0, 1) := by decide +kernel
theorem dX8_begin_210 : decode cX8_begin 210 = .ok (.iconst 0, 1) := by decide +kernel
theorem dX8_begin_211 : decode cX8_begin 211 = .ok (.putfield 144, 3) := by decide +kernel
theorem dX8_begin_214 : decode cX8_begin 214 = .ok (.aload_n 0, 1) := by decide +kernel
theorem dX8_begin_215 : decode cX8_begin 215 = .ok (.iconst 0, 1) := by decide +kernel
theorem dX8_begin_216 : decode cX8_begin 216 = .ok (.putfield 147, 3) := by decide +kernel
theorem dX8_begin_219 : decode cX8_begin 219 = .ok (.aload_n 0, 1) := by decide +kernel
theorem dX8_begin_220 : decode cX8_begin 220 = .ok (.iconst 0, 1) := by decide +kernel
theorem dX8_begin_221 : decode cX8_begin 221 = .ok (.putfield 150, 3) := by decide +kernel
theorem dX8_begin_224 : decode cX8_begin 224 = .ok (.aload_n 0, 1) := by decide +kernel
theorem dX8_begin_225 : decode cX8_begin 225 = .ok (.iconst 0, 1) := by decide +kernel
theorem dX8_begin_226 : decode cX8_begin 226 = .ok (.putfield 153, 3) := by decide +kernel
theorem dX8_begin_229 : decode cX8_begin 229 = .ok (.aload_n 0, 1) := by decide +kernel
theorem dX8_begin_230 : decode cX8_begin 230 = .ok (.iconst 0, 1) := by decide +kernel
theorem dX8_begin_231 : decode cX8_begin 231 = .ok (.putfield 156, 3) := by decide +kernel
theorem dX8_begin_234 : decode cX8_begin 234 = .ok (.aload_n 0, 1) := by decide +kernel
theorem dX8_begin_235 : decode cX8_begin 235 = .ok (.lconst 0, 1) := by decide +kernel
theorem dX8_begin_236 : decode cX8_begin 236 = .ok (.putfield 159, 3) := by decide +kernel
theorem dX8_begin_239 : decode cX8_begin 239 = .ok (.aload_n 0, 1) := by decide +kernel
theorem dX8_begin_240 : decode cX8_begin 240 = .ok (.lconst 0, 1) := by decide +kernel
theorem dX8_begin_241 : decode cX8_begin 241 = .ok (.putfield 162, 3) := by decide +kernel
theorem dX8_begin_244 : decode cX8_begin 244 = .ok (.iconst 1, 1) := by decide +kernel
theorem dX8_begin_245 : decode cX8_begin 245 = .ok (.ireturn, 1) := by decide +kernel
theorem dX8_end_0 : decode cX8_end 0 = .ok (.aload_n 0, 1) := by decide +kernel
theorem dX8_end_1 : decode cX8_end 1 = .ok (.iconst 0, 1) := by decide +kernel
theorem dX8_end_2 : decode cX8_end 2 = .ok (.putfield 82, 3) := by decide +kernel
theorem dX8_end_5 : decode cX8_end 5 = .ok (.aload_n 0, 1) := by decide +kernel
theorem dX8_end_6 : decode cX8_end 6 = .ok (.iconst 0, 1) := by decide +kernel
theorem dX8_end_7 : decode cX8_end 7 = .ok (.putfield 86, 3) := by decide +kernel
theorem dX8_end_10 : decode cX8_end 10 = .ok (.aload_n 0, 1) := by decide +kernel
theorem dX8_end_11 : decode cX8_end 11 = .ok (.iconst 0, 1) := by decide +kernel
theorem dX8_end_12 : decode cX8_end 12 = .ok (.putfield 141, 3) := by decide +kernel
theorem dX8_end_15 : decode cX8_end 15 = .ok (.aload_n 0, 1) := by decide +kernel
theorem dX8_end_16 : decode cX8_end 16 = .ok (.iconst 0, 1) := by decide +kernel
theorem dX8_end_17 : decode cX8_end 17 = .ok (.putfield 144, 3) := by decide +kernel
theorem dX8_end_20 : decode cX8_end 20 = .ok (.aload_n 0, 1) := by decide +kernel
theorem dX8_end_21 : decode cX8_end 21 = .ok (.iconst 0, 1) := by decide +kernel
theorem dX8_end_22 : decode cX8_end 22 = .ok (.putfield 147, 3) := by decide +kernel
theorem dX8_end_25 : decode cX8_end 25 = .ok (.aload_n 0, 1) := by decide +kernel
theorem dX8_end_26 : decode cX8_end 26 = .ok (.iconst 0, 1) := by decide +kernel
theorem dX8_end_27 : decode cX8_end 27 = .ok (.putfield 150, 3) := by decide +kernel
theorem dX8_end_30 : decode cX8_end 30 = .ok (.aload_n 0, 1) := by decide +kernel
theorem dX8_end_31 : decode cX8_end 31 = .ok (.iconst 0, 1) := by decide +kernel
theorem dX8_end_32 : decode cX8_end 32 = .ok (.putfield 153, 3) := by decide +kernel
theorem dX8_end_35 : decode cX8_end 35 = .ok (.aload_n 0, 1) := by decide +kernel
theorem dX8_end_36 : decode cX8_end 36 = .ok (.iconst 0, 1) := by decide +kernel
theorem dX8_end_37 : decode cX8_end 37 = .ok (.putfield 156, 3) := by decide +kernel
theorem dX8_end_40 : decode cX8_end 40 = .ok (.aload_n 0, 1) := by decide +kernel
theorem dX8_end_41 : decode cX8_end 41 = .ok (.lconst 0, 1) := by decide +kernel
theorem dX8_end_42 : decode cX8_end 42 = .ok (.putfield 159, 3) := by decide +kernel
theorem dX8_end_45 : decode cX8_end 45 = .ok (.aload_n 0, 1) := by decide +kernel
theorem dX8_end_46 : decode cX8_end 46 = .ok (.lconst 0, 1) := by decide +kernel
theorem dX8_end_47 : decode cX8_end 47 = .ok (.putfield 162, 3) := by decide +kernel
theorem dX8_end_50 : decode cX8_end 50 = .ok (.iconst 0, 1) := by decide +kernel
theorem dX8_end_51 : decode cX8_end 51 = .ok (.istore_n 1, 1) := by decide +kernel
theorem dX8_end_52 : decode cX8_end 52 = .ok (.iload_n 1, 1) := by decide +kernel
theorem dX8_end_53 : decode cX8_end 53 = .ok (.bipush 8, 2) := by decide +kernel
theorem dX8_end_55 : decode cX8_end 55 = .ok (.if_icmp .ge 16, 3) := by decide +kernel
theorem dX8_end_58 : decode cX8_end 58 = .ok (.aload_n 0, 1) := by decide +kernel
theorem dX8_end_59 : decode cX8_end 59 = .ok (.getfield 44, 3) := by decide +kernel
theorem dX8_end_62 : decode cX8_end 62 = .ok (.iload_n 1, 1) := by decide +kernel
theorem dX8_end_63 : decode cX8_end 63 = .ok (.iconst (-1), 1) := by decide +kernel
theorem dX8_end_64 : decode cX8_end 64 = .ok (.iastore, 1) := by decide +kernel
theorem dX8_end_65 : decode cX8_end 65 = .ok (.iinc 1 1, 3) := by decide +kernel
theorem dX8_end_68 : decode cX8_end 68 = .ok (.goto (-16), 3) := by decide +kernel
theorem dX8_end_71 : decode cX8_end 71 = .ok (.iconst 1, 1) := by decide +kernel
theorem dX8_end_72 : decode cX8_end 72 = .ok (.ireturn, 1) := by decide +kernel
theorem dX8_isOver_0 : decode cX8_isOver 0 = .ok (.aload_n 0, 1) := by decide +kernel
theorem dX8_isOver_1 : decode cX8_isOver 1 = .ok (.aload_n 0, 1) := by decide +kernel
theorem dX8_isOver_2 : decode cX8_isOver 2 = .ok (.getfield 141, 3) := by decide +kernel
theorem dX8_isOver_5 : decode cX8_isOver 5 = .ok (.invokevirtual 107, 3) := by decide +kernel
theorem dX8_isOver_8 : decode cX8_isOver 8 = .ok (.ifCond .ne 7, 3) := by decide +kernel
theorem dX8_isOver_11 : decode cX8_isOver 11 = .ok (.iconst 1, 1) := by decide +kernel
theorem dX8_isOver_12 : decode cX8_isOver 12 = .ok (.goto 4, 3) := by decide +kernel
theorem dX8_isOver_15 : decode cX8_isOver 15 = .ok (.iconst 0, 1) := by decide +kernel
theorem dX8_isOver_16 : decode cX8_isOver 16 = .ok (.ireturn, 1) := by decide +kernel
theorem dX8_unitHere_0 : decode cX8_unitHere 0 = .ok (.aload_n 0, 1) := by decide +kernel
theorem dX8_unitHere_1 : decode cX8_unitHere 1 = .ok (.getfield 147, 3) := by decide +kernel
theorem dX8_unitHere_4 : decode cX8_unitHere 4 = .ok (.ifCond .eq 33, 3) := by decide +kernel
theorem dX8_unitHere_7 : decode cX8_unitHere 7 = .ok (.aload_n 0, 1) := by decide +kernel
theorem dX8_unitHere_8 : decode cX8_unitHere 8 = .ok (.aload_n 0, 1) := by decide +kernel
theorem dX8_unitHere_9 : decode cX8_unitHere 9 = .ok (.getfield 89, 3) := by decide +kernel
theorem dX8_unitHere_12 : decode cX8_unitHere 12 = .ok (.aload_n 0, 1) := by decide +kernel
theorem dX8_unitHere_13 : decode cX8_unitHere 13 = .ok (.getfield 156, 3) := by decide +kernel
theorem dX8_unitHere_16 : decode cX8_unitHere 16 = .ok (.invokevirtual 93, 3) := by decide +kernel
theorem dX8_unitHere_19 : decode cX8_unitHere 19 = .ok (.aload_n 0, 1) := by decide +kernel
theorem dX8_unitHere_20 : decode cX8_unitHere 20 = .ok (.aload_n 0, 1) := by decide +kernel
theorem dX8_unitHere_21 : decode cX8_unitHere 21 = .ok (.aload_n 0, 1) := by decide +kernel
theorem dX8_unitHere_22 : decode cX8_unitHere 22 = .ok (.getfield 141, 3) := by decide +kernel
theorem dX8_unitHere_25 : decode cX8_unitHere 25 = .ok (.invokevirtual 107, 3) := by decide +kernel
theorem dX8_unitHere_28 : decode cX8_unitHere 28 = .ok (.iconst 1, 1) := by decide +kernel
theorem dX8_unitHere_29 : decode cX8_unitHere 29 = .ok (.isub, 1) := by decide +kernel
theorem dX8_unitHere_30 : decode cX8_unitHere 30 = .ok (.invokevirtual 111, 3) := by decide +kernel
theorem dX8_unitHere_33 : decode cX8_unitHere 33 = .ok (.lmul, 1) := by decide +kernel
theorem dX8_unitHere_34 : decode cX8_unitHere 34 = .ok (.goto 15, 3) := by decide +kernel
theorem dX8_unitHere_37 : decode cX8_unitHere 37 = .ok (.aload_n 0, 1) := by decide +kernel
theorem dX8_unitHere_38 : decode cX8_unitHere 38 = .ok (.aload_n 0, 1) := by decide +kernel
theorem dX8_unitHere_39 : decode cX8_unitHere 39 = .ok (.aload_n 0, 1) := by decide +kernel
theorem dX8_unitHere_40 : decode cX8_unitHere 40 = .ok (.getfield 141, 3) := by decide +kernel
theorem dX8_unitHere_43 : decode cX8_unitHere 43 = .ok (.invokevirtual 107, 3) := by decide +kernel
theorem dX8_unitHere_46 : decode cX8_unitHere 46 = .ok (.invokevirtual 111, 3) := by decide +kernel
theorem dX8_unitHere_49 : decode cX8_unitHere 49 = .ok (.lreturn, 1) := by decide +kernel
theorem dX8_holdWorth_0 : decode cX8_holdWorth 0 = .ok (.aload_n 0, 1) := by decide +kernel
theorem dX8_holdWorth_1 : decode cX8_holdWorth 1 = .ok (.aload_n 0, 1) := by decide +kernel
theorem dX8_holdWorth_2 : decode cX8_holdWorth 2 = .ok (.getfield 141, 3) := by decide +kernel
theorem dX8_holdWorth_5 : decode cX8_holdWorth 5 = .ok (.invokevirtual 138, 3) := by decide +kernel
theorem dX8_holdWorth_8 : decode cX8_holdWorth 8 = .ok (.aload_n 0, 1) := by decide +kernel
theorem dX8_holdWorth_9 : decode cX8_holdWorth 9 = .ok (.aload_n 0, 1) := by decide +kernel
theorem dX8_holdWorth_10 : decode cX8_holdWorth 10 = .ok (.getfield 156, 3) := by decide +kernel
theorem dX8_holdWorth_13 : decode cX8_holdWorth 13 = .ok (.invokevirtual 99, 3) := by decide +kernel
theorem dX8_holdWorth_16 : decode cX8_holdWorth 16 = .ok (.aload_n 0, 1) := by decide +kernel
theorem dX8_holdWorth_17 : decode cX8_holdWorth 17 = .ok (.getfield 57, 3) := by decide +kernel
theorem dX8_holdWorth_20 : decode cX8_holdWorth 20 = .ok (.iload_n 1, 1) := by decide +kernel
theorem dX8_holdWorth_21 : decode cX8_holdWorth 21 = .ok (.laload, 1) := by decide +kernel
theorem dX8_holdWorth_22 : decode cX8_holdWorth 22 = .ok (.aload_n 0, 1) := by decide +kernel
theorem dX8_holdWorth_23 : decode cX8_holdWorth 23 = .ok (.getfield 47, 3) := by decide +kernel
theorem dX8_holdWorth_26 : decode cX8_holdWorth 26 = .ok (.aload_n 0, 1) := by decide +kernel
theorem dX8_holdWorth_27 : decode cX8_holdWorth 27 = .ok (.getfield 32, 3) := by decide +kernel
theorem dX8_holdWorth_30 : decode cX8_holdWorth 30 = .ok (.iload_n 1, 1) := by decide +kernel
theorem dX8_holdWorth_31 : decode cX8_holdWorth 31 = .ok (.iaload, 1) := by decide +kernel
theorem dX8_holdWorth_32 : decode cX8_holdWorth 32 = .ok (.laload, 1) := by decide +kernel
theorem dX8_holdWorth_33 : decode cX8_holdWorth 33 = .ok (.lmul, 1) := by decide +kernel
theorem dX8_holdWorth_34 : decode cX8_holdWorth 34 = .ok (.lreturn, 1) := by decide +kernel
theorem dX8_worthHere_0 : decode cX8_worthHere 0 = .ok (.aload_n 0, 1) := by decide +kernel
theorem dX8_worthHere_1 : decode cX8_worthHere 1 = .ok (.getfield 147, 3) := by decide +kernel
theorem dX8_worthHere_4 : decode cX8_worthHere 4 = .ok (.ifCond .ne 13, 3) := by decide +kernel
theorem dX8_worthHere_7 : decode cX8_worthHere 7 = .ok (.aload_n 0, 1) := by decide +kernel
theorem dX8_worthHere_8 : decode cX8_worthHere 8 = .ok (.getfield 51, 3) := by decide +kernel
theorem dX8_worthHere_11 : decode cX8_worthHere 11 = .ok (.aload_n 0, 1) := by decide +kernel
theorem dX8_worthHere_12 : decode cX8_worthHere 12 = .ok (.getfield 141, 3) := by decide +kernel
theorem dX8_worthHere_15 : decode cX8_worthHere 15 = .ok (.laload, 1) := by decide +kernel
theorem dX8_worthHere_16 : decode cX8_worthHere 16 = .ok (.lreturn, 1) := by decide +kernel
theorem dX8_worthHere_17 : decode cX8_worthHere 17 = .ok (.aload_n 0, 1) := by decide +kernel
theorem dX8_worthHere_18 : decode cX8_worthHere 18 = .ok (.getfield 150, 3) := by decide +kernel
theorem dX8_worthHere_21 : decode cX8_worthHere 21 = .ok (.ifCond .eq 12, 3) := by decide +kernel
theorem dX8_worthHere_24 : decode cX8_worthHere 24 = .ok (.aload_n 0, 1) := by decide +kernel
theorem dX8_worthHere_25 : decode cX8_worthHere 25 = .ok (.aload_n 0, 1) := by decide +kernel
theorem dX8_worthHere_26 : decode cX8_worthHere 26 = .ok (.getfield 153, 3) := by decide +kernel
theorem dX8_worthHere_29 : decode cX8_worthHere 29 = .ok (.invokevirtual 165, 3) := by decide +kernel
theorem dX8_worthHere_32 : decode cX8_worthHere 32 = .ok (.lreturn, 1) := by decide +kernel
theorem dX8_worthHere_33 : decode cX8_worthHere 33 = .ok (.aload_n 0, 1) := by decide +kernel
theorem dX8_worthHere_34 : decode cX8_worthHere 34 = .ok (.aload_n 0, 1) := by decide +kernel
theorem dX8_worthHere_35 : decode cX8_worthHere 35 = .ok (.getfield 141, 3) := by decide +kernel
theorem dX8_worthHere_38 : decode cX8_worthHere 38 = .ok (.invokevirtual 138, 3) := by decide +kernel
theorem dX8_worthHere_41 : decode cX8_worthHere 41 = .ok (.aload_n 0, 1) := by decide +kernel
theorem dX8_worthHere_42 : decode cX8_worthHere 42 = .ok (.getfield 54, 3) := by decide +kernel
theorem dX8_worthHere_45 : decode cX8_worthHere 45 = .ok (.sipush 462, 3) := by decide +kernel
theorem dX8_worthHere_48 : decode cX8_worthHere 48 = .ok (.aload_n 0, 1) := by decide +kernel
theorem dX8_worthHere_49 : decode cX8_worthHere 49 = .ok (.getfield 156, 3) := by decide +kernel
theorem dX8_worthHere_52 : decode cX8_worthHere 52 = .ok (.imul, 1) := by decide +kernel
theorem dX8_worthHere_53 : decode cX8_worthHere 53 = .ok (.aload_n 0, 1) := by decide +kernel
theorem dX8_worthHere_54 : decode cX8_worthHere 54 = .ok (.getfield 153, 3) := by decide +kernel
theorem dX8_worthHere_57 : decode cX8_worthHere 57 = .ok (.iadd, 1) := by decide +kernel
theorem dX8_worthHere_58 : decode cX8_worthHere 58 = .ok (.laload, 1) := by decide +kernel
theorem dX8_worthHere_59 : decode cX8_worthHere 59 = .ok (.lreturn, 1) := by decide +kernel
theorem dX8_stand_0 : decode cX8_stand 0 = .ok (.aload_n 0, 1) := by decide +kernel
theorem dX8_stand_1 : decode cX8_stand 1 = .ok (.aload_n 0, 1) := by decide +kernel
theorem dX8_stand_2 : decode cX8_stand 2 = .ok (.getfield 86, 3) := by decide +kernel
theorem dX8_stand_5 : decode cX8_stand 5 = .ok (.invokevirtual 111, 3) := by decide +kernel
theorem dX8_stand_8 : decode cX8_stand 8 = .ok (.lstore_n 1, 1) := by decide +kernel
theorem dX8_stand_9 : decode cX8_stand 9 = .ok (.aload_n 0, 1) := by decide +kernel
theorem dX8_stand_10 : decode cX8_stand 10 = .ok (.getfield 144, 3) := by decide +kernel
theorem dX8_stand_13 : decode cX8_stand 13 = .ok (.i2l, 1) := by decide +kernel
theorem dX8_stand_14 : decode cX8_stand 14 = .ok (.lload_n 1, 1) := by decide +kernel
theorem dX8_stand_15 : decode cX8_stand 15 = .ok (.lmul, 1) := by decide +kernel
theorem dX8_stand_16 : decode cX8_stand 16 = .ok (.aload_n 0, 1) := by decide +kernel
theorem dX8_stand_17 : decode cX8_stand 17 = .ok (.invokevirtual 168, 3) := by decide +kernel
theorem dX8_stand_20 : decode cX8_stand 20 = .ok (.lload_n 1, 1) := by decide +kernel
theorem dX8_stand_21 : decode cX8_stand 21 = .ok (.aload_n 0, 1) := by decide +kernel
theorem dX8_stand_22 : decode cX8_stand 22 = .ok (.invokevirtual 172, 3) := by decide +kernel
theorem dX8_stand_25 : decode cX8_stand 25 = .ok (.ldiv, 1) := by decide +kernel
theorem dX8_stand_26 : decode cX8_stand 26 = .ok (.lmul, 1) := by decide +kernel
theorem dX8_stand_27 : decode cX8_stand 27 = .ok (.ladd, 1) := by decide +kernel
theorem dX8_stand_28 : decode cX8_stand 28 = .ok (.lreturn, 1) := by decide +kernel
theorem dX8_mayFall_0 : decode cX8_mayFall 0 = .ok (.aload_n 0, 1) := by decide +kernel
theorem dX8_mayFall_1 : decode cX8_mayFall 1 = .ok (.getfield 82, 3) := by decide +kernel
theorem dX8_mayFall_4 : decode cX8_mayFall 4 = .ok (.ifCond .eq 28, 3) := by decide +kernel
theorem dX8_mayFall_7 : decode cX8_mayFall 7 = .ok (.aload_n 0, 1) := by decide +kernel
theorem dX8_mayFall_8 : decode cX8_mayFall 8 = .ok (.invokevirtual 175, 3) := by decide +kernel
theorem dX8_mayFall_11 : decode cX8_mayFall 11 = .ok (.ifCond .ne 21, 3) := by decide +kernel
theorem dX8_mayFall_14 : decode cX8_mayFall 14 = .ok (.aload_n 0, 1) := by decide +kernel
theorem dX8_mayFall_15 : decode cX8_mayFall 15 = .ok (.getfield 147, 3) := by decide +kernel
theorem dX8_mayFall_18 : decode cX8_mayFall 18 = .ok (.ifCond .eq 10, 3) := by decide +kernel
theorem dX8_mayFall_21 : decode cX8_mayFall 21 = .ok (.aload_n 0, 1) := by decide +kernel
theorem dX8_mayFall_22 : decode cX8_mayFall 22 = .ok (.getfield 150, 3) := by decide +kernel
theorem dX8_mayFall_25 : decode cX8_mayFall 25 = .ok (.ifCond .eq 7, 3) := by decide +kernel
theorem dX8_mayFall_28 : decode cX8_mayFall 28 = .ok (.iconst 1, 1) := by decide +kernel
theorem dX8_mayFall_29 : decode cX8_mayFall 29 = .ok (.goto 4, 3) := by decide +kernel
theorem dX8_mayFall_32 : decode cX8_mayFall 32 = .ok (.iconst 0, 1) := by decide +kernel
theorem dX8_mayFall_33 : decode cX8_mayFall 33 = .ok (.ireturn, 1) := by decide +kernel
theorem dX8_came_0 : decode cX8_came 0 = .ok (.aload_n 0, 1) := by decide +kernel
theorem dX8_came_1 : decode cX8_came 1 = .ok (.invokevirtual 178, 3) := by decide +kernel
theorem dX8_came_4 : decode cX8_came 4 = .ok (.lstore_n 2, 1) := by decide +kernel
theorem dX8_came_5 : decode cX8_came 5 = .ok (.aload_n 0, 1) := by decide +kernel
theorem dX8_came_6 : decode cX8_came 6 = .ok (.aload_n 0, 1) := by decide +kernel
theorem dX8_came_7 : decode cX8_came 7 = .ok (.getfield 147, 3) := by decide +kernel
theorem dX8_came_10 : decode cX8_came 10 = .ok (.ifCond .eq 12, 3) := by decide +kernel
theorem dX8_came_13 : decode cX8_came 13 = .ok (.aload_n 0, 1) := by decide +kernel
theorem dX8_came_14 : decode cX8_came 14 = .ok (.getfield 156, 3) := by decide +kernel
theorem dX8_came_17 : decode cX8_came 17 = .ok (.iconst 1, 1) := by decide +kernel
theorem dX8_came_18 : decode cX8_came 18 = .ok (.isub, 1) := by decide +kernel
theorem dX8_came_19 : decode cX8_came 19 = .ok (.goto 9, 3) := by decide +kernel
theorem dX8_came_22 : decode cX8_came 22 = .ok (.aload_n 0, 1) := by decide +kernel
theorem dX8_came_23 : decode cX8_came 23 = .ok (.getfield 16, 3) := by decide +kernel
theorem dX8_came_26 : decode cX8_came 26 = .ok (.iconst 1, 1) := by decide +kernel
theorem dX8_came_27 : decode cX8_came 27 = .ok (.isub, 1) := by decide +kernel
theorem dX8_came_28 : decode cX8_came 28 = .ok (.putfield 156, 3) := by decide +kernel
theorem dX8_came_31 : decode cX8_came 31 = .ok (.aload_n 0, 1) := by decide +kernel
theorem dX8_came_32 : decode cX8_came 32 = .ok (.iconst 1, 1) := by decide +kernel
theorem dX8_came_33 : decode cX8_came 33 = .ok (.putfield 147, 3) := by decide +kernel
theorem dX8_came_36 : decode cX8_came 36 = .ok (.aload_n 0, 1) := by decide +kernel
theorem dX8_came_37 : decode cX8_came 37 = .ok (.iconst 0, 1) := by decide +kernel
theorem dX8_came_38 : decode cX8_came 38 = .ok (.putfield 150, 3) := by decide +kernel
theorem dX8_came_41 : decode cX8_came 41 = .ok (.aload_n 0, 1) := by decide +kernel
theorem dX8_came_42 : decode cX8_came 42 = .ok (.iload_n 1, 1) := by decide +kernel
theorem dX8_came_43 : decode cX8_came 43 = .ok (.putfield 153, 3) := by decide +kernel
theorem dX8_came_46 : decode cX8_came 46 = .ok (.aload_n 0, 1) := by decide +kernel
theorem dX8_came_47 : decode cX8_came 47 = .ok (.dup, 1) := by decide +kernel
theorem dX8_came_48 : decode cX8_came 48 = .ok (.getfield 159, 3) := by decide +kernel
theorem dX8_came_51 : decode cX8_came 51 = .ok (.aload_n 0, 1) := by decide +kernel
theorem dX8_came_52 : decode cX8_came 52 = .ok (.invokevirtual 178, 3) := by decide +kernel
theorem dX8_came_55 : decode cX8_came 55 = .ok (.lload_n 2, 1) := by decide +kernel
theorem dX8_came_56 : decode cX8_came 56 = .ok (.lsub, 1) := by decide +kernel
theorem dX8_came_57 : decode cX8_came 57 = .ok (.ladd, 1) := by decide +kernel
theorem dX8_came_58 : decode cX8_came 58 = .ok (.putfield 159, 3) := by decide +kernel
theorem dX8_came_61 : decode cX8_came 61 = .ok (.aload_n 0, 1) := by decide +kernel
theorem dX8_came_62 : decode cX8_came 62 = .ok (.getfield 35, 3) := by decide +kernel
theorem dX8_came_65 : decode cX8_came 65 = .ok (.aload_n 0, 1) := by decide +kernel
theorem dX8_came_66 : decode cX8_came 66 = .ok (.getfield 153, 3) := by decide +kernel
theorem dX8_came_69 : decode cX8_came 69 = .ok (.iaload, 1) := by decide +kernel
theorem dX8_came_70 : decode cX8_came 70 = .ok (.ireturn, 1) := by decide +kernel
theorem dX8_fall_0 : decode cX8_fall 0 = .ok (.aload_n 0, 1) := by decide +kernel
theorem dX8_fall_1 : decode cX8_fall 1 = .ok (.invokevirtual 181, 3) := by decide +kernel
theorem dX8_fall_4 : decode cX8_fall 4 = .ok (.ifCond .ne 6, 3) := by decide +kernel
theorem dX8_fall_7 : decode cX8_fall 7 = .ok (.bipush (-4), 2) := by decide +kernel
theorem dX8_fall_9 : decode cX8_fall 9 = .ok (.ireturn, 1) := by decide +kernel
theorem dX8_fall_10 : decode cX8_fall 10 = .ok (.aload_n 0, 1) := by decide +kernel
theorem dX8_fall_11 : decode cX8_fall 11 = .ok (.getfield 147, 3) := by decide +kernel
theorem dX8_fall_14 : decode cX8_fall 14 = .ok (.ifCond .eq 10, 3) := by decide +kernel
theorem dX8_fall_17 : decode cX8_fall 17 = .ok (.aload_n 0, 1) := by decide +kernel
theorem dX8_fall_18 : decode cX8_fall 18 = .ok (.getfield 153, 3) := by decide +kernel
theorem dX8_fall_21 : decode cX8_fall 21 = .ok (.goto 4, 3) := by decide +kernel
theorem dX8_fall_24 : decode cX8_fall 24 = .ok (.iconst 0, 1) := by decide +kernel
theorem dX8_fall_25 : decode cX8_fall 25 = .ok (.istore_n 2, 1) := by decide +kernel
theorem dX8_fall_26 : decode cX8_fall 26 = .ok (.iload_n 2, 1) := by decide +kernel
theorem dX8_fall_27 : decode cX8_fall 27 = .ok (.istore_n 3, 1) := by decide +kernel
theorem dX8_fall_28 : decode cX8_fall 28 = .ok (.iload_n 1, 1) := by decide +kernel
theorem dX8_fall_29 : decode cX8_fall 29 = .ok (.istore 4, 2) := by decide +kernel
theorem dX8_fall_31 : decode cX8_fall 31 = .ok (.iload 4, 2) := by decide +kernel
theorem dX8_fall_33 : decode cX8_fall 33 = .ok (.ifCond .le 60, 3) := by decide +kernel
theorem dX8_fall_36 : decode cX8_fall 36 = .ok (.aload_n 0, 1) := by decide +kernel
theorem dX8_fall_37 : decode cX8_fall 37 = .ok (.getfield 32, 3) := by decide +kernel
theorem dX8_fall_40 : decode cX8_fall 40 = .ok (.iload_n 3, 1) := by decide +kernel
theorem dX8_fall_41 : decode cX8_fall 41 = .ok (.iaload, 1) := by decide +kernel
theorem dX8_fall_42 : decode cX8_fall 42 = .ok (.aload_n 0, 1) := by decide +kernel
theorem dX8_fall_43 : decode cX8_fall 43 = .ok (.getfield 7, 3) := by decide +kernel
theorem dX8_fall_46 : decode cX8_fall 46 = .ok (.if_icmp .ge 47, 3) := by decide +kernel
theorem dX8_fall_49 : decode cX8_fall 49 = .ok (.iload 4, 2) := by decide +kernel
theorem dX8_fall_51 : decode cX8_fall 51 = .ok (.bipush 10, 2) := by decide +kernel
theorem dX8_fall_53 : decode cX8_fall 53 = .ok (.irem, 1) := by decide +kernel
theorem dX8_fall_54 : decode cX8_fall 54 = .ok (.iconst 1, 1) := by decide +kernel
theorem dX8_fall_55 : decode cX8_fall 55 = .ok (.aload_n 0, 1) := by decide +kernel
theorem dX8_fall_56 : decode cX8_fall 56 = .ok (.getfield 13, 3) := by decide +kernel
theorem dX8_fall_59 : decode cX8_fall 59 = .ok (.invokestatic 78, 3) := by decide +kernel
theorem dX8_fall_62 : decode cX8_fall 62 = .ok (.ifCond .eq 31, 3) := by decide +kernel
theorem dX8_fall_65 : decode cX8_fall 65 = .ok (.aload_n 0, 1) := by decide +kernel
theorem dX8_fall_66 : decode cX8_fall 66 = .ok (.getfield 38, 3) := by decide +kernel
theorem dX8_fall_69 : decode cX8_fall 69 = .ok (.bipush 6, 2) := by decide +kernel
theorem dX8_fall_71 : decode cX8_fall 71 = .ok (.iload_n 3, 1) := by decide +kernel
theorem dX8_fall_72 : decode cX8_fall 72 = .ok (.imul, 1) := by decide +kernel
theorem dX8_fall_73 : decode cX8_fall 73 = .ok (.iload 4, 2) := by decide +kernel
theorem dX8_fall_75 : decode cX8_fall 75 = .ok (.bipush 10, 2) := by decide +kernel
theorem dX8_fall_77 : decode cX8_fall 77 = .ok (.irem, 1) := by decide +kernel
theorem dX8_fall_78 : decode cX8_fall 78 = .ok (.iadd, 1) := by decide +kernel
theorem dX8_fall_79 : decode cX8_fall 79 = .ok (.iconst 1, 1) := by decide +kernel
theorem dX8_fall_80 : decode cX8_fall 80 = .ok (.isub, 1) := by decide +kernel
theorem dX8_fall_81 : decode cX8_fall 81 = .ok (.iaload, 1) := by decide +kernel
theorem dX8_fall_82 : decode cX8_fall 82 = .ok (.istore_n 3, 1) := by decide +kernel
theorem dX8_fall_83 : decode cX8_fall 83 = .ok (.iload 4, 2) := by decide +kernel
theorem dX8_fall_85 : decode cX8_fall 85 = .ok (.bipush 10, 2) := by decide +kernel
theorem dX8_fall_87 : decode cX8_fall 87 = .ok (.idiv, 1) := by decide +kernel
theorem dX8_fall_88 : decode cX8_fall 88 = .ok (.istore 4, 2) := by decide +kernel
theorem dX8_fall_90 : decode cX8_fall 90 = .ok (.goto (-59), 3) := by decide +kernel
theorem dX8_fall_93 : decode cX8_fall 93 = .ok (.iload 4, 2) := by decide +kernel
theorem dX8_fall_95 : decode cX8_fall 95 = .ok (.ifCond .ne 16, 3) := by decide +kernel
theorem dX8_fall_98 : decode cX8_fall 98 = .ok (.aload_n 0, 1) := by decide +kernel
theorem dX8_fall_99 : decode cX8_fall 99 = .ok (.getfield 32, 3) := by decide +kernel
theorem dX8_fall_102 : decode cX8_fall 102 = .ok (.iload_n 3, 1) := by decide +kernel
theorem dX8_fall_103 : decode cX8_fall 103 = .ok (.iaload, 1) := by decide +kernel
theorem dX8_fall_104 : decode cX8_fall 104 = .ok (.aload_n 0, 1) := by decide +kernel
theorem dX8_fall_105 : decode cX8_fall 105 = .ok (.getfield 7, 3) := by decide +kernel
theorem dX8_fall_108 : decode cX8_fall 108 = .ok (.if_icmp .eq 8, 3) := by decide +kernel
theorem dX8_fall_111 : decode cX8_fall 111 = .ok (.bipush (-3), 2) := by decide +kernel
theorem dX8_fall_113 : decode cX8_fall 113 = .ok (.goto 8, 3) := by decide +kernel
theorem dX8_fall_116 : decode cX8_fall 116 = .ok (.aload_n 0, 1) := by decide +kernel
theorem dX8_fall_117 : decode cX8_fall 117 = .ok (.iload_n 3, 1) := by decide +kernel
theorem dX8_fall_118 : decode cX8_fall 118 = .ok (.invokevirtual 184, 3) := by decide +kernel
theorem dX8_fall_121 : decode cX8_fall 121 = .ok (.ireturn, 1) := by decide +kernel
theorem dX8_draw_0 : decode cX8_draw 0 = .ok (.aload_n 0, 1) := by decide +kernel
theorem dX8_draw_1 : decode cX8_draw 1 = .ok (.invokevirtual 181, 3) := by decide +kernel
theorem dX8_draw_4 : decode cX8_draw 4 = .ok (.ifCond .ne 6, 3) := by decide +kernel
theorem dX8_draw_7 : decode cX8_draw 7 = .ok (.bipush (-4), 2) := by decide +kernel
theorem dX8_draw_9 : decode cX8_draw 9 = .ok (.ireturn, 1) := by decide +kernel
theorem dX8_draw_10 : decode cX8_draw 10 = .ok (.aload_n 0, 1) := by decide +kernel
theorem dX8_draw_11 : decode cX8_draw 11 = .ok (.getfield 147, 3) := by decide +kernel
theorem dX8_draw_14 : decode cX8_draw 14 = .ok (.ifCond .eq 10, 3) := by decide +kernel
theorem dX8_draw_17 : decode cX8_draw 17 = .ok (.aload_n 0, 1) := by decide +kernel
theorem dX8_draw_18 : decode cX8_draw 18 = .ok (.getfield 153, 3) := by decide +kernel
theorem dX8_draw_21 : decode cX8_draw 21 = .ok (.goto 4, 3) := by decide +kernel
theorem dX8_draw_24 : decode cX8_draw 24 = .ok (.iconst 0, 1) := by decide +kernel
theorem dX8_draw_25 : decode cX8_draw 25 = .ok (.istore_n 2, 1) := by decide +kernel
theorem dX8_draw_26 : decode cX8_draw 26 = .ok (.iload_n 1, 1) := by decide +kernel
theorem dX8_draw_27 : decode cX8_draw 27 = .ok (.istore_n 3, 1) := by decide +kernel
theorem dX8_draw_28 : decode cX8_draw 28 = .ok (.aload_n 0, 1) := by decide +kernel
theorem dX8_draw_29 : decode cX8_draw 29 = .ok (.getfield 32, 3) := by decide +kernel
theorem dX8_draw_32 : decode cX8_draw 32 = .ok (.iload_n 2, 1) := by decide +kernel
theorem dX8_draw_33 : decode cX8_draw 33 = .ok (.iaload, 1) := by decide +kernel
theorem dX8_draw_34 : decode cX8_draw 34 = .ok (.aload_n 0, 1) := by decide +kernel
theorem dX8_draw_35 : decode cX8_draw 35 = .ok (.getfield 7, 3) := by decide +kernel
theorem dX8_draw_38 : decode cX8_draw 38 = .ok (.if_icmp .ge 38, 3) := by decide +kernel
theorem dX8_draw_41 : decode cX8_draw 41 = .ok (.iload_n 3, 1) := by decide +kernel
theorem dX8_draw_42 : decode cX8_draw 42 = .ok (.ldc 187, 2) := by decide +kernel
theorem dX8_draw_44 : decode cX8_draw 44 = .ok (.imul, 1) := by decide +kernel
theorem dX8_draw_45 : decode cX8_draw 45 = .ok (.sipush 12345, 3) := by decide +kernel
theorem dX8_draw_48 : decode cX8_draw 48 = .ok (.iadd, 1) := by decide +kernel
theorem dX8_draw_49 : decode cX8_draw 49 = .ok (.ldc 188, 2) := by decide +kernel
theorem dX8_draw_51 : decode cX8_draw 51 = .ok (.iand, 1) := by decide +kernel
theorem dX8_draw_52 : decode cX8_draw 52 = .ok (.istore_n 3, 1) := by decide +kernel
theorem dX8_draw_53 : decode cX8_draw 53 = .ok (.aload_n 0, 1) := by decide +kernel
theorem dX8_draw_54 : decode cX8_draw 54 = .ok (.getfield 38, 3) := by decide +kernel
theorem dX8_draw_57 : decode cX8_draw 57 = .ok (.bipush 6, 2) := by decide +kernel
theorem dX8_draw_59 : decode cX8_draw 59 = .ok (.iload_n 2, 1) := by decide +kernel
theorem dX8_draw_60 : decode cX8_draw 60 = .ok (.imul, 1) := by decide +kernel
theorem dX8_draw_61 : decode cX8_draw 61 = .ok (.iload_n 3, 1) := by decide +kernel
theorem dX8_draw_62 : decode cX8_draw 62 = .ok (.bipush 12, 2) := by decide +kernel
theorem dX8_draw_64 : decode cX8_draw 64 = .ok (.ishr, 1) := by decide +kernel
theorem dX8_draw_65 : decode cX8_draw 65 = .ok (.aload_n 0, 1) := by decide +kernel
theorem dX8_draw_66 : decode cX8_draw 66 = .ok (.getfield 13, 3) := by decide +kernel
theorem dX8_draw_69 : decode cX8_draw 69 = .ok (.irem, 1) := by decide +kernel
theorem dX8_draw_70 : decode cX8_draw 70 = .ok (.iadd, 1) := by decide +kernel
theorem dX8_draw_71 : decode cX8_draw 71 = .ok (.iaload, 1) := by decide +kernel
theorem dX8_draw_72 : decode cX8_draw 72 = .ok (.istore_n 2, 1) := by decide +kernel
theorem dX8_draw_73 : decode cX8_draw 73 = .ok (.goto (-45), 3) := by decide +kernel
theorem dX8_draw_76 : decode cX8_draw 76 = .ok (.aload_n 0, 1) := by decide +kernel
theorem dX8_draw_77 : decode cX8_draw 77 = .ok (.iload_n 2, 1) := by decide +kernel
theorem dX8_draw_78 : decode cX8_draw 78 = .ok (.invokevirtual 184, 3) := by decide +kernel
theorem dX8_draw_81 : decode cX8_draw 81 = .ok (.ireturn, 1) := by decide +kernel
theorem dX8_mayHold_0 : decode cX8_mayHold 0 = .ok (.aload_n 0, 1) := by decide +kernel
theorem dX8_mayHold_1 : decode cX8_mayHold 1 = .ok (.getfield 82, 3) := by decide +kernel
theorem dX8_mayHold_4 : decode cX8_mayHold 4 = .ok (.ifCond .eq 28, 3) := by decide +kernel
theorem dX8_mayHold_7 : decode cX8_mayHold 7 = .ok (.aload_n 0, 1) := by decide +kernel
theorem dX8_mayHold_8 : decode cX8_mayHold 8 = .ok (.getfield 147, 3) := by decide +kernel
theorem dX8_mayHold_11 : decode cX8_mayHold 11 = .ok (.ifCond .eq 21, 3) := by decide +kernel
theorem dX8_mayHold_14 : decode cX8_mayHold 14 = .ok (.aload_n 0, 1) := by decide +kernel
theorem dX8_mayHold_15 : decode cX8_mayHold 15 = .ok (.getfield 150, 3) := by decide +kernel
theorem dX8_mayHold_18 : decode cX8_mayHold 18 = .ok (.ifCond .ne 14, 3) := by decide +kernel
theorem dX8_mayHold_21 : decode cX8_mayHold 21 = .ok (.aload_n 0, 1) := by decide +kernel
theorem dX8_mayHold_22 : decode cX8_mayHold 22 = .ok (.getfield 156, 3) := by decide +kernel
theorem dX8_mayHold_25 : decode cX8_mayHold 25 = .ok (.ifCond .le 7, 3) := by decide +kernel
theorem dX8_mayHold_28 : decode cX8_mayHold 28 = .ok (.iconst 1, 1) := by decide +kernel
theorem dX8_mayHold_29 : decode cX8_mayHold 29 = .ok (.goto 4, 3) := by decide +kernel
theorem dX8_mayHold_32 : decode cX8_mayHold 32 = .ok (.iconst 0, 1) := by decide +kernel
theorem dX8_mayHold_33 : decode cX8_mayHold 33 = .ok (.ireturn, 1) := by decide +kernel
theorem dX8_heldOf_0 : decode cX8_heldOf 0 = .ok (.aload_n 0, 1) := by decide +kernel
theorem dX8_heldOf_1 : decode cX8_heldOf 1 = .ok (.iload_n 1, 1) := by decide +kernel
theorem dX8_heldOf_2 : decode cX8_heldOf 2 = .ok (.invokevirtual 189, 3) := by decide +kernel
theorem dX8_heldOf_5 : decode cX8_heldOf 5 = .ok (.istore_n 2, 1) := by decide +kernel
theorem dX8_heldOf_6 : decode cX8_heldOf 6 = .ok (.iload_n 2, 1) := by decide +kernel
theorem dX8_heldOf_7 : decode cX8_heldOf 7 = .ok (.iconst (-1), 1) := by decide +kernel
theorem dX8_heldOf_8 : decode cX8_heldOf 8 = .ok (.if_icmp .eq 19, 3) := by decide +kernel
theorem dX8_heldOf_11 : decode cX8_heldOf 11 = .ok (.aload_n 0, 1) := by decide +kernel
theorem dX8_heldOf_12 : decode cX8_heldOf 12 = .ok (.iload_n 2, 1) := by decide +kernel
theorem dX8_heldOf_13 : decode cX8_heldOf 13 = .ok (.aload_n 0, 1) := by decide +kernel
theorem dX8_heldOf_14 : decode cX8_heldOf 14 = .ok (.getfield 153, 3) := by decide +kernel
theorem dX8_heldOf_17 : decode cX8_heldOf 17 = .ok (.invokevirtual 103, 3) := by decide +kernel
theorem dX8_heldOf_20 : decode cX8_heldOf 20 = .ok (.ifCond .eq 7, 3) := by decide +kernel
theorem dX8_heldOf_23 : decode cX8_heldOf 23 = .ok (.iload_n 2, 1) := by decide +kernel
theorem dX8_heldOf_24 : decode cX8_heldOf 24 = .ok (.goto 4, 3) := by decide +kernel
theorem dX8_heldOf_27 : decode cX8_heldOf 27 = .ok (.iconst (-1), 1) := by decide +kernel
theorem dX8_heldOf_28 : decode cX8_heldOf 28 = .ok (.ireturn, 1) := by decide +kernel
theorem dX8_hold_0 : decode cX8_hold 0 = .ok (.aload_n 0, 1) := by decide +kernel
theorem dX8_hold_1 : decode cX8_hold 1 = .ok (.invokevirtual 192, 3) := by decide +kernel
theorem dX8_hold_4 : decode cX8_hold 4 = .ok (.ifCond .ne 6, 3) := by decide +kernel
theorem dX8_hold_7 : decode cX8_hold 7 = .ok (.bipush (-4), 2) := by decide +kernel
theorem dX8_hold_9 : decode cX8_hold 9 = .ok (.ireturn, 1) := by decide +kernel
theorem dX8_hold_10 : decode cX8_hold 10 = .ok (.aload_n 0, 1) := by decide +kernel
theorem dX8_hold_11 : decode cX8_hold 11 = .ok (.iload_n 1, 1) := by decide +kernel
theorem dX8_hold_12 : decode cX8_hold 12 = .ok (.invokevirtual 195, 3) := by decide +kernel
theorem dX8_hold_15 : decode cX8_hold 15 = .ok (.istore_n 2, 1) := by decide +kernel
theorem dX8_hold_16 : decode cX8_hold 16 = .ok (.iload_n 2, 1) := by decide +kernel
theorem dX8_hold_17 : decode cX8_hold 17 = .ok (.iconst (-1), 1) := by decide +kernel
theorem dX8_hold_18 : decode cX8_hold 18 = .ok (.if_icmp .ne 6, 3) := by decide +kernel
theorem dX8_hold_21 : decode cX8_hold 21 = .ok (.bipush (-3), 2) := by decide +kernel
theorem dX8_hold_23 : decode cX8_hold 23 = .ok (.ireturn, 1) := by decide +kernel
theorem dX8_hold_24 : decode cX8_hold 24 = .ok (.aload_n 0, 1) := by decide +kernel
theorem dX8_hold_25 : decode cX8_hold 25 = .ok (.invokevirtual 178, 3) := by decide +kernel
theorem dX8_hold_28 : decode cX8_hold 28 = .ok (.lstore_n 3, 1) := by decide +kernel
theorem dX8_hold_29 : decode cX8_hold 29 = .ok (.aload_n 0, 1) := by decide +kernel
theorem dX8_hold_30 : decode cX8_hold 30 = .ok (.getfield 32, 3) := by decide +kernel
theorem dX8_hold_33 : decode cX8_hold 33 = .ok (.iload_n 2, 1) := by decide +kernel
theorem dX8_hold_34 : decode cX8_hold 34 = .ok (.iaload, 1) := by decide +kernel
theorem dX8_hold_35 : decode cX8_hold 35 = .ok (.aload_n 0, 1) := by decide +kernel
theorem dX8_hold_36 : decode cX8_hold 36 = .ok (.getfield 7, 3) := by decide +kernel
theorem dX8_hold_39 : decode cX8_hold 39 = .ok (.if_icmp .ne 16, 3) := by decide +kernel
theorem dX8_hold_42 : decode cX8_hold 42 = .ok (.aload_n 0, 1) := by decide +kernel
theorem dX8_hold_43 : decode cX8_hold 43 = .ok (.dup, 1) := by decide +kernel
theorem dX8_hold_44 : decode cX8_hold 44 = .ok (.getfield 156, 3) := by decide +kernel
theorem dX8_hold_47 : decode cX8_hold 47 = .ok (.iconst 1, 1) := by decide +kernel
theorem dX8_hold_48 : decode cX8_hold 48 = .ok (.isub, 1) := by decide +kernel
theorem dX8_hold_49 : decode cX8_hold 49 = .ok (.putfield 156, 3) := by decide +kernel
theorem dX8_hold_52 : decode cX8_hold 52 = .ok (.goto 13, 3) := by decide +kernel
theorem dX8_hold_55 : decode cX8_hold 55 = .ok (.aload_n 0, 1) := by decide +kernel
theorem dX8_hold_56 : decode cX8_hold 56 = .ok (.iconst 1, 1) := by decide +kernel
theorem dX8_hold_57 : decode cX8_hold 57 = .ok (.putfield 150, 3) := by decide +kernel
theorem dX8_hold_60 : decode cX8_hold 60 = .ok (.aload_n 0, 1) := by decide +kernel
theorem dX8_hold_61 : decode cX8_hold 61 = .ok (.iload_n 2, 1) := by decide +kernel
theorem dX8_hold_62 : decode cX8_hold 62 = .ok (.putfield 153, 3) := by decide +kernel
theorem dX8_hold_65 : decode cX8_hold 65 = .ok (.aload_n 0, 1) := by decide +kernel
theorem dX8_hold_66 : decode cX8_hold 66 = .ok (.dup, 1) := by decide +kernel
theorem dX8_hold_67 : decode cX8_hold 67 = .ok (.getfield 162, 3) := by decide +kernel
theorem dX8_hold_70 : decode cX8_hold 70 = .ok (.lload_n 3, 1) := by decide +kernel
theorem dX8_hold_71 : decode cX8_hold 71 = .ok (.aload_n 0, 1) := by decide +kernel
theorem dX8_hold_72 : decode cX8_hold 72 = .ok (.invokevirtual 178, 3) := by decide +kernel
theorem dX8_hold_75 : decode cX8_hold 75 = .ok (.lsub, 1) := by decide +kernel
theorem dX8_hold_76 : decode cX8_hold 76 = .ok (.ladd, 1) := by decide +kernel
theorem dX8_hold_77 : decode cX8_hold 77 = .ok (.putfield 162, 3) := by decide +kernel
theorem dX8_hold_80 : decode cX8_hold 80 = .ok (.aload_n 0, 1) := by decide +kernel
theorem dX8_hold_81 : decode cX8_hold 81 = .ok (.getfield 7, 3) := by decide +kernel
theorem dX8_hold_84 : decode cX8_hold 84 = .ok (.aload_n 0, 1) := by decide +kernel
theorem dX8_hold_85 : decode cX8_hold 85 = .ok (.getfield 32, 3) := by decide +kernel
theorem dX8_hold_88 : decode cX8_hold 88 = .ok (.iload_n 2, 1) := by decide +kernel
theorem dX8_hold_89 : decode cX8_hold 89 = .ok (.iaload, 1) := by decide +kernel
theorem dX8_hold_90 : decode cX8_hold 90 = .ok (.isub, 1) := by decide +kernel
theorem dX8_hold_91 : decode cX8_hold 91 = .ok (.ireturn, 1) := by decide +kernel
theorem dX8_fill_0 : decode cX8_fill 0 = .ok (.iload_n 1, 1) := by decide +kernel
theorem dX8_fill_1 : decode cX8_fill 1 = .ok (.iconst 0, 1) := by decide +kernel
theorem dX8_fill_2 : decode cX8_fill 2 = .ok (.aload_n 0, 1) := by decide +kernel
theorem dX8_fill_3 : decode cX8_fill 3 = .ok (.getfield 86, 3) := by decide +kernel
theorem dX8_fill_6 : decode cX8_fill 6 = .ok (.iconst 1, 1) := by decide +kernel
theorem dX8_fill_7 : decode cX8_fill 7 = .ok (.isub, 1) := by decide +kernel
theorem dX8_fill_8 : decode cX8_fill 8 = .ok (.invokestatic 78, 3) := by decide +kernel
theorem dX8_fill_11 : decode cX8_fill 11 = .ok (.ifCond .ne 6, 3) := by decide +kernel
theorem dX8_fill_14 : decode cX8_fill 14 = .ok (.bipush (-2), 2) := by decide +kernel
theorem dX8_fill_16 : decode cX8_fill 16 = .ok (.ireturn, 1) := by decide +kernel
theorem dX8_fill_17 : decode cX8_fill 17 = .ok (.aload_n 0, 1) := by decide +kernel
theorem dX8_fill_18 : decode cX8_fill 18 = .ok (.getfield 82, 3) := by decide +kernel
theorem dX8_fill_21 : decode cX8_fill 21 = .ok (.ifCond .eq 29, 3) := by decide +kernel
theorem dX8_fill_24 : decode cX8_fill 24 = .ok (.aload_n 0, 1) := by decide +kernel
theorem dX8_fill_25 : decode cX8_fill 25 = .ok (.getfield 147, 3) := by decide +kernel
theorem dX8_fill_28 : decode cX8_fill 28 = .ok (.ifCond .eq 22, 3) := by decide +kernel
theorem dX8_fill_31 : decode cX8_fill 31 = .ok (.aload_n 0, 1) := by decide +kernel
theorem dX8_fill_32 : decode cX8_fill 32 = .ok (.getfield 150, 3) := by decide +kernel
theorem dX8_fill_35 : decode cX8_fill 35 = .ok (.ifCond .ne 15, 3) := by decide +kernel
theorem dX8_fill_38 : decode cX8_fill 38 = .ok (.aload_n 0, 1) := by decide +kernel
theorem dX8_fill_39 : decode cX8_fill 39 = .ok (.getfield 141, 3) := by decide +kernel
theorem dX8_fill_42 : decode cX8_fill 42 = .ok (.iload_n 1, 1) := by decide +kernel
theorem dX8_fill_43 : decode cX8_fill 43 = .ok (.ishr, 1) := by decide +kernel
theorem dX8_fill_44 : decode cX8_fill 44 = .ok (.iconst 1, 1) := by decide +kernel
theorem dX8_fill_45 : decode cX8_fill 45 = .ok (.iand, 1) := by decide +kernel
theorem dX8_fill_46 : decode cX8_fill 46 = .ok (.iconst 1, 1) := by decide +kernel
theorem dX8_fill_47 : decode cX8_fill 47 = .ok (.if_icmp .ne 6, 3) := by decide +kernel
theorem dX8_fill_50 : decode cX8_fill 50 = .ok (.bipush (-4), 2) := by decide +kernel
theorem dX8_fill_52 : decode cX8_fill 52 = .ok (.ireturn, 1) := by decide +kernel
theorem dX8_fill_53 : decode cX8_fill 53 = .ok (.aload_n 0, 1) := by decide +kernel
theorem dX8_fill_54 : decode cX8_fill 54 = .ok (.invokevirtual 178, 3) := by decide +kernel
theorem dX8_fill_57 : decode cX8_fill 57 = .ok (.lstore_n 2, 1) := by decide +kernel
theorem dX8_fill_58 : decode cX8_fill 58 = .ok (.aload_n 0, 1) := by decide +kernel
theorem dX8_fill_59 : decode cX8_fill 59 = .ok (.getfield 41, 3) := by decide +kernel
theorem dX8_fill_62 : decode cX8_fill 62 = .ok (.bipush 8, 2) := by decide +kernel
theorem dX8_fill_64 : decode cX8_fill 64 = .ok (.aload_n 0, 1) := by decide +kernel
theorem dX8_fill_65 : decode cX8_fill 65 = .ok (.getfield 153, 3) := by decide +kernel
theorem dX8_fill_68 : decode cX8_fill 68 = .ok (.imul, 1) := by decide +kernel
theorem dX8_fill_69 : decode cX8_fill 69 = .ok (.iload_n 1, 1) := by decide +kernel
theorem dX8_fill_70 : decode cX8_fill 70 = .ok (.iadd, 1) := by decide +kernel
theorem dX8_fill_71 : decode cX8_fill 71 = .ok (.iaload, 1) := by decide +kernel
theorem dX8_fill_72 : decode cX8_fill 72 = .ok (.istore 4, 2) := by decide +kernel
theorem dX8_fill_74 : decode cX8_fill 74 = .ok (.aload_n 0, 1) := by decide +kernel
theorem dX8_fill_75 : decode cX8_fill 75 = .ok (.getfield 44, 3) := by decide +kernel
theorem dX8_fill_78 : decode cX8_fill 78 = .ok (.iload_n 1, 1) := by decide +kernel
theorem dX8_fill_79 : decode cX8_fill 79 = .ok (.iload 4, 2) := by decide +kernel
theorem dX8_fill_81 : decode cX8_fill 81 = .ok (.iastore, 1) := by decide +kernel
theorem dX8_fill_82 : decode cX8_fill 82 = .ok (.aload_n 0, 1) := by decide +kernel
theorem dX8_fill_83 : decode cX8_fill 83 = .ok (.dup, 1) := by decide +kernel
theorem dX8_fill_84 : decode cX8_fill 84 = .ok (.getfield 144, 3) := by decide +kernel
theorem dX8_fill_87 : decode cX8_fill 87 = .ok (.iload 4, 2) := by decide +kernel
theorem dX8_fill_89 : decode cX8_fill 89 = .ok (.iadd, 1) := by decide +kernel
theorem dX8_fill_90 : decode cX8_fill 90 = .ok (.putfield 144, 3) := by decide +kernel
theorem dX8_fill_93 : decode cX8_fill 93 = .ok (.aload_n 0, 1) := by decide +kernel
theorem dX8_fill_94 : decode cX8_fill 94 = .ok (.aload_n 0, 1) := by decide +kernel
theorem dX8_fill_95 : decode cX8_fill 95 = .ok (.getfield 141, 3) := by decide +kernel
theorem dX8_fill_98 : decode cX8_fill 98 = .ok (.iconst 1, 1) := by decide +kernel
theorem dX8_fill_99 : decode cX8_fill 99 = .ok (.iload_n 1, 1) := by decide +kernel
theorem dX8_fill_100 : decode cX8_fill 100 = .ok (.ishl, 1) := by decide +kernel
theorem dX8_fill_101 : decode cX8_fill 101 = .ok (.ior, 1) := by decide +kernel
theorem dX8_fill_102 : decode cX8_fill 102 = .ok (.putfield 141, 3) := by decide +kernel
theorem dX8_fill_105 : decode cX8_fill 105 = .ok (.aload_n 0, 1) := by decide +kernel
theorem dX8_fill_106 : decode cX8_fill 106 = .ok (.iconst 0, 1) := by decide +kernel
theorem dX8_fill_107 : decode cX8_fill 107 = .ok (.putfield 147, 3) := by decide +kernel
theorem dX8_fill_110 : decode cX8_fill 110 = .ok (.aload_n 0, 1) := by decide +kernel
theorem dX8_fill_111 : decode cX8_fill 111 = .ok (.iconst 0, 1) := by decide +kernel
theorem dX8_fill_112 : decode cX8_fill 112 = .ok (.putfield 153, 3) := by decide +kernel
theorem dX8_fill_115 : decode cX8_fill 115 = .ok (.aload_n 0, 1) := by decide +kernel
theorem dX8_fill_116 : decode cX8_fill 116 = .ok (.iconst 0, 1) := by decide +kernel
theorem dX8_fill_117 : decode cX8_fill 117 = .ok (.putfield 156, 3) := by decide +kernel
theorem dX8_fill_120 : decode cX8_fill 120 = .ok (.aload_n 0, 1) := by decide +kernel
theorem dX8_fill_121 : decode cX8_fill 121 = .ok (.dup, 1) := by decide +kernel
theorem dX8_fill_122 : decode cX8_fill 122 = .ok (.getfield 162, 3) := by decide +kernel
theorem dX8_fill_125 : decode cX8_fill 125 = .ok (.lload_n 2, 1) := by decide +kernel
theorem dX8_fill_126 : decode cX8_fill 126 = .ok (.aload_n 0, 1) := by decide +kernel
theorem dX8_fill_127 : decode cX8_fill 127 = .ok (.invokevirtual 178, 3) := by decide +kernel
theorem dX8_fill_130 : decode cX8_fill 130 = .ok (.lsub, 1) := by decide +kernel
theorem dX8_fill_131 : decode cX8_fill 131 = .ok (.ladd, 1) := by decide +kernel
theorem dX8_fill_132 : decode cX8_fill 132 = .ok (.putfield 162, 3) := by decide +kernel
theorem dX8_fill_135 : decode cX8_fill 135 = .ok (.iload 4, 2) := by decide +kernel
theorem dX8_fill_137 : decode cX8_fill 137 = .ok (.ireturn, 1) := by decide +kernel
theorem dX8_unit_0 : decode cX8_unit 0 = .ok (.aload_n 0, 1) := by decide +kernel
theorem dX8_unit_1 : decode cX8_unit 1 = .ok (.getfield 82, 3) := by decide +kernel
theorem dX8_unit_4 : decode cX8_unit 4 = .ok (.ifCond .eq 10, 3) := by decide +kernel
theorem dX8_unit_7 : decode cX8_unit 7 = .ok (.aload_n 0, 1) := by decide +kernel
theorem dX8_unit_8 : decode cX8_unit 8 = .ok (.invokevirtual 172, 3) := by decide +kernel
theorem dX8_unit_11 : decode cX8_unit 11 = .ok (.goto 6, 3) := by decide +kernel
theorem dX8_unit_14 : decode cX8_unit 14 = .ok (.ldc2_w 198, 3) := by decide +kernel
theorem dX8_unit_17 : decode cX8_unit 17 = .ok (.lreturn, 1) := by decide +kernel
theorem dX8_worth_0 : decode cX8_worth 0 = .ok (.aload_n 0, 1) := by decide +kernel
theorem dX8_worth_1 : decode cX8_worth 1 = .ok (.getfield 82, 3) := by decide +kernel
theorem dX8_worth_4 : decode cX8_worth 4 = .ok (.ifCond .eq 10, 3) := by decide +kernel
theorem dX8_worth_7 : decode cX8_worth 7 = .ok (.aload_n 0, 1) := by decide +kernel
theorem dX8_worth_8 : decode cX8_worth 8 = .ok (.invokevirtual 168, 3) := by decide +kernel
theorem dX8_worth_11 : decode cX8_worth 11 = .ok (.goto 6, 3) := by decide +kernel
theorem dX8_worth_14 : decode cX8_worth 14 = .ok (.ldc2_w 198, 3) := by decide +kernel
theorem dX8_worth_17 : decode cX8_worth 17 = .ok (.lreturn, 1) := by decide +kernel
theorem dX8_worthOf_0 : decode cX8_worthOf 0 = .ok (.aload_n 0, 1) := by decide +kernel
theorem dX8_worthOf_1 : decode cX8_worthOf 1 = .ok (.invokevirtual 192, 3) := by decide +kernel
theorem dX8_worthOf_4 : decode cX8_worthOf 4 = .ok (.ifCond .ne 7, 3) := by decide +kernel
theorem dX8_worthOf_7 : decode cX8_worthOf 7 = .ok (.ldc2_w 198, 3) := by decide +kernel
theorem dX8_worthOf_10 : decode cX8_worthOf 10 = .ok (.lreturn, 1) := by decide +kernel
theorem dX8_worthOf_11 : decode cX8_worthOf 11 = .ok (.aload_n 0, 1) := by decide +kernel
theorem dX8_worthOf_12 : decode cX8_worthOf 12 = .ok (.iload_n 1, 1) := by decide +kernel
theorem dX8_worthOf_13 : decode cX8_worthOf 13 = .ok (.invokevirtual 195, 3) := by decide +kernel
theorem dX8_worthOf_16 : decode cX8_worthOf 16 = .ok (.istore_n 2, 1) := by decide +kernel
theorem dX8_worthOf_17 : decode cX8_worthOf 17 = .ok (.iload_n 2, 1) := by decide +kernel
theorem dX8_worthOf_18 : decode cX8_worthOf 18 = .ok (.iconst (-1), 1) := by decide +kernel
theorem dX8_worthOf_19 : decode cX8_worthOf 19 = .ok (.if_icmp .ne 9, 3) := by decide +kernel
theorem dX8_worthOf_22 : decode cX8_worthOf 22 = .ok (.ldc2_w 200, 3) := by decide +kernel
theorem dX8_worthOf_25 : decode cX8_worthOf 25 = .ok (.goto 8, 3) := by decide +kernel
theorem dX8_worthOf_28 : decode cX8_worthOf 28 = .ok (.aload_n 0, 1) := by decide +kernel
theorem dX8_worthOf_29 : decode cX8_worthOf 29 = .ok (.iload_n 2, 1) := by decide +kernel
theorem dX8_worthOf_30 : decode cX8_worthOf 30 = .ok (.invokevirtual 165, 3) := by decide +kernel
theorem dX8_worthOf_33 : decode cX8_worthOf 33 = .ok (.lreturn, 1) := by decide +kernel
theorem dX8_bestHold_0 : decode cX8_bestHold 0 = .ok (.aload_n 0, 1) := by decide +kernel
theorem dX8_bestHold_1 : decode cX8_bestHold 1 = .ok (.invokevirtual 192, 3) := by decide +kernel
theorem dX8_bestHold_4 : decode cX8_bestHold 4 = .ok (.ifCond .ne 6, 3) := by decide +kernel
theorem dX8_bestHold_7 : decode cX8_bestHold 7 = .ok (.bipush (-4), 2) := by decide +kernel
theorem dX8_bestHold_9 : decode cX8_bestHold 9 = .ok (.ireturn, 1) := by decide +kernel
theorem dX8_bestHold_10 : decode cX8_bestHold 10 = .ok (.aload_n 0, 1) := by decide +kernel
theorem dX8_bestHold_11 : decode cX8_bestHold 11 = .ok (.aload_n 0, 1) := by decide +kernel
theorem dX8_bestHold_12 : decode cX8_bestHold 12 = .ok (.getfield 141, 3) := by decide +kernel
theorem dX8_bestHold_15 : decode cX8_bestHold 15 = .ok (.invokevirtual 138, 3) := by decide +kernel
theorem dX8_bestHold_18 : decode cX8_bestHold 18 = .ok (.aload_n 0, 1) := by decide +kernel
theorem dX8_bestHold_19 : decode cX8_bestHold 19 = .ok (.aload_n 0, 1) := by decide +kernel
theorem dX8_bestHold_20 : decode cX8_bestHold 20 = .ok (.getfield 156, 3) := by decide +kernel
theorem dX8_bestHold_23 : decode cX8_bestHold 23 = .ok (.invokevirtual 99, 3) := by decide +kernel
theorem dX8_bestHold_26 : decode cX8_bestHold 26 = .ok (.iconst (-1), 1) := by decide +kernel
theorem dX8_bestHold_27 : decode cX8_bestHold 27 = .ok (.istore_n 1, 1) := by decide +kernel
theorem dX8_bestHold_28 : decode cX8_bestHold 28 = .ok (.iconst 0, 1) := by decide +kernel
theorem dX8_bestHold_29 : decode cX8_bestHold 29 = .ok (.istore_n 2, 1) := by decide +kernel
theorem dX8_bestHold_30 : decode cX8_bestHold 30 = .ok (.iload_n 2, 1) := by decide +kernel
theorem dX8_bestHold_31 : decode cX8_bestHold 31 = .ok (.aload_n 0, 1) := by decide +kernel
theorem dX8_bestHold_32 : decode cX8_bestHold 32 = .ok (.getfield 71, 3) := by decide +kernel
theorem dX8_bestHold_35 : decode cX8_bestHold 35 = .ok (.if_icmp .ge 37, 3) := by decide +kernel
theorem dX8_bestHold_38 : decode cX8_bestHold 38 = .ok (.aload_n 0, 1) := by decide +kernel
theorem dX8_bestHold_39 : decode cX8_bestHold 39 = .ok (.iload_n 2, 1) := by decide +kernel
theorem dX8_bestHold_40 : decode cX8_bestHold 40 = .ok (.aload_n 0, 1) := by decide +kernel
end
section
theorem dX8_bestHold_41 : decode cX8_bestHold 41 = .ok (.getfield 153, 3) := by decide +kernel
theorem dX8_bestHold_44 : decode cX8_bestHold 44 = .ok (.invokevirtual 103, 3) := by decide +kernel
theorem dX8_bestHold_47 : decode cX8_bestHold 47 = .ok (.ifCond .eq 19, 3) := by decide +kernel
theorem dX8_bestHold_50 : decode cX8_bestHold 50 = .ok (.iload_n 1, 1) := by decide +kernel
theorem dX8_bestHold_51 : decode cX8_bestHold 51 = .ok (.iconst (-1), 1) := by decide +kernel
theorem dX8_bestHold_52 : decode cX8_bestHold 52 = .ok (.if_icmp .eq 12, 3) := by decide +kernel
theorem dX8_bestHold_55 : decode cX8_bestHold 55 = .ok (.aload_n 0, 1) := by decide +kernel
theorem dX8_bestHold_56 : decode cX8_bestHold 56 = .ok (.iload_n 2, 1) := by decide +kernel
theorem dX8_bestHold_57 : decode cX8_bestHold 57 = .ok (.iload_n 1, 1) := by decide +kernel
theorem dX8_bestHold_58 : decode cX8_bestHold 58 = .ok (.invokevirtual 202, 3) := by decide +kernel
theorem dX8_bestHold_61 : decode cX8_bestHold 61 = .ok (.ifCond .eq 5, 3) := by decide +kernel
theorem dX8_bestHold_64 : decode cX8_bestHold 64 = .ok (.iload_n 2, 1) := by decide +kernel
theorem dX8_bestHold_65 : decode cX8_bestHold 65 = .ok (.istore_n 1, 1) := by decide +kernel
theorem dX8_bestHold_66 : decode cX8_bestHold 66 = .ok (.iinc 2 1, 3) := by decide +kernel
theorem dX8_bestHold_69 : decode cX8_bestHold 69 = .ok (.goto (-39), 3) := by decide +kernel
theorem dX8_bestHold_72 : decode cX8_bestHold 72 = .ok (.aload_n 0, 1) := by decide +kernel
theorem dX8_bestHold_73 : decode cX8_bestHold 73 = .ok (.getfield 35, 3) := by decide +kernel
theorem dX8_bestHold_76 : decode cX8_bestHold 76 = .ok (.iload_n 1, 1) := by decide +kernel
theorem dX8_bestHold_77 : decode cX8_bestHold 77 = .ok (.iaload, 1) := by decide +kernel
theorem dX8_bestHold_78 : decode cX8_bestHold 78 = .ok (.ireturn, 1) := by decide +kernel
theorem dX8_isBetter_0 : decode cX8_isBetter 0 = .ok (.aload_n 0, 1) := by decide +kernel
theorem dX8_isBetter_1 : decode cX8_isBetter 1 = .ok (.getfield 57, 3) := by decide +kernel
theorem dX8_isBetter_4 : decode cX8_isBetter 4 = .ok (.iload_n 1, 1) := by decide +kernel
theorem dX8_isBetter_5 : decode cX8_isBetter 5 = .ok (.laload, 1) := by decide +kernel
theorem dX8_isBetter_6 : decode cX8_isBetter 6 = .ok (.aload_n 0, 1) := by decide +kernel
theorem dX8_isBetter_7 : decode cX8_isBetter 7 = .ok (.getfield 47, 3) := by decide +kernel
theorem dX8_isBetter_10 : decode cX8_isBetter 10 = .ok (.aload_n 0, 1) := by decide +kernel
theorem dX8_isBetter_11 : decode cX8_isBetter 11 = .ok (.getfield 32, 3) := by decide +kernel
theorem dX8_isBetter_14 : decode cX8_isBetter 14 = .ok (.iload_n 1, 1) := by decide +kernel
theorem dX8_isBetter_15 : decode cX8_isBetter 15 = .ok (.iaload, 1) := by decide +kernel
theorem dX8_isBetter_16 : decode cX8_isBetter 16 = .ok (.laload, 1) := by decide +kernel
theorem dX8_isBetter_17 : decode cX8_isBetter 17 = .ok (.lmul, 1) := by decide +kernel
theorem dX8_isBetter_18 : decode cX8_isBetter 18 = .ok (.lstore_n 3, 1) := by decide +kernel
theorem dX8_isBetter_19 : decode cX8_isBetter 19 = .ok (.aload_n 0, 1) := by decide +kernel
theorem dX8_isBetter_20 : decode cX8_isBetter 20 = .ok (.getfield 57, 3) := by decide +kernel
theorem dX8_isBetter_23 : decode cX8_isBetter 23 = .ok (.iload_n 2, 1) := by decide +kernel
theorem dX8_isBetter_24 : decode cX8_isBetter 24 = .ok (.laload, 1) := by decide +kernel
theorem dX8_isBetter_25 : decode cX8_isBetter 25 = .ok (.aload_n 0, 1) := by decide +kernel
theorem dX8_isBetter_26 : decode cX8_isBetter 26 = .ok (.getfield 47, 3) := by decide +kernel
theorem dX8_isBetter_29 : decode cX8_isBetter 29 = .ok (.aload_n 0, 1) := by decide +kernel
theorem dX8_isBetter_30 : decode cX8_isBetter 30 = .ok (.getfield 32, 3) := by decide +kernel
theorem dX8_isBetter_33 : decode cX8_isBetter 33 = .ok (.iload_n 2, 1) := by decide +kernel
theorem dX8_isBetter_34 : decode cX8_isBetter 34 = .ok (.iaload, 1) := by decide +kernel
theorem dX8_isBetter_35 : decode cX8_isBetter 35 = .ok (.laload, 1) := by decide +kernel
theorem dX8_isBetter_36 : decode cX8_isBetter 36 = .ok (.lmul, 1) := by decide +kernel
theorem dX8_isBetter_37 : decode cX8_isBetter 37 = .ok (.lstore 5, 2) := by decide +kernel
theorem dX8_isBetter_39 : decode cX8_isBetter 39 = .ok (.lload_n 3, 1) := by decide +kernel
theorem dX8_isBetter_40 : decode cX8_isBetter 40 = .ok (.lload 5, 2) := by decide +kernel
theorem dX8_isBetter_42 : decode cX8_isBetter 42 = .ok (.lcmp, 1) := by decide +kernel
theorem dX8_isBetter_43 : decode cX8_isBetter 43 = .ok (.ifCond .eq 16, 3) := by decide +kernel
theorem dX8_isBetter_46 : decode cX8_isBetter 46 = .ok (.lload_n 3, 1) := by decide +kernel
theorem dX8_isBetter_47 : decode cX8_isBetter 47 = .ok (.lload 5, 2) := by decide +kernel
theorem dX8_isBetter_49 : decode cX8_isBetter 49 = .ok (.lcmp, 1) := by decide +kernel
theorem dX8_isBetter_50 : decode cX8_isBetter 50 = .ok (.ifCond .le 7, 3) := by decide +kernel
theorem dX8_isBetter_53 : decode cX8_isBetter 53 = .ok (.iconst 1, 1) := by decide +kernel
theorem dX8_isBetter_54 : decode cX8_isBetter 54 = .ok (.goto 4, 3) := by decide +kernel
theorem dX8_isBetter_57 : decode cX8_isBetter 57 = .ok (.iconst 0, 1) := by decide +kernel
theorem dX8_isBetter_58 : decode cX8_isBetter 58 = .ok (.ireturn, 1) := by decide +kernel
theorem dX8_isBetter_59 : decode cX8_isBetter 59 = .ok (.aload_n 0, 1) := by decide +kernel
theorem dX8_isBetter_60 : decode cX8_isBetter 60 = .ok (.getfield 32, 3) := by decide +kernel
theorem dX8_isBetter_63 : decode cX8_isBetter 63 = .ok (.iload_n 1, 1) := by decide +kernel
theorem dX8_isBetter_64 : decode cX8_isBetter 64 = .ok (.iaload, 1) := by decide +kernel
theorem dX8_isBetter_65 : decode cX8_isBetter 65 = .ok (.aload_n 0, 1) := by decide +kernel
theorem dX8_isBetter_66 : decode cX8_isBetter 66 = .ok (.getfield 32, 3) := by decide +kernel
theorem dX8_isBetter_69 : decode cX8_isBetter 69 = .ok (.iload_n 2, 1) := by decide +kernel
theorem dX8_isBetter_70 : decode cX8_isBetter 70 = .ok (.iaload, 1) := by decide +kernel
theorem dX8_isBetter_71 : decode cX8_isBetter 71 = .ok (.if_icmp .eq 26, 3) := by decide +kernel
theorem dX8_isBetter_74 : decode cX8_isBetter 74 = .ok (.aload_n 0, 1) := by decide +kernel
theorem dX8_isBetter_75 : decode cX8_isBetter 75 = .ok (.getfield 32, 3) := by decide +kernel
theorem dX8_isBetter_78 : decode cX8_isBetter 78 = .ok (.iload_n 1, 1) := by decide +kernel
theorem dX8_isBetter_79 : decode cX8_isBetter 79 = .ok (.iaload, 1) := by decide +kernel
theorem dX8_isBetter_80 : decode cX8_isBetter 80 = .ok (.aload_n 0, 1) := by decide +kernel
theorem dX8_isBetter_81 : decode cX8_isBetter 81 = .ok (.getfield 32, 3) := by decide +kernel
theorem dX8_isBetter_84 : decode cX8_isBetter 84 = .ok (.iload_n 2, 1) := by decide +kernel
theorem dX8_isBetter_85 : decode cX8_isBetter 85 = .ok (.iaload, 1) := by decide +kernel
theorem dX8_isBetter_86 : decode cX8_isBetter 86 = .ok (.if_icmp .ge 7, 3) := by decide +kernel
theorem dX8_isBetter_89 : decode cX8_isBetter 89 = .ok (.iconst 1, 1) := by decide +kernel
theorem dX8_isBetter_90 : decode cX8_isBetter 90 = .ok (.goto 27, 3) := by decide +kernel
theorem dX8_isBetter_93 : decode cX8_isBetter 93 = .ok (.iconst 0, 1) := by decide +kernel
theorem dX8_isBetter_94 : decode cX8_isBetter 94 = .ok (.goto 23, 3) := by decide +kernel
theorem dX8_isBetter_97 : decode cX8_isBetter 97 = .ok (.aload_n 0, 1) := by decide +kernel
theorem dX8_isBetter_98 : decode cX8_isBetter 98 = .ok (.getfield 35, 3) := by decide +kernel
theorem dX8_isBetter_101 : decode cX8_isBetter 101 = .ok (.iload_n 1, 1) := by decide +kernel
theorem dX8_isBetter_102 : decode cX8_isBetter 102 = .ok (.iaload, 1) := by decide +kernel
theorem dX8_isBetter_103 : decode cX8_isBetter 103 = .ok (.aload_n 0, 1) := by decide +kernel
theorem dX8_isBetter_104 : decode cX8_isBetter 104 = .ok (.getfield 35, 3) := by decide +kernel
theorem dX8_isBetter_107 : decode cX8_isBetter 107 = .ok (.iload_n 2, 1) := by decide +kernel
theorem dX8_isBetter_108 : decode cX8_isBetter 108 = .ok (.iaload, 1) := by decide +kernel
theorem dX8_isBetter_109 : decode cX8_isBetter 109 = .ok (.if_icmp .ge 7, 3) := by decide +kernel
theorem dX8_isBetter_112 : decode cX8_isBetter 112 = .ok (.iconst 1, 1) := by decide +kernel
theorem dX8_isBetter_113 : decode cX8_isBetter 113 = .ok (.goto 4, 3) := by decide +kernel
theorem dX8_isBetter_116 : decode cX8_isBetter 116 = .ok (.iconst 0, 1) := by decide +kernel
theorem dX8_isBetter_117 : decode cX8_isBetter 117 = .ok (.ireturn, 1) := by decide +kernel
theorem dX8_bestRow_0 : decode cX8_bestRow 0 = .ok (.aload_n 0, 1) := by decide +kernel
theorem dX8_bestRow_1 : decode cX8_bestRow 1 = .ok (.getfield 82, 3) := by decide +kernel
theorem dX8_bestRow_4 : decode cX8_bestRow 4 = .ok (.ifCond .eq 17, 3) := by decide +kernel
theorem dX8_bestRow_7 : decode cX8_bestRow 7 = .ok (.aload_n 0, 1) := by decide +kernel
theorem dX8_bestRow_8 : decode cX8_bestRow 8 = .ok (.getfield 147, 3) := by decide +kernel
theorem dX8_bestRow_11 : decode cX8_bestRow 11 = .ok (.ifCond .eq 10, 3) := by decide +kernel
theorem dX8_bestRow_14 : decode cX8_bestRow 14 = .ok (.aload_n 0, 1) := by decide +kernel
theorem dX8_bestRow_15 : decode cX8_bestRow 15 = .ok (.getfield 150, 3) := by decide +kernel
theorem dX8_bestRow_18 : decode cX8_bestRow 18 = .ok (.ifCond .eq 6, 3) := by decide +kernel
theorem dX8_bestRow_21 : decode cX8_bestRow 21 = .ok (.bipush (-4), 2) := by decide +kernel
theorem dX8_bestRow_23 : decode cX8_bestRow 23 = .ok (.ireturn, 1) := by decide +kernel
theorem dX8_bestRow_24 : decode cX8_bestRow 24 = .ok (.aload_n 0, 1) := by decide +kernel
theorem dX8_bestRow_25 : decode cX8_bestRow 25 = .ok (.aload_n 0, 1) := by decide +kernel
theorem dX8_bestRow_26 : decode cX8_bestRow 26 = .ok (.getfield 153, 3) := by decide +kernel
theorem dX8_bestRow_29 : decode cX8_bestRow 29 = .ok (.aload_n 0, 1) := by decide +kernel
theorem dX8_bestRow_30 : decode cX8_bestRow 30 = .ok (.getfield 141, 3) := by decide +kernel
theorem dX8_bestRow_33 : decode cX8_bestRow 33 = .ok (.invokevirtual 120, 3) := by decide +kernel
theorem dX8_bestRow_36 : decode cX8_bestRow 36 = .ok (.lstore_n 1, 1) := by decide +kernel
theorem dX8_bestRow_37 : decode cX8_bestRow 37 = .ok (.lload_n 1, 1) := by decide +kernel
theorem dX8_bestRow_38 : decode cX8_bestRow 38 = .ok (.lconst 0, 1) := by decide +kernel
theorem dX8_bestRow_39 : decode cX8_bestRow 39 = .ok (.lcmp, 1) := by decide +kernel
theorem dX8_bestRow_40 : decode cX8_bestRow 40 = .ok (.ifCond .ge 8, 3) := by decide +kernel
theorem dX8_bestRow_43 : decode cX8_bestRow 43 = .ok (.bipush (-4), 2) := by decide +kernel
theorem dX8_bestRow_45 : decode cX8_bestRow 45 = .ok (.goto 7, 3) := by decide +kernel
theorem dX8_bestRow_48 : decode cX8_bestRow 48 = .ok (.aload_n 0, 1) := by decide +kernel
theorem dX8_bestRow_49 : decode cX8_bestRow 49 = .ok (.getfield 117, 3) := by decide +kernel
theorem dX8_bestRow_52 : decode cX8_bestRow 52 = .ok (.ireturn, 1) := by decide +kernel
theorem dX8_wants_0 : decode cX8_wants 0 = .ok (.sipush 501, 3) := by decide +kernel
theorem dX8_wants_3 : decode cX8_wants 3 = .ok (.iload_n 1, 1) := by decide +kernel
theorem dX8_wants_4 : decode cX8_wants 4 = .ok (.imul, 1) := by decide +kernel
theorem dX8_wants_5 : decode cX8_wants 5 = .ok (.iload_n 2, 1) := by decide +kernel
theorem dX8_wants_6 : decode cX8_wants 6 = .ok (.ifCond .ge 7, 3) := by decide +kernel
theorem dX8_wants_9 : decode cX8_wants 9 = .ok (.iconst 0, 1) := by decide +kernel
theorem dX8_wants_10 : decode cX8_wants 10 = .ok (.goto 4, 3) := by decide +kernel
theorem dX8_wants_13 : decode cX8_wants 13 = .ok (.iload_n 2, 1) := by decide +kernel
theorem dX8_wants_14 : decode cX8_wants 14 = .ok (.iadd, 1) := by decide +kernel
theorem dX8_wants_15 : decode cX8_wants 15 = .ok (.ireturn, 1) := by decide +kernel
theorem dX8_findChanceTurn_0 : decode cX8_findChanceTurn 0 = .ok (.iconst 0, 1) := by decide +kernel
theorem dX8_findChanceTurn_1 : decode cX8_findChanceTurn 1 = .ok (.istore_n 3, 1) := by decide +kernel
theorem dX8_findChanceTurn_2 : decode cX8_findChanceTurn 2 = .ok (.iload_n 3, 1) := by decide +kernel
theorem dX8_findChanceTurn_3 : decode cX8_findChanceTurn 3 = .ok (.aload_n 0, 1) := by decide +kernel
theorem dX8_findChanceTurn_4 : decode cX8_findChanceTurn 4 = .ok (.getfield 71, 3) := by decide +kernel
theorem dX8_findChanceTurn_7 : decode cX8_findChanceTurn 7 = .ok (.if_icmp .ge 112, 3) := by decide +kernel
theorem dX8_findChanceTurn_10 : decode cX8_findChanceTurn 10 = .ok (.aload_n 0, 1) := by decide +kernel
theorem dX8_findChanceTurn_11 : decode cX8_findChanceTurn 11 = .ok (.getfield 32, 3) := by decide +kernel
theorem dX8_findChanceTurn_14 : decode cX8_findChanceTurn 14 = .ok (.iload_n 3, 1) := by decide +kernel
theorem dX8_findChanceTurn_15 : decode cX8_findChanceTurn 15 = .ok (.iaload, 1) := by decide +kernel
theorem dX8_findChanceTurn_16 : decode cX8_findChanceTurn 16 = .ok (.aload_n 0, 1) := by decide +kernel
theorem dX8_findChanceTurn_17 : decode cX8_findChanceTurn 17 = .ok (.getfield 7, 3) := by decide +kernel
theorem dX8_findChanceTurn_20 : decode cX8_findChanceTurn 20 = .ok (.if_icmp .ne 93, 3) := by decide +kernel
theorem dX8_findChanceTurn_23 : decode cX8_findChanceTurn 23 = .ok (.lconst 0, 1) := by decide +kernel
theorem dX8_findChanceTurn_24 : decode cX8_findChanceTurn 24 = .ok (.lstore 4, 2) := by decide +kernel
theorem dX8_findChanceTurn_26 : decode cX8_findChanceTurn 26 = .ok (.iconst 0, 1) := by decide +kernel
theorem dX8_findChanceTurn_27 : decode cX8_findChanceTurn 27 = .ok (.istore 6, 2) := by decide +kernel
theorem dX8_findChanceTurn_29 : decode cX8_findChanceTurn 29 = .ok (.iload 6, 2) := by decide +kernel
theorem dX8_findChanceTurn_31 : decode cX8_findChanceTurn 31 = .ok (.aload_n 0, 1) := by decide +kernel
theorem dX8_findChanceTurn_32 : decode cX8_findChanceTurn 32 = .ok (.getfield 86, 3) := by decide +kernel
theorem dX8_findChanceTurn_35 : decode cX8_findChanceTurn 35 = .ok (.if_icmp .ge 70, 3) := by decide +kernel
theorem dX8_findChanceTurn_38 : decode cX8_findChanceTurn 38 = .ok (.iload_n 1, 1) := by decide +kernel
theorem dX8_findChanceTurn_39 : decode cX8_findChanceTurn 39 = .ok (.iload 6, 2) := by decide +kernel
theorem dX8_findChanceTurn_41 : decode cX8_findChanceTurn 41 = .ok (.ishr, 1) := by decide +kernel
theorem dX8_findChanceTurn_42 : decode cX8_findChanceTurn 42 = .ok (.iconst 1, 1) := by decide +kernel
theorem dX8_findChanceTurn_43 : decode cX8_findChanceTurn 43 = .ok (.iand, 1) := by decide +kernel
theorem dX8_findChanceTurn_44 : decode cX8_findChanceTurn 44 = .ok (.ifCond .ne 35, 3) := by decide +kernel
theorem dX8_findChanceTurn_47 : decode cX8_findChanceTurn 47 = .ok (.aload_n 0, 1) := by decide +kernel
theorem dX8_findChanceTurn_48 : decode cX8_findChanceTurn 48 = .ok (.getfield 61, 3) := by decide +kernel
theorem dX8_findChanceTurn_51 : decode cX8_findChanceTurn 51 = .ok (.aload_n 0, 1) := by decide +kernel
theorem dX8_findChanceTurn_52 : decode cX8_findChanceTurn 52 = .ok (.iload_n 1, 1) := by decide +kernel
theorem dX8_findChanceTurn_53 : decode cX8_findChanceTurn 53 = .ok (.iconst 1, 1) := by decide +kernel
theorem dX8_findChanceTurn_54 : decode cX8_findChanceTurn 54 = .ok (.iload 6, 2) := by decide +kernel
theorem dX8_findChanceTurn_56 : decode cX8_findChanceTurn 56 = .ok (.ishl, 1) := by decide +kernel
theorem dX8_findChanceTurn_57 : decode cX8_findChanceTurn 57 = .ok (.ior, 1) := by decide +kernel
theorem dX8_findChanceTurn_58 : decode cX8_findChanceTurn 58 = .ok (.iload_n 2, 1) := by decide +kernel
theorem dX8_findChanceTurn_59 : decode cX8_findChanceTurn 59 = .ok (.aload_n 0, 1) := by decide +kernel
theorem dX8_findChanceTurn_60 : decode cX8_findChanceTurn 60 = .ok (.getfield 41, 3) := by decide +kernel
theorem dX8_findChanceTurn_63 : decode cX8_findChanceTurn 63 = .ok (.bipush 8, 2) := by decide +kernel
theorem dX8_findChanceTurn_65 : decode cX8_findChanceTurn 65 = .ok (.iload_n 3, 1) := by decide +kernel
theorem dX8_findChanceTurn_66 : decode cX8_findChanceTurn 66 = .ok (.imul, 1) := by decide +kernel
theorem dX8_findChanceTurn_67 : decode cX8_findChanceTurn 67 = .ok (.iload 6, 2) := by decide +kernel
theorem dX8_findChanceTurn_69 : decode cX8_findChanceTurn 69 = .ok (.iadd, 1) := by decide +kernel
theorem dX8_findChanceTurn_70 : decode cX8_findChanceTurn 70 = .ok (.iaload, 1) := by decide +kernel
theorem dX8_findChanceTurn_71 : decode cX8_findChanceTurn 71 = .ok (.isub, 1) := by decide +kernel
theorem dX8_findChanceTurn_72 : decode cX8_findChanceTurn 72 = .ok (.invokevirtual 205, 3) := by decide +kernel
theorem dX8_findChanceTurn_75 : decode cX8_findChanceTurn 75 = .ok (.laload, 1) := by decide +kernel
theorem dX8_findChanceTurn_76 : decode cX8_findChanceTurn 76 = .ok (.goto 4, 3) := by decide +kernel
theorem dX8_findChanceTurn_79 : decode cX8_findChanceTurn 79 = .ok (.lconst 0, 1) := by decide +kernel
theorem dX8_findChanceTurn_80 : decode cX8_findChanceTurn 80 = .ok (.lstore 7, 2) := by decide +kernel
theorem dX8_findChanceTurn_82 : decode cX8_findChanceTurn 82 = .ok (.lload 7, 2) := by decide +kernel
theorem dX8_findChanceTurn_84 : decode cX8_findChanceTurn 84 = .ok (.lload 4, 2) := by decide +kernel
theorem dX8_findChanceTurn_86 : decode cX8_findChanceTurn 86 = .ok (.lcmp, 1) := by decide +kernel
theorem dX8_findChanceTurn_87 : decode cX8_findChanceTurn 87 = .ok (.ifCond .le 8, 3) := by decide +kernel
theorem dX8_findChanceTurn_90 : decode cX8_findChanceTurn 90 = .ok (.lload 7, 2) := by decide +kernel
theorem dX8_findChanceTurn_92 : decode cX8_findChanceTurn 92 = .ok (.goto 5, 3) := by decide +kernel
theorem dX8_findChanceTurn_95 : decode cX8_findChanceTurn 95 = .ok (.lload 4, 2) := by decide +kernel
theorem dX8_findChanceTurn_97 : decode cX8_findChanceTurn 97 = .ok (.lstore 4, 2) := by decide +kernel
theorem dX8_findChanceTurn_99 : decode cX8_findChanceTurn 99 = .ok (.iinc 6 1, 3) := by decide +kernel
theorem dX8_findChanceTurn_102 : decode cX8_findChanceTurn 102 = .ok (.goto (-73), 3) := by decide +kernel
theorem dX8_findChanceTurn_105 : decode cX8_findChanceTurn 105 = .ok (.aload_n 0, 1) := by decide +kernel
theorem dX8_findChanceTurn_106 : decode cX8_findChanceTurn 106 = .ok (.getfield 54, 3) := by decide +kernel
theorem dX8_findChanceTurn_109 : decode cX8_findChanceTurn 109 = .ok (.iload_n 3, 1) := by decide +kernel
theorem dX8_findChanceTurn_110 : decode cX8_findChanceTurn 110 = .ok (.lload 4, 2) := by decide +kernel
theorem dX8_findChanceTurn_112 : decode cX8_findChanceTurn 112 = .ok (.lastore, 1) := by decide +kernel
theorem dX8_findChanceTurn_113 : decode cX8_findChanceTurn 113 = .ok (.iinc 3 1, 3) := by decide +kernel
theorem dX8_findChanceTurn_116 : decode cX8_findChanceTurn 116 = .ok (.goto (-114), 3) := by decide +kernel
theorem dX8_findChanceTurn_119 : decode cX8_findChanceTurn 119 = .ok (.aload_n 0, 1) := by decide +kernel
theorem dX8_findChanceTurn_120 : decode cX8_findChanceTurn 120 = .ok (.invokevirtual 124, 3) := by decide +kernel
theorem dX8_findChanceTurn_123 : decode cX8_findChanceTurn 123 = .ok (.return_, 1) := by decide +kernel
theorem dX8_ask_0 : decode cX8_ask 0 = .ok (.iconst 0, 1) := by decide +kernel
theorem dX8_ask_1 : decode cX8_ask 1 = .ok (.istore_n 3, 1) := by decide +kernel
theorem dX8_ask_2 : decode cX8_ask 2 = .ok (.iload_n 3, 1) := by decide +kernel
theorem dX8_ask_3 : decode cX8_ask 3 = .ok (.aload_n 0, 1) := by decide +kernel
theorem dX8_ask_4 : decode cX8_ask 4 = .ok (.getfield 71, 3) := by decide +kernel
theorem dX8_ask_7 : decode cX8_ask 7 = .ok (.if_icmp .ge 79, 3) := by decide +kernel
theorem dX8_ask_10 : decode cX8_ask 10 = .ok (.iconst 0, 1) := by decide +kernel
theorem dX8_ask_11 : decode cX8_ask 11 = .ok (.istore 4, 2) := by decide +kernel
theorem dX8_ask_13 : decode cX8_ask 13 = .ok (.iload 4, 2) := by decide +kernel
theorem dX8_ask_15 : decode cX8_ask 15 = .ok (.aload_n 0, 1) := by decide +kernel
theorem dX8_ask_16 : decode cX8_ask 16 = .ok (.getfield 86, 3) := by decide +kernel
theorem dX8_ask_19 : decode cX8_ask 19 = .ok (.if_icmp .ge 61, 3) := by decide +kernel
theorem dX8_ask_22 : decode cX8_ask 22 = .ok (.aload_n 0, 1) := by decide +kernel
theorem dX8_ask_23 : decode cX8_ask 23 = .ok (.getfield 32, 3) := by decide +kernel
theorem dX8_ask_26 : decode cX8_ask 26 = .ok (.iload_n 3, 1) := by decide +kernel
theorem dX8_ask_27 : decode cX8_ask 27 = .ok (.iaload, 1) := by decide +kernel
theorem dX8_ask_28 : decode cX8_ask 28 = .ok (.aload_n 0, 1) := by decide +kernel
theorem dX8_ask_29 : decode cX8_ask 29 = .ok (.getfield 7, 3) := by decide +kernel
theorem dX8_ask_32 : decode cX8_ask 32 = .ok (.if_icmp .ne 48, 3) := by decide +kernel
theorem dX8_ask_35 : decode cX8_ask 35 = .ok (.iload_n 1, 1) := by decide +kernel
theorem dX8_ask_36 : decode cX8_ask 36 = .ok (.iload 4, 2) := by decide +kernel
theorem dX8_ask_38 : decode cX8_ask 38 = .ok (.ishr, 1) := by decide +kernel
theorem dX8_ask_39 : decode cX8_ask 39 = .ok (.iconst 1, 1) := by decide +kernel
theorem dX8_ask_40 : decode cX8_ask 40 = .ok (.iand, 1) := by decide +kernel
theorem dX8_ask_41 : decode cX8_ask 41 = .ok (.ifCond .ne 33, 3) := by decide +kernel
theorem dX8_ask_44 : decode cX8_ask 44 = .ok (.aload_n 0, 1) := by decide +kernel
theorem dX8_ask_45 : decode cX8_ask 45 = .ok (.getfield 64, 3) := by decide +kernel
theorem dX8_ask_48 : decode cX8_ask 48 = .ok (.aload_n 0, 1) := by decide +kernel
theorem dX8_ask_49 : decode cX8_ask 49 = .ok (.iload_n 1, 1) := by decide +kernel
theorem dX8_ask_50 : decode cX8_ask 50 = .ok (.iconst 1, 1) := by decide +kernel
theorem dX8_ask_51 : decode cX8_ask 51 = .ok (.iload 4, 2) := by decide +kernel
theorem dX8_ask_53 : decode cX8_ask 53 = .ok (.ishl, 1) := by decide +kernel
theorem dX8_ask_54 : decode cX8_ask 54 = .ok (.ior, 1) := by decide +kernel
theorem dX8_ask_55 : decode cX8_ask 55 = .ok (.iload_n 2, 1) := by decide +kernel
theorem dX8_ask_56 : decode cX8_ask 56 = .ok (.aload_n 0, 1) := by decide +kernel
theorem dX8_ask_57 : decode cX8_ask 57 = .ok (.getfield 41, 3) := by decide +kernel
theorem dX8_ask_60 : decode cX8_ask 60 = .ok (.bipush 8, 2) := by decide +kernel
theorem dX8_ask_62 : decode cX8_ask 62 = .ok (.iload_n 3, 1) := by decide +kernel
theorem dX8_ask_63 : decode cX8_ask 63 = .ok (.imul, 1) := by decide +kernel
theorem dX8_ask_64 : decode cX8_ask 64 = .ok (.iload 4, 2) := by decide +kernel
theorem dX8_ask_66 : decode cX8_ask 66 = .ok (.iadd, 1) := by decide +kernel
theorem dX8_ask_67 : decode cX8_ask 67 = .ok (.iaload, 1) := by decide +kernel
theorem dX8_ask_68 : decode cX8_ask 68 = .ok (.isub, 1) := by decide +kernel
theorem dX8_ask_69 : decode cX8_ask 69 = .ok (.invokevirtual 205, 3) := by decide +kernel
theorem dX8_ask_72 : decode cX8_ask 72 = .ok (.iconst 1, 1) := by decide +kernel
theorem dX8_ask_73 : decode cX8_ask 73 = .ok (.bastore, 1) := by decide +kernel
theorem dX8_ask_74 : decode cX8_ask 74 = .ok (.iinc 4 1, 3) := by decide +kernel
theorem dX8_ask_77 : decode cX8_ask 77 = .ok (.goto (-64), 3) := by decide +kernel
theorem dX8_ask_80 : decode cX8_ask 80 = .ok (.iinc 3 1, 3) := by decide +kernel
theorem dX8_ask_83 : decode cX8_ask 83 = .ok (.goto (-81), 3) := by decide +kernel
theorem dX8_ask_86 : decode cX8_ask 86 = .ok (.return_, 1) := by decide +kernel
theorem dX8_chance_0 : decode cX8_chance 0 = .ok (.iload_n 1, 1) := by decide +kernel
theorem dX8_chance_1 : decode cX8_chance 1 = .ok (.iconst 0, 1) := by decide +kernel
theorem dX8_chance_2 : decode cX8_chance 2 = .ok (.sipush 500, 3) := by decide +kernel
theorem dX8_chance_5 : decode cX8_chance 5 = .ok (.invokestatic 78, 3) := by decide +kernel
theorem dX8_chance_8 : decode cX8_chance 8 = .ok (.ifCond .ne 7, 3) := by decide +kernel
theorem dX8_chance_11 : decode cX8_chance 11 = .ok (.ldc2_w 200, 3) := by decide +kernel
theorem dX8_chance_14 : decode cX8_chance 14 = .ok (.lreturn, 1) := by decide +kernel
theorem dX8_chance_15 : decode cX8_chance 15 = .ok (.aload_n 0, 1) := by decide +kernel
theorem dX8_chance_16 : decode cX8_chance 16 = .ok (.getfield 82, 3) := by decide +kernel
theorem dX8_chance_19 : decode cX8_chance 19 = .ok (.ifCond .ne 7, 3) := by decide +kernel
theorem dX8_chance_22 : decode cX8_chance 22 = .ok (.ldc2_w 198, 3) := by decide +kernel
theorem dX8_chance_25 : decode cX8_chance 25 = .ok (.lreturn, 1) := by decide +kernel
theorem dX8_chance_26 : decode cX8_chance 26 = .ok (.iconst 1, 1) := by decide +kernel
theorem dX8_chance_27 : decode cX8_chance 27 = .ok (.aload_n 0, 1) := by decide +kernel
theorem dX8_chance_28 : decode cX8_chance 28 = .ok (.getfield 86, 3) := by decide +kernel
theorem dX8_chance_31 : decode cX8_chance 31 = .ok (.ishl, 1) := by decide +kernel
theorem dX8_chance_32 : decode cX8_chance 32 = .ok (.iconst 1, 1) := by decide +kernel
theorem dX8_chance_33 : decode cX8_chance 33 = .ok (.isub, 1) := by decide +kernel
theorem dX8_chance_34 : decode cX8_chance 34 = .ok (.istore_n 2, 1) := by decide +kernel
theorem dX8_chance_35 : decode cX8_chance 35 = .ok (.iload_n 1, 1) := by decide +kernel
theorem dX8_chance_36 : decode cX8_chance 36 = .ok (.aload_n 0, 1) := by decide +kernel
theorem dX8_chance_37 : decode cX8_chance 37 = .ok (.getfield 144, 3) := by decide +kernel
theorem dX8_chance_40 : decode cX8_chance 40 = .ok (.isub, 1) := by decide +kernel
theorem dX8_chance_41 : decode cX8_chance 41 = .ok (.ifCond .ge 7, 3) := by decide +kernel
theorem dX8_chance_44 : decode cX8_chance 44 = .ok (.iconst 0, 1) := by decide +kernel
theorem dX8_chance_45 : decode cX8_chance 45 = .ok (.goto 9, 3) := by decide +kernel
theorem dX8_chance_48 : decode cX8_chance 48 = .ok (.iload_n 1, 1) := by decide +kernel
theorem dX8_chance_49 : decode cX8_chance 49 = .ok (.aload_n 0, 1) := by decide +kernel
theorem dX8_chance_50 : decode cX8_chance 50 = .ok (.getfield 144, 3) := by decide +kernel
theorem dX8_chance_53 : decode cX8_chance 53 = .ok (.isub, 1) := by decide +kernel
theorem dX8_chance_54 : decode cX8_chance 54 = .ok (.istore_n 3, 1) := by decide +kernel
theorem dX8_chance_55 : decode cX8_chance 55 = .ok (.iconst 0, 1) := by decide +kernel
theorem dX8_chance_56 : decode cX8_chance 56 = .ok (.istore 4, 2) := by decide +kernel
theorem dX8_chance_58 : decode cX8_chance 58 = .ok (.iload 4, 2) := by decide +kernel
theorem dX8_chance_60 : decode cX8_chance 60 = .ok (.sipush 501, 3) := by decide +kernel
theorem dX8_chance_63 : decode cX8_chance 63 = .ok (.iload_n 2, 1) := by decide +kernel
theorem dX8_chance_64 : decode cX8_chance 64 = .ok (.iconst 1, 1) := by decide +kernel
theorem dX8_chance_65 : decode cX8_chance 65 = .ok (.iadd, 1) := by decide +kernel
theorem dX8_chance_66 : decode cX8_chance 66 = .ok (.imul, 1) := by decide +kernel
theorem dX8_chance_67 : decode cX8_chance 67 = .ok (.if_icmp .ge 17, 3) := by decide +kernel
theorem dX8_chance_70 : decode cX8_chance 70 = .ok (.aload_n 0, 1) := by decide +kernel
theorem dX8_chance_71 : decode cX8_chance 71 = .ok (.getfield 64, 3) := by decide +kernel
theorem dX8_chance_74 : decode cX8_chance 74 = .ok (.iload 4, 2) := by decide +kernel
theorem dX8_chance_76 : decode cX8_chance 76 = .ok (.iconst 0, 1) := by decide +kernel
theorem dX8_chance_77 : decode cX8_chance 77 = .ok (.bastore, 1) := by decide +kernel
theorem dX8_chance_78 : decode cX8_chance 78 = .ok (.iinc 4 1, 3) := by decide +kernel
theorem dX8_chance_81 : decode cX8_chance 81 = .ok (.goto (-23), 3) := by decide +kernel
theorem dX8_chance_84 : decode cX8_chance 84 = .ok (.aload_n 0, 1) := by decide +kernel
theorem dX8_chance_85 : decode cX8_chance 85 = .ok (.getfield 64, 3) := by decide +kernel
theorem dX8_chance_88 : decode cX8_chance 88 = .ok (.aload_n 0, 1) := by decide +kernel
theorem dX8_chance_89 : decode cX8_chance 89 = .ok (.aload_n 0, 1) := by decide +kernel
theorem dX8_chance_90 : decode cX8_chance 90 = .ok (.getfield 141, 3) := by decide +kernel
theorem dX8_chance_93 : decode cX8_chance 93 = .ok (.iload_n 3, 1) := by decide +kernel
theorem dX8_chance_94 : decode cX8_chance 94 = .ok (.invokevirtual 205, 3) := by decide +kernel
theorem dX8_chance_97 : decode cX8_chance 97 = .ok (.iconst 1, 1) := by decide +kernel
theorem dX8_chance_98 : decode cX8_chance 98 = .ok (.bastore, 1) := by decide +kernel
theorem dX8_chance_99 : decode cX8_chance 99 = .ok (.aload_n 0, 1) := by decide +kernel
theorem dX8_chance_100 : decode cX8_chance 100 = .ok (.getfield 141, 3) := by decide +kernel
theorem dX8_chance_103 : decode cX8_chance 103 = .ok (.istore 4, 2) := by decide +kernel
theorem dX8_chance_105 : decode cX8_chance 105 = .ok (.iload 4, 2) := by decide +kernel
theorem dX8_chance_107 : decode cX8_chance 107 = .ok (.iload_n 2, 1) := by decide +kernel
theorem dX8_chance_108 : decode cX8_chance 108 = .ok (.if_icmp .ge 51, 3) := by decide +kernel
theorem dX8_chance_111 : decode cX8_chance 111 = .ok (.iconst 0, 1) := by decide +kernel
theorem dX8_chance_112 : decode cX8_chance 112 = .ok (.istore 5, 2) := by decide +kernel
theorem dX8_chance_114 : decode cX8_chance 114 = .ok (.iload 5, 2) := by decide +kernel
theorem dX8_chance_116 : decode cX8_chance 116 = .ok (.sipush 500, 3) := by decide +kernel
theorem dX8_chance_119 : decode cX8_chance 119 = .ok (.if_icmp .gt 34, 3) := by decide +kernel
theorem dX8_chance_122 : decode cX8_chance 122 = .ok (.aload_n 0, 1) := by decide +kernel
theorem dX8_chance_123 : decode cX8_chance 123 = .ok (.getfield 64, 3) := by decide +kernel
theorem dX8_chance_126 : decode cX8_chance 126 = .ok (.sipush 501, 3) := by decide +kernel
theorem dX8_chance_129 : decode cX8_chance 129 = .ok (.iload 4, 2) := by decide +kernel
theorem dX8_chance_131 : decode cX8_chance 131 = .ok (.imul, 1) := by decide +kernel
theorem dX8_chance_132 : decode cX8_chance 132 = .ok (.iload 5, 2) := by decide +kernel
theorem dX8_chance_134 : decode cX8_chance 134 = .ok (.iadd, 1) := by decide +kernel
theorem dX8_chance_135 : decode cX8_chance 135 = .ok (.baload, 1) := by decide +kernel
theorem dX8_chance_136 : decode cX8_chance 136 = .ok (.ifCond .eq 11, 3) := by decide +kernel
theorem dX8_chance_139 : decode cX8_chance 139 = .ok (.aload_n 0, 1) := by decide +kernel
theorem dX8_chance_140 : decode cX8_chance 140 = .ok (.iload 4, 2) := by decide +kernel
theorem dX8_chance_142 : decode cX8_chance 142 = .ok (.iload 5, 2) := by decide +kernel
theorem dX8_chance_144 : decode cX8_chance 144 = .ok (.invokevirtual 208, 3) := by decide +kernel
theorem dX8_chance_147 : decode cX8_chance 147 = .ok (.iinc 5 1, 3) := by decide +kernel
theorem dX8_chance_150 : decode cX8_chance 150 = .ok (.goto (-36), 3) := by decide +kernel
theorem dX8_chance_153 : decode cX8_chance 153 = .ok (.iinc 4 1, 3) := by decide +kernel
theorem dX8_chance_156 : decode cX8_chance 156 = .ok (.goto (-51), 3) := by decide +kernel
theorem dX8_chance_159 : decode cX8_chance 159 = .ok (.iload_n 2, 1) := by decide +kernel
theorem dX8_chance_160 : decode cX8_chance 160 = .ok (.istore 4, 2) := by decide +kernel
theorem dX8_chance_162 : decode cX8_chance 162 = .ok (.iload 4, 2) := by decide +kernel
theorem dX8_chance_164 : decode cX8_chance 164 = .ok (.aload_n 0, 1) := by decide +kernel
theorem dX8_chance_165 : decode cX8_chance 165 = .ok (.getfield 141, 3) := by decide +kernel
theorem dX8_chance_168 : decode cX8_chance 168 = .ok (.if_icmp .le 66, 3) := by decide +kernel
theorem dX8_chance_171 : decode cX8_chance 171 = .ok (.iconst 0, 1) := by decide +kernel
theorem dX8_chance_172 : decode cX8_chance 172 = .ok (.istore 5, 2) := by decide +kernel
theorem dX8_chance_174 : decode cX8_chance 174 = .ok (.iload 5, 2) := by decide +kernel
theorem dX8_chance_176 : decode cX8_chance 176 = .ok (.sipush 500, 3) := by decide +kernel
theorem dX8_chance_179 : decode cX8_chance 179 = .ok (.if_icmp .gt 49, 3) := by decide +kernel
theorem dX8_chance_182 : decode cX8_chance 182 = .ok (.aload_n 0, 1) := by decide +kernel
theorem dX8_chance_183 : decode cX8_chance 183 = .ok (.getfield 64, 3) := by decide +kernel
theorem dX8_chance_186 : decode cX8_chance 186 = .ok (.sipush 501, 3) := by decide +kernel
theorem dX8_chance_189 : decode cX8_chance 189 = .ok (.iload 4, 2) := by decide +kernel
theorem dX8_chance_191 : decode cX8_chance 191 = .ok (.imul, 1) := by decide +kernel
theorem dX8_chance_192 : decode cX8_chance 192 = .ok (.iload 5, 2) := by decide +kernel
theorem dX8_chance_194 : decode cX8_chance 194 = .ok (.iadd, 1) := by decide +kernel
theorem dX8_chance_195 : decode cX8_chance 195 = .ok (.baload, 1) := by decide +kernel
theorem dX8_chance_196 : decode cX8_chance 196 = .ok (.ifCond .eq 26, 3) := by decide +kernel
theorem dX8_chance_199 : decode cX8_chance 199 = .ok (.aload_n 0, 1) := by decide +kernel
theorem dX8_chance_200 : decode cX8_chance 200 = .ok (.getfield 61, 3) := by decide +kernel
theorem dX8_chance_203 : decode cX8_chance 203 = .ok (.sipush 501, 3) := by decide +kernel
theorem dX8_chance_206 : decode cX8_chance 206 = .ok (.iload 4, 2) := by decide +kernel
theorem dX8_chance_208 : decode cX8_chance 208 = .ok (.imul, 1) := by decide +kernel
theorem dX8_chance_209 : decode cX8_chance 209 = .ok (.iload 5, 2) := by decide +kernel
theorem dX8_chance_211 : decode cX8_chance 211 = .ok (.iadd, 1) := by decide +kernel
theorem dX8_chance_212 : decode cX8_chance 212 = .ok (.aload_n 0, 1) := by decide +kernel
theorem dX8_chance_213 : decode cX8_chance 213 = .ok (.iload 4, 2) := by decide +kernel
theorem dX8_chance_215 : decode cX8_chance 215 = .ok (.iload 5, 2) := by decide +kernel
theorem dX8_chance_217 : decode cX8_chance 217 = .ok (.iload_n 2, 1) := by decide +kernel
theorem dX8_chance_218 : decode cX8_chance 218 = .ok (.invokevirtual 212, 3) := by decide +kernel
theorem dX8_chance_221 : decode cX8_chance 221 = .ok (.lastore, 1) := by decide +kernel
theorem dX8_chance_222 : decode cX8_chance 222 = .ok (.iinc 5 1, 3) := by decide +kernel
theorem dX8_chance_225 : decode cX8_chance 225 = .ok (.goto (-51), 3) := by decide +kernel
theorem dX8_chance_228 : decode cX8_chance 228 = .ok (.iinc 4 (-1), 3) := by decide +kernel
theorem dX8_chance_231 : decode cX8_chance 231 = .ok (.goto (-69), 3) := by decide +kernel
theorem dX8_chance_234 : decode cX8_chance 234 = .ok (.aload_n 0, 1) := by decide +kernel
theorem dX8_chance_235 : decode cX8_chance 235 = .ok (.getfield 147, 3) := by decide +kernel
theorem dX8_chance_238 : decode cX8_chance 238 = .ok (.ifCond .ne 14, 3) := by decide +kernel
theorem dX8_chance_241 : decode cX8_chance 241 = .ok (.aload_n 0, 1) := by decide +kernel
theorem dX8_chance_242 : decode cX8_chance 242 = .ok (.aload_n 0, 1) := by decide +kernel
theorem dX8_chance_243 : decode cX8_chance 243 = .ok (.getfield 141, 3) := by decide +kernel
theorem dX8_chance_246 : decode cX8_chance 246 = .ok (.iload_n 3, 1) := by decide +kernel
theorem dX8_chance_247 : decode cX8_chance 247 = .ok (.iload_n 2, 1) := by decide +kernel
theorem dX8_chance_248 : decode cX8_chance 248 = .ok (.invokevirtual 212, 3) := by decide +kernel
theorem dX8_chance_251 : decode cX8_chance 251 = .ok (.lreturn, 1) := by decide +kernel
theorem dX8_chance_252 : decode cX8_chance 252 = .ok (.aload_n 0, 1) := by decide +kernel
theorem dX8_chance_253 : decode cX8_chance 253 = .ok (.aload_n 0, 1) := by decide +kernel
theorem dX8_chance_254 : decode cX8_chance 254 = .ok (.getfield 141, 3) := by decide +kernel
theorem dX8_chance_257 : decode cX8_chance 257 = .ok (.iload_n 3, 1) := by decide +kernel
theorem dX8_chance_258 : decode cX8_chance 258 = .ok (.invokevirtual 216, 3) := by decide +kernel
theorem dX8_chance_261 : decode cX8_chance 261 = .ok (.aload_n 0, 1) := by decide +kernel
theorem dX8_chance_262 : decode cX8_chance 262 = .ok (.getfield 150, 3) := by decide +kernel
theorem dX8_chance_265 : decode cX8_chance 265 = .ok (.ifCond .ne 22, 3) := by decide +kernel
theorem dX8_chance_268 : decode cX8_chance 268 = .ok (.aload_n 0, 1) := by decide +kernel
theorem dX8_chance_269 : decode cX8_chance 269 = .ok (.getfield 54, 3) := by decide +kernel
theorem dX8_chance_272 : decode cX8_chance 272 = .ok (.sipush 462, 3) := by decide +kernel
theorem dX8_chance_275 : decode cX8_chance 275 = .ok (.aload_n 0, 1) := by decide +kernel
theorem dX8_chance_276 : decode cX8_chance 276 = .ok (.getfield 156, 3) := by decide +kernel
theorem dX8_chance_279 : decode cX8_chance 279 = .ok (.imul, 1) := by decide +kernel
theorem dX8_chance_280 : decode cX8_chance 280 = .ok (.aload_n 0, 1) := by decide +kernel
theorem dX8_chance_281 : decode cX8_chance 281 = .ok (.getfield 153, 3) := by decide +kernel
theorem dX8_chance_284 : decode cX8_chance 284 = .ok (.iadd, 1) := by decide +kernel
theorem dX8_chance_285 : decode cX8_chance 285 = .ok (.laload, 1) := by decide +kernel
theorem dX8_chance_286 : decode cX8_chance 286 = .ok (.lreturn, 1) := by decide +kernel
theorem dX8_chance_287 : decode cX8_chance 287 = .ok (.aload_n 0, 1) := by decide +kernel
theorem dX8_chance_288 : decode cX8_chance 288 = .ok (.aload_n 0, 1) := by decide +kernel
theorem dX8_chance_289 : decode cX8_chance 289 = .ok (.getfield 156, 3) := by decide +kernel
theorem dX8_chance_292 : decode cX8_chance 292 = .ok (.invokevirtual 99, 3) := by decide +kernel
theorem dX8_chance_295 : decode cX8_chance 295 = .ok (.aload_n 0, 1) := by decide +kernel
theorem dX8_chance_296 : decode cX8_chance 296 = .ok (.getfield 57, 3) := by decide +kernel
theorem dX8_chance_299 : decode cX8_chance 299 = .ok (.aload_n 0, 1) := by decide +kernel
theorem dX8_chance_300 : decode cX8_chance 300 = .ok (.getfield 153, 3) := by decide +kernel
theorem dX8_chance_303 : decode cX8_chance 303 = .ok (.laload, 1) := by decide +kernel
theorem dX8_chance_304 : decode cX8_chance 304 = .ok (.aload_n 0, 1) := by decide +kernel
theorem dX8_chance_305 : decode cX8_chance 305 = .ok (.getfield 47, 3) := by decide +kernel
theorem dX8_chance_308 : decode cX8_chance 308 = .ok (.aload_n 0, 1) := by decide +kernel
theorem dX8_chance_309 : decode cX8_chance 309 = .ok (.getfield 32, 3) := by decide +kernel
theorem dX8_chance_312 : decode cX8_chance 312 = .ok (.aload_n 0, 1) := by decide +kernel
theorem dX8_chance_313 : decode cX8_chance 313 = .ok (.getfield 153, 3) := by decide +kernel
theorem dX8_chance_316 : decode cX8_chance 316 = .ok (.iaload, 1) := by decide +kernel
theorem dX8_chance_317 : decode cX8_chance 317 = .ok (.laload, 1) := by decide +kernel
theorem dX8_chance_318 : decode cX8_chance 318 = .ok (.lmul, 1) := by decide +kernel
theorem dX8_chance_319 : decode cX8_chance 319 = .ok (.lreturn, 1) := by decide +kernel
theorem dX8_chanceOf_0 : decode cX8_chanceOf 0 = .ok (.iload_n 1, 1) := by decide +kernel
theorem dX8_chanceOf_1 : decode cX8_chanceOf 1 = .ok (.iload_n 3, 1) := by decide +kernel
theorem dX8_chanceOf_2 : decode cX8_chanceOf 2 = .ok (.if_icmp .ne 13, 3) := by decide +kernel
theorem dX8_chanceOf_5 : decode cX8_chanceOf 5 = .ok (.iload_n 2, 1) := by decide +kernel
theorem dX8_chanceOf_6 : decode cX8_chanceOf 6 = .ok (.ifCond .ne 7, 3) := by decide +kernel
theorem dX8_chanceOf_9 : decode cX8_chanceOf 9 = .ok (.lconst 1, 1) := by decide +kernel
theorem dX8_chanceOf_10 : decode cX8_chanceOf 10 = .ok (.goto 4, 3) := by decide +kernel
theorem dX8_chanceOf_13 : decode cX8_chanceOf 13 = .ok (.lconst 0, 1) := by decide +kernel
theorem dX8_chanceOf_14 : decode cX8_chanceOf 14 = .ok (.lreturn, 1) := by decide +kernel
theorem dX8_chanceOf_15 : decode cX8_chanceOf 15 = .ok (.aload_n 0, 1) := by decide +kernel
theorem dX8_chanceOf_16 : decode cX8_chanceOf 16 = .ok (.iload_n 1, 1) := by decide +kernel
theorem dX8_chanceOf_17 : decode cX8_chanceOf 17 = .ok (.iload_n 2, 1) := by decide +kernel
theorem dX8_chanceOf_18 : decode cX8_chanceOf 18 = .ok (.invokevirtual 216, 3) := by decide +kernel
theorem dX8_chanceOf_21 : decode cX8_chanceOf 21 = .ok (.aload_n 0, 1) := by decide +kernel
theorem dX8_chanceOf_22 : decode cX8_chanceOf 22 = .ok (.aload_n 0, 1) := by decide +kernel
theorem dX8_chanceOf_23 : decode cX8_chanceOf 23 = .ok (.getfield 16, 3) := by decide +kernel
theorem dX8_chanceOf_26 : decode cX8_chanceOf 26 = .ok (.invokevirtual 99, 3) := by decide +kernel
theorem dX8_chanceOf_29 : decode cX8_chanceOf 29 = .ok (.aload_n 0, 1) := by decide +kernel
theorem dX8_chanceOf_30 : decode cX8_chanceOf 30 = .ok (.getfield 57, 3) := by decide +kernel
theorem dX8_chanceOf_33 : decode cX8_chanceOf 33 = .ok (.iconst 0, 1) := by decide +kernel
theorem dX8_chanceOf_34 : decode cX8_chanceOf 34 = .ok (.laload, 1) := by decide +kernel
theorem dX8_chanceOf_35 : decode cX8_chanceOf 35 = .ok (.lreturn, 1) := by decide +kernel
theorem dX8_luck_0 : decode cX8_luck 0 = .ok (.aload_n 0, 1) := by decide +kernel
theorem dX8_luck_1 : decode cX8_luck 1 = .ok (.getfield 159, 3) := by decide +kernel
theorem dX8_luck_4 : decode cX8_luck 4 = .ok (.lreturn, 1) := by decide +kernel
theorem dX8_slip_0 : decode cX8_slip 0 = .ok (.aload_n 0, 1) := by decide +kernel
theorem dX8_slip_1 : decode cX8_slip 1 = .ok (.getfield 162, 3) := by decide +kernel
theorem dX8_slip_4 : decode cX8_slip 4 = .ok (.lreturn, 1) := by decide +kernel
theorem dX8_points_0 : decode cX8_points 0 = .ok (.iload_n 1, 1) := by decide +kernel
theorem dX8_points_1 : decode cX8_points 1 = .ok (.iconst 0, 1) := by decide +kernel
theorem dX8_points_2 : decode cX8_points 2 = .ok (.aload_n 0, 1) := by decide +kernel
theorem dX8_points_3 : decode cX8_points 3 = .ok (.getfield 86, 3) := by decide +kernel
theorem dX8_points_6 : decode cX8_points 6 = .ok (.iconst 1, 1) := by decide +kernel
theorem dX8_points_7 : decode cX8_points 7 = .ok (.isub, 1) := by decide +kernel
theorem dX8_points_8 : decode cX8_points 8 = .ok (.invokestatic 78, 3) := by decide +kernel
theorem dX8_points_11 : decode cX8_points 11 = .ok (.ifCond .ne 6, 3) := by decide +kernel
theorem dX8_points_14 : decode cX8_points 14 = .ok (.bipush (-2), 2) := by decide +kernel
theorem dX8_points_16 : decode cX8_points 16 = .ok (.ireturn, 1) := by decide +kernel
theorem dX8_points_17 : decode cX8_points 17 = .ok (.aload_n 0, 1) := by decide +kernel
theorem dX8_points_18 : decode cX8_points 18 = .ok (.invokevirtual 131, 3) := by decide +kernel
theorem dX8_points_21 : decode cX8_points 21 = .ok (.aload_n 0, 1) := by decide +kernel
theorem dX8_points_22 : decode cX8_points 22 = .ok (.iload_n 2, 1) := by decide +kernel
theorem dX8_points_23 : decode cX8_points 23 = .ok (.invokevirtual 189, 3) := by decide +kernel
theorem dX8_points_26 : decode cX8_points 26 = .ok (.istore_n 3, 1) := by decide +kernel
theorem dX8_points_27 : decode cX8_points 27 = .ok (.iload_n 3, 1) := by decide +kernel
theorem dX8_points_28 : decode cX8_points 28 = .ok (.iconst (-1), 1) := by decide +kernel
theorem dX8_points_29 : decode cX8_points 29 = .ok (.if_icmp .eq 16, 3) := by decide +kernel
theorem dX8_points_32 : decode cX8_points 32 = .ok (.aload_n 0, 1) := by decide +kernel
theorem dX8_points_33 : decode cX8_points 33 = .ok (.getfield 32, 3) := by decide +kernel
theorem dX8_points_36 : decode cX8_points 36 = .ok (.iload_n 3, 1) := by decide +kernel
theorem dX8_points_37 : decode cX8_points 37 = .ok (.iaload, 1) := by decide +kernel
theorem dX8_points_38 : decode cX8_points 38 = .ok (.aload_n 0, 1) := by decide +kernel
theorem dX8_points_39 : decode cX8_points 39 = .ok (.getfield 7, 3) := by decide +kernel
theorem dX8_points_42 : decode cX8_points 42 = .ok (.if_icmp .eq 8, 3) := by decide +kernel
theorem dX8_points_45 : decode cX8_points 45 = .ok (.bipush (-3), 2) := by decide +kernel
theorem dX8_points_47 : decode cX8_points 47 = .ok (.goto 9, 3) := by decide +kernel
theorem dX8_points_50 : decode cX8_points 50 = .ok (.aload_n 0, 1) := by decide +kernel
theorem dX8_points_51 : decode cX8_points 51 = .ok (.iload_n 3, 1) := by decide +kernel
theorem dX8_points_52 : decode cX8_points 52 = .ok (.iload_n 1, 1) := by decide +kernel
theorem dX8_points_53 : decode cX8_points 53 = .ok (.invokevirtual 134, 3) := by decide +kernel
theorem dX8_points_56 : decode cX8_points 56 = .ok (.ireturn, 1) := by decide +kernel
theorem dX8_ways_0 : decode cX8_ways 0 = .ok (.aload_n 0, 1) := by decide +kernel
theorem dX8_ways_1 : decode cX8_ways 1 = .ok (.invokevirtual 131, 3) := by decide +kernel
theorem dX8_ways_4 : decode cX8_ways 4 = .ok (.aload_n 0, 1) := by decide +kernel
theorem dX8_ways_5 : decode cX8_ways 5 = .ok (.iload_n 1, 1) := by decide +kernel
theorem dX8_ways_6 : decode cX8_ways 6 = .ok (.invokevirtual 189, 3) := by decide +kernel
theorem dX8_ways_9 : decode cX8_ways 9 = .ok (.istore_n 2, 1) := by decide +kernel
theorem dX8_ways_10 : decode cX8_ways 10 = .ok (.iload_n 2, 1) := by decide +kernel
theorem dX8_ways_11 : decode cX8_ways 11 = .ok (.iconst (-1), 1) := by decide +kernel
theorem dX8_ways_12 : decode cX8_ways 12 = .ok (.if_icmp .eq 16, 3) := by decide +kernel
theorem dX8_ways_15 : decode cX8_ways 15 = .ok (.aload_n 0, 1) := by decide +kernel
theorem dX8_ways_16 : decode cX8_ways 16 = .ok (.getfield 32, 3) := by decide +kernel
theorem dX8_ways_19 : decode cX8_ways 19 = .ok (.iload_n 2, 1) := by decide +kernel
theorem dX8_ways_20 : decode cX8_ways 20 = .ok (.iaload, 1) := by decide +kernel
theorem dX8_ways_21 : decode cX8_ways 21 = .ok (.aload_n 0, 1) := by decide +kernel
theorem dX8_ways_22 : decode cX8_ways 22 = .ok (.getfield 7, 3) := by decide +kernel
theorem dX8_ways_25 : decode cX8_ways 25 = .ok (.if_icmp .eq 6, 3) := by decide +kernel
theorem dX8_ways_28 : decode cX8_ways 28 = .ok (.bipush (-3), 2) := by decide +kernel
theorem dX8_ways_30 : decode cX8_ways 30 = .ok (.ireturn, 1) := by decide +kernel
theorem dX8_ways_31 : decode cX8_ways 31 = .ok (.iconst 1, 1) := by decide +kernel
theorem dX8_ways_32 : decode cX8_ways 32 = .ok (.istore_n 3, 1) := by decide +kernel
theorem dX8_ways_33 : decode cX8_ways 33 = .ok (.iconst 0, 1) := by decide +kernel
theorem dX8_ways_34 : decode cX8_ways 34 = .ok (.istore 4, 2) := by decide +kernel
theorem dX8_ways_36 : decode cX8_ways 36 = .ok (.iconst 0, 1) := by decide +kernel
theorem dX8_ways_37 : decode cX8_ways 37 = .ok (.istore 5, 2) := by decide +kernel
theorem dX8_ways_39 : decode cX8_ways 39 = .ok (.iload 5, 2) := by decide +kernel
theorem dX8_ways_41 : decode cX8_ways 41 = .ok (.bipush 6, 2) := by decide +kernel
theorem dX8_ways_43 : decode cX8_ways 43 = .ok (.if_icmp .ge 46, 3) := by decide +kernel
theorem dX8_ways_46 : decode cX8_ways 46 = .ok (.iconst 1, 1) := by decide +kernel
theorem dX8_ways_47 : decode cX8_ways 47 = .ok (.istore 6, 2) := by decide +kernel
theorem dX8_ways_49 : decode cX8_ways 49 = .ok (.iload 6, 2) := by decide +kernel
theorem dX8_ways_51 : decode cX8_ways 51 = .ok (.aload_n 0, 1) := by decide +kernel
theorem dX8_ways_52 : decode cX8_ways 52 = .ok (.getfield 29, 3) := by decide +kernel
theorem dX8_ways_55 : decode cX8_ways 55 = .ok (.bipush 6, 2) := by decide +kernel
theorem dX8_ways_57 : decode cX8_ways 57 = .ok (.iload_n 2, 1) := by decide +kernel
theorem dX8_ways_58 : decode cX8_ways 58 = .ok (.imul, 1) := by decide +kernel
theorem dX8_ways_59 : decode cX8_ways 59 = .ok (.iload 5, 2) := by decide +kernel
theorem dX8_ways_61 : decode cX8_ways 61 = .ok (.iadd, 1) := by decide +kernel
theorem dX8_ways_62 : decode cX8_ways 62 = .ok (.iaload, 1) := by decide +kernel
theorem dX8_ways_63 : decode cX8_ways 63 = .ok (.if_icmp .gt 20, 3) := by decide +kernel
theorem dX8_ways_66 : decode cX8_ways 66 = .ok (.iinc 4 1, 3) := by decide +kernel
theorem dX8_ways_69 : decode cX8_ways 69 = .ok (.iload_n 3, 1) := by decide +kernel
theorem dX8_ways_70 : decode cX8_ways 70 = .ok (.iload 4, 2) := by decide +kernel
theorem dX8_ways_72 : decode cX8_ways 72 = .ok (.imul, 1) := by decide +kernel
theorem dX8_ways_73 : decode cX8_ways 73 = .ok (.iload 6, 2) := by decide +kernel
theorem dX8_ways_75 : decode cX8_ways 75 = .ok (.idiv, 1) := by decide +kernel
theorem dX8_ways_76 : decode cX8_ways 76 = .ok (.istore_n 3, 1) := by decide +kernel
theorem dX8_ways_77 : decode cX8_ways 77 = .ok (.iinc 6 1, 3) := by decide +kernel
theorem dX8_ways_80 : decode cX8_ways 80 = .ok (.goto (-31), 3) := by decide +kernel
theorem dX8_ways_83 : decode cX8_ways 83 = .ok (.iinc 5 1, 3) := by decide +kernel
theorem dX8_ways_86 : decode cX8_ways 86 = .ok (.goto (-47), 3) := by decide +kernel
theorem dX8_ways_89 : decode cX8_ways 89 = .ok (.iload_n 3, 1) := by decide +kernel
theorem dX8_ways_90 : decode cX8_ways 90 = .ok (.ireturn, 1) := by decide +kernel
theorem dX8_filled_0 : decode cX8_filled 0 = .ok (.iload_n 1, 1) := by decide +kernel
theorem dX8_filled_1 : decode cX8_filled 1 = .ok (.iconst 0, 1) := by decide +kernel
theorem dX8_filled_2 : decode cX8_filled 2 = .ok (.aload_n 0, 1) := by decide +kernel
theorem dX8_filled_3 : decode cX8_filled 3 = .ok (.getfield 86, 3) := by decide +kernel
theorem dX8_filled_6 : decode cX8_filled 6 = .ok (.iconst 1, 1) := by decide +kernel
theorem dX8_filled_7 : decode cX8_filled 7 = .ok (.isub, 1) := by decide +kernel
theorem dX8_filled_8 : decode cX8_filled 8 = .ok (.invokestatic 78, 3) := by decide +kernel
theorem dX8_filled_11 : decode cX8_filled 11 = .ok (.ifCond .eq 12, 3) := by decide +kernel
theorem dX8_filled_14 : decode cX8_filled 14 = .ok (.aload_n 0, 1) := by decide +kernel
theorem dX8_filled_15 : decode cX8_filled 15 = .ok (.getfield 44, 3) := by decide +kernel
theorem dX8_filled_18 : decode cX8_filled 18 = .ok (.iload_n 1, 1) := by decide +kernel
theorem dX8_filled_19 : decode cX8_filled 19 = .ok (.iaload, 1) := by decide +kernel
theorem dX8_filled_20 : decode cX8_filled 20 = .ok (.goto 5, 3) := by decide +kernel
theorem dX8_filled_23 : decode cX8_filled 23 = .ok (.bipush (-2), 2) := by decide +kernel
theorem dX8_filled_25 : decode cX8_filled 25 = .ok (.ireturn, 1) := by decide +kernel
theorem dX8_count_0 : decode cX8_count 0 = .ok (.aload_n 0, 1) := by decide +kernel
theorem dX8_count_1 : decode cX8_count 1 = .ok (.getfield 82, 3) := by decide +kernel
theorem dX8_count_4 : decode cX8_count 4 = .ok (.ifCond .eq 14, 3) := by decide +kernel
theorem dX8_count_7 : decode cX8_count 7 = .ok (.aload_n 0, 1) := by decide +kernel
theorem dX8_count_8 : decode cX8_count 8 = .ok (.invokevirtual 175, 3) := by decide +kernel
theorem dX8_count_11 : decode cX8_count 11 = .ok (.ifCond .ne 7, 3) := by decide +kernel
theorem dX8_count_14 : decode cX8_count 14 = .ok (.iconst 1, 1) := by decide +kernel
theorem dX8_count_15 : decode cX8_count 15 = .ok (.goto 4, 3) := by decide +kernel
theorem dX8_count_18 : decode cX8_count 18 = .ok (.iconst 0, 1) := by decide +kernel
theorem dX8_count_19 : decode cX8_count 19 = .ok (.istore_n 2, 1) := by decide +kernel
theorem dX8_count_20 : decode cX8_count 20 = .ok (.iload_n 1, 1) := by decide +kernel
theorem dX8_count_21 : decode cX8_count 21 = .ok (.tableswitch 210 0 9 #[55, 60, 65, 70, 75, 89, 94, 122, 149, 197], 55) := by decide +kernel
theorem dX8_count_76 : decode cX8_count 76 = .ok (.aload_n 0, 1) := by decide +kernel
theorem dX8_count_77 : decode cX8_count 77 = .ok (.getfield 7, 3) := by decide +kernel
theorem dX8_count_80 : decode cX8_count 80 = .ok (.ireturn, 1) := by decide +kernel
theorem dX8_count_81 : decode cX8_count 81 = .ok (.aload_n 0, 1) := by decide +kernel
theorem dX8_count_82 : decode cX8_count 82 = .ok (.getfield 13, 3) := by decide +kernel
theorem dX8_count_85 : decode cX8_count 85 = .ok (.ireturn, 1) := by decide +kernel
theorem dX8_count_86 : decode cX8_count 86 = .ok (.aload_n 0, 1) := by decide +kernel
theorem dX8_count_87 : decode cX8_count 87 = .ok (.getfield 16, 3) := by decide +kernel
theorem dX8_count_90 : decode cX8_count 90 = .ok (.ireturn, 1) := by decide +kernel
theorem dX8_count_91 : decode cX8_count 91 = .ok (.aload_n 0, 1) := by decide +kernel
theorem dX8_count_92 : decode cX8_count 92 = .ok (.getfield 86, 3) := by decide +kernel
theorem dX8_count_95 : decode cX8_count 95 = .ok (.ireturn, 1) := by decide +kernel
theorem dX8_count_96 : decode cX8_count 96 = .ok (.aload_n 0, 1) := by decide +kernel
theorem dX8_count_97 : decode cX8_count 97 = .ok (.getfield 86, 3) := by decide +kernel
theorem dX8_count_100 : decode cX8_count 100 = .ok (.aload_n 0, 1) := by decide +kernel
theorem dX8_count_101 : decode cX8_count 101 = .ok (.aload_n 0, 1) := by decide +kernel
theorem dX8_count_102 : decode cX8_count 102 = .ok (.getfield 141, 3) := by decide +kernel
theorem dX8_count_105 : decode cX8_count 105 = .ok (.invokevirtual 107, 3) := by decide +kernel
theorem dX8_count_108 : decode cX8_count 108 = .ok (.isub, 1) := by decide +kernel
theorem dX8_count_109 : decode cX8_count 109 = .ok (.ireturn, 1) := by decide +kernel
theorem dX8_count_110 : decode cX8_count 110 = .ok (.aload_n 0, 1) := by decide +kernel
theorem dX8_count_111 : decode cX8_count 111 = .ok (.getfield 144, 3) := by decide +kernel
theorem dX8_count_114 : decode cX8_count 114 = .ok (.ireturn, 1) := by decide +kernel
theorem dX8_count_115 : decode cX8_count 115 = .ok (.aload_n 0, 1) := by decide +kernel
theorem dX8_count_116 : decode cX8_count 116 = .ok (.getfield 82, 3) := by decide +kernel
theorem dX8_count_119 : decode cX8_count 119 = .ok (.ifCond .eq 22, 3) := by decide +kernel
theorem dX8_count_122 : decode cX8_count 122 = .ok (.aload_n 0, 1) := by decide +kernel
theorem dX8_count_123 : decode cX8_count 123 = .ok (.getfield 147, 3) := by decide +kernel
theorem dX8_count_126 : decode cX8_count 126 = .ok (.ifCond .eq 15, 3) := by decide +kernel
theorem dX8_count_129 : decode cX8_count 129 = .ok (.aload_n 0, 1) := by decide +kernel
theorem dX8_count_130 : decode cX8_count 130 = .ok (.getfield 35, 3) := by decide +kernel
theorem dX8_count_133 : decode cX8_count 133 = .ok (.aload_n 0, 1) := by decide +kernel
theorem dX8_count_134 : decode cX8_count 134 = .ok (.getfield 153, 3) := by decide +kernel
theorem dX8_count_137 : decode cX8_count 137 = .ok (.iaload, 1) := by decide +kernel
theorem dX8_count_138 : decode cX8_count 138 = .ok (.goto 4, 3) := by decide +kernel
theorem dX8_count_141 : decode cX8_count 141 = .ok (.iconst 0, 1) := by decide +kernel
theorem dX8_count_142 : decode cX8_count 142 = .ok (.ireturn, 1) := by decide +kernel
theorem dX8_count_143 : decode cX8_count 143 = .ok (.iload_n 2, 1) := by decide +kernel
theorem dX8_count_144 : decode cX8_count 144 = .ok (.ifCond .ne 7, 3) := by decide +kernel
theorem dX8_count_147 : decode cX8_count 147 = .ok (.iconst 0, 1) := by decide +kernel
theorem dX8_count_148 : decode cX8_count 148 = .ok (.goto 21, 3) := by decide +kernel
theorem dX8_count_151 : decode cX8_count 151 = .ok (.aload_n 0, 1) := by decide +kernel
theorem dX8_count_152 : decode cX8_count 152 = .ok (.getfield 147, 3) := by decide +kernel
theorem dX8_count_155 : decode cX8_count 155 = .ok (.ifCond .eq 10, 3) := by decide +kernel
theorem dX8_count_158 : decode cX8_count 158 = .ok (.aload_n 0, 1) := by decide +kernel
theorem dX8_count_159 : decode cX8_count 159 = .ok (.getfield 156, 3) := by decide +kernel
theorem dX8_count_162 : decode cX8_count 162 = .ok (.goto 7, 3) := by decide +kernel
theorem dX8_count_165 : decode cX8_count 165 = .ok (.aload_n 0, 1) := by decide +kernel
theorem dX8_count_166 : decode cX8_count 166 = .ok (.getfield 16, 3) := by decide +kernel
theorem dX8_count_169 : decode cX8_count 169 = .ok (.ireturn, 1) := by decide +kernel
theorem dX8_count_170 : decode cX8_count 170 = .ok (.iload_n 2, 1) := by decide +kernel
theorem dX8_count_171 : decode cX8_count 171 = .ok (.ifCond .ne 7, 3) := by decide +kernel
theorem dX8_count_174 : decode cX8_count 174 = .ok (.iconst 0, 1) := by decide +kernel
theorem dX8_count_175 : decode cX8_count 175 = .ok (.goto 42, 3) := by decide +kernel
theorem dX8_count_178 : decode cX8_count 178 = .ok (.aload_n 0, 1) := by decide +kernel
theorem dX8_count_179 : decode cX8_count 179 = .ok (.getfield 147, 3) := by decide +kernel
theorem dX8_count_182 : decode cX8_count 182 = .ok (.ifCond .ne 10, 3) := by decide +kernel
theorem dX8_count_185 : decode cX8_count 185 = .ok (.aload_n 0, 1) := by decide +kernel
theorem dX8_count_186 : decode cX8_count 186 = .ok (.getfield 7, 3) := by decide +kernel
theorem dX8_count_189 : decode cX8_count 189 = .ok (.goto 28, 3) := by decide +kernel
theorem dX8_count_192 : decode cX8_count 192 = .ok (.aload_n 0, 1) := by decide +kernel
theorem dX8_count_193 : decode cX8_count 193 = .ok (.getfield 150, 3) := by decide +kernel
theorem dX8_count_196 : decode cX8_count 196 = .ok (.ifCond .eq 20, 3) := by decide +kernel
theorem dX8_count_199 : decode cX8_count 199 = .ok (.aload_n 0, 1) := by decide +kernel
theorem dX8_count_200 : decode cX8_count 200 = .ok (.getfield 7, 3) := by decide +kernel
theorem dX8_count_203 : decode cX8_count 203 = .ok (.aload_n 0, 1) := by decide +kernel
theorem dX8_count_204 : decode cX8_count 204 = .ok (.getfield 32, 3) := by decide +kernel
theorem dX8_count_207 : decode cX8_count 207 = .ok (.aload_n 0, 1) := by decide +kernel
theorem dX8_count_208 : decode cX8_count 208 = .ok (.getfield 153, 3) := by decide +kernel
theorem dX8_count_211 : decode cX8_count 211 = .ok (.iaload, 1) := by decide +kernel
theorem dX8_count_212 : decode cX8_count 212 = .ok (.isub, 1) := by decide +kernel
theorem dX8_count_213 : decode cX8_count 213 = .ok (.goto 4, 3) := by decide +kernel
theorem dX8_count_216 : decode cX8_count 216 = .ok (.iconst 0, 1) := by decide +kernel
theorem dX8_count_217 : decode cX8_count 217 = .ok (.ireturn, 1) := by decide +kernel
theorem dX8_count_218 : decode cX8_count 218 = .ok (.aload_n 0, 1) := by decide +kernel
theorem dX8_count_219 : decode cX8_count 219 = .ok (.getfield 82, 3) := by decide +kernel
theorem dX8_count_222 : decode cX8_count 222 = .ok (.ifCond .eq 7, 3) := by decide +kernel
theorem dX8_count_225 : decode cX8_count 225 = .ok (.iconst 1, 1) := by decide +kernel
theorem dX8_count_226 : decode cX8_count 226 = .ok (.goto 4, 3) := by decide +kernel
theorem dX8_count_229 : decode cX8_count 229 = .ok (.iconst 0, 1) := by decide +kernel
theorem dX8_count_230 : decode cX8_count 230 = .ok (.ireturn, 1) := by decide +kernel
theorem dX8_count_231 : decode cX8_count 231 = .ok (.bipush (-3), 2) := by decide +kernel
theorem dX8_count_233 : decode cX8_count 233 = .ok (.ireturn, 1) := by decide +kernel
theorem dJ6_bitCount_0f7a4_0 : decode cJ6_bitCount_0f7a4 0 = .ok (.iload_n 0, 1) := by decide +kernel
theorem dJ6_bitCount_0f7a4_1 : decode cJ6_bitCount_0f7a4 1 = .ok (.iload_n 0, 1) := by decide +kernel
theorem dJ6_bitCount_0f7a4_2 : decode cJ6_bitCount_0f7a4 2 = .ok (.iconst 1, 1) := by decide +kernel
theorem dJ6_bitCount_0f7a4_3 : decode cJ6_bitCount_0f7a4 3 = .ok (.iushr, 1) := by decide +kernel
theorem dJ6_bitCount_0f7a4_4 : decode cJ6_bitCount_0f7a4 4 = .ok (.ldc_w 265, 3) := by decide +kernel
theorem dJ6_bitCount_0f7a4_7 : decode cJ6_bitCount_0f7a4 7 = .ok (.iand, 1) := by decide +kernel
theorem dJ6_bitCount_0f7a4_8 : decode cJ6_bitCount_0f7a4 8 = .ok (.isub, 1) := by decide +kernel
theorem dJ6_bitCount_0f7a4_9 : decode cJ6_bitCount_0f7a4 9 = .ok (.istore_n 0, 1) := by decide +kernel
theorem dJ6_bitCount_0f7a4_10 : decode cJ6_bitCount_0f7a4 10 = .ok (.iload_n 0, 1) := by decide +kernel
theorem dJ6_bitCount_0f7a4_11 : decode cJ6_bitCount_0f7a4 11 = .ok (.ldc_w 266, 3) := by decide +kernel
theorem dJ6_bitCount_0f7a4_14 : decode cJ6_bitCount_0f7a4 14 = .ok (.iand, 1) := by decide +kernel
theorem dJ6_bitCount_0f7a4_15 : decode cJ6_bitCount_0f7a4 15 = .ok (.iload_n 0, 1) := by decide +kernel
theorem dJ6_bitCount_0f7a4_16 : decode cJ6_bitCount_0f7a4 16 = .ok (.iconst 2, 1) := by decide +kernel
theorem dJ6_bitCount_0f7a4_17 : decode cJ6_bitCount_0f7a4 17 = .ok (.iushr, 1) := by decide +kernel
theorem dJ6_bitCount_0f7a4_18 : decode cJ6_bitCount_0f7a4 18 = .ok (.ldc_w 266, 3) := by decide +kernel
theorem dJ6_bitCount_0f7a4_21 : decode cJ6_bitCount_0f7a4 21 = .ok (.iand, 1) := by decide +kernel
theorem dJ6_bitCount_0f7a4_22 : decode cJ6_bitCount_0f7a4 22 = .ok (.iadd, 1) := by decide +kernel
theorem dJ6_bitCount_0f7a4_23 : decode cJ6_bitCount_0f7a4 23 = .ok (.istore_n 0, 1) := by decide +kernel
theorem dJ6_bitCount_0f7a4_24 : decode cJ6_bitCount_0f7a4 24 = .ok (.iload_n 0, 1) := by decide +kernel
theorem dJ6_bitCount_0f7a4_25 : decode cJ6_bitCount_0f7a4 25 = .ok (.iload_n 0, 1) := by decide +kernel
theorem dJ6_bitCount_0f7a4_26 : decode cJ6_bitCount_0f7a4 26 = .ok (.iconst 4, 1) := by decide +kernel
theorem dJ6_bitCount_0f7a4_27 : decode cJ6_bitCount_0f7a4 27 = .ok (.iushr, 1) := by decide +kernel
theorem dJ6_bitCount_0f7a4_28 : decode cJ6_bitCount_0f7a4 28 = .ok (.iadd, 1) := by decide +kernel
theorem dJ6_bitCount_0f7a4_29 : decode cJ6_bitCount_0f7a4 29 = .ok (.ldc_w 267, 3) := by decide +kernel
theorem dJ6_bitCount_0f7a4_32 : decode cJ6_bitCount_0f7a4 32 = .ok (.iand, 1) := by decide +kernel
theorem dJ6_bitCount_0f7a4_33 : decode cJ6_bitCount_0f7a4 33 = .ok (.istore_n 0, 1) := by decide +kernel
theorem dJ6_bitCount_0f7a4_34 : decode cJ6_bitCount_0f7a4 34 = .ok (.iload_n 0, 1) := by decide +kernel
theorem dJ6_bitCount_0f7a4_35 : decode cJ6_bitCount_0f7a4 35 = .ok (.iload_n 0, 1) := by decide +kernel
theorem dJ6_bitCount_0f7a4_36 : decode cJ6_bitCount_0f7a4 36 = .ok (.bipush 8, 2) := by decide +kernel
theorem dJ6_bitCount_0f7a4_38 : decode cJ6_bitCount_0f7a4 38 = .ok (.iushr, 1) := by decide +kernel
theorem dJ6_bitCount_0f7a4_39 : decode cJ6_bitCount_0f7a4 39 = .ok (.iadd, 1) := by decide +kernel
theorem dJ6_bitCount_0f7a4_40 : decode cJ6_bitCount_0f7a4 40 = .ok (.istore_n 0, 1) := by decide +kernel
theorem dJ6_bitCount_0f7a4_41 : decode cJ6_bitCount_0f7a4 41 = .ok (.iload_n 0, 1) := by decide +kernel
theorem dJ6_bitCount_0f7a4_42 : decode cJ6_bitCount_0f7a4 42 = .ok (.iload_n 0, 1) := by decide +kernel
theorem dJ6_bitCount_0f7a4_43 : decode cJ6_bitCount_0f7a4 43 = .ok (.bipush 16, 2) := by decide +kernel
theorem dJ6_bitCount_0f7a4_45 : decode cJ6_bitCount_0f7a4 45 = .ok (.iushr, 1) := by decide +kernel
theorem dJ6_bitCount_0f7a4_46 : decode cJ6_bitCount_0f7a4 46 = .ok (.iadd, 1) := by decide +kernel
theorem dJ6_bitCount_0f7a4_47 : decode cJ6_bitCount_0f7a4 47 = .ok (.istore_n 0, 1) := by decide +kernel
theorem dJ6_bitCount_0f7a4_48 : decode cJ6_bitCount_0f7a4 48 = .ok (.iload_n 0, 1) := by decide +kernel
theorem dJ6_bitCount_0f7a4_49 : decode cJ6_bitCount_0f7a4 49 = .ok (.bipush 63, 2) := by decide +kernel
theorem dJ6_bitCount_0f7a4_51 : decode cJ6_bitCount_0f7a4 51 = .ok (.iand, 1) := by decide +kernel
theorem dJ6_bitCount_0f7a4_52 : decode cJ6_bitCount_0f7a4 52 = .ok (.ireturn, 1) := by decide +kernel
theorem dJ9_max_7cf53_0 : decode cJ9_max_7cf53 0 = .ok (.iload_n 0, 1) := by decide +kernel
theorem dJ9_max_7cf53_1 : decode cJ9_max_7cf53 1 = .ok (.iload_n 1, 1) := by decide +kernel
theorem dJ9_max_7cf53_2 : decode cJ9_max_7cf53 2 = .ok (.if_icmp .lt 7, 3) := by decide +kernel
theorem dJ9_max_7cf53_5 : decode cJ9_max_7cf53 5 = .ok (.iload_n 0, 1) := by decide +kernel
theorem dJ9_max_7cf53_6 : decode cJ9_max_7cf53 6 = .ok (.goto 4, 3) := by decide +kernel
theorem dJ9_max_7cf53_9 : decode cJ9_max_7cf53 9 = .ok (.iload_n 1, 1) := by decide +kernel
theorem dJ9_max_7cf53_10 : decode cJ9_max_7cf53 10 = .ok (.ireturn, 1) := by decide +kernel
theorem dJ9_max_f86c9_0 : decode cJ9_max_f86c9 0 = .ok (.lload_n 0, 1) := by decide +kernel
theorem dJ9_max_f86c9_1 : decode cJ9_max_f86c9 1 = .ok (.lload_n 2, 1) := by decide +kernel
theorem dJ9_max_f86c9_2 : decode cJ9_max_f86c9 2 = .ok (.lcmp, 1) := by decide +kernel
theorem dJ9_max_f86c9_3 : decode cJ9_max_f86c9 3 = .ok (.ifCond .lt 7, 3) := by decide +kernel
theorem dJ9_max_f86c9_6 : decode cJ9_max_f86c9 6 = .ok (.lload_n 0, 1) := by decide +kernel
theorem dJ9_max_f86c9_7 : decode cJ9_max_f86c9 7 = .ok (.goto 4, 3) := by decide +kernel
theorem dJ9_max_f86c9_10 : decode cJ9_max_f86c9 10 = .ok (.lload_n 2, 1) := by decide +kernel
theorem dJ9_max_f86c9_11 : decode cJ9_max_f86c9 11 = .ok (.lreturn, 1) := by decide +kernel
end
section
theorem dJ9_min_7cf53_0 : decode cJ9_min_7cf53 0 = .ok (.iload_n 0, 1) := by decide +kernel
theorem dJ9_min_7cf53_1 : decode cJ9_min_7cf53 1 = .ok (.iload_n 1, 1) := by decide +kernel
theorem dJ9_min_7cf53_2 : decode cJ9_min_7cf53 2 = .ok (.if_icmp .gt 7, 3) := by decide +kernel
theorem dJ9_min_7cf53_5 : decode cJ9_min_7cf53 5 = .ok (.iload_n 0, 1) := by decide +kernel
theorem dJ9_min_7cf53_6 : decode cJ9_min_7cf53 6 = .ok (.goto 4, 3) := by decide +kernel
theorem dJ9_min_7cf53_9 : decode cJ9_min_7cf53 9 = .ok (.iload_n 1, 1) := by decide +kernel
theorem dJ9_min_7cf53_10 : decode cJ9_min_7cf53 10 = .ok (.ireturn, 1) := by decide +kernel
theorem dJ7_rangeCheck_23922_0 : decode cJ7_rangeCheck_23922 0 = .ok (.iload_n 1, 1) := by decide +kernel
theorem dJ7_rangeCheck_23922_1 : decode cJ7_rangeCheck_23922 1 = .ok (.iload_n 2, 1) := by decide +kernel
theorem dJ7_rangeCheck_23922_2 : decode cJ7_rangeCheck_23922 2 = .ok (.if_icmp .le 44, 3) := by decide +kernel
theorem dJ7_rangeCheck_23922_5 : decode cJ7_rangeCheck_23922 5 = .ok (.new 43, 3) := by decide +kernel
theorem dJ7_rangeCheck_23922_8 : decode cJ7_rangeCheck_23922 8 = .ok (.dup, 1) := by decide +kernel
theorem dJ7_rangeCheck_23922_9 : decode cJ7_rangeCheck_23922 9 = .ok (.new 45, 3) := by decide +kernel
theorem dJ7_rangeCheck_23922_12 : decode cJ7_rangeCheck_23922 12 = .ok (.dup, 1) := by decide +kernel
theorem dJ7_rangeCheck_23922_13 : decode cJ7_rangeCheck_23922 13 = .ok (.invokespecial 47, 3) := by decide +kernel
theorem dJ7_rangeCheck_23922_16 : decode cJ7_rangeCheck_23922 16 = .ok (.ldc 48, 2) := by decide +kernel
theorem dJ7_rangeCheck_23922_18 : decode cJ7_rangeCheck_23922 18 = .ok (.invokevirtual 50, 3) := by decide +kernel
theorem dJ7_rangeCheck_23922_21 : decode cJ7_rangeCheck_23922 21 = .ok (.iload_n 1, 1) := by decide +kernel
theorem dJ7_rangeCheck_23922_22 : decode cJ7_rangeCheck_23922 22 = .ok (.invokevirtual 54, 3) := by decide +kernel
theorem dJ7_rangeCheck_23922_25 : decode cJ7_rangeCheck_23922 25 = .ok (.ldc 57, 2) := by decide +kernel
theorem dJ7_rangeCheck_23922_27 : decode cJ7_rangeCheck_23922 27 = .ok (.invokevirtual 50, 3) := by decide +kernel
theorem dJ7_rangeCheck_23922_30 : decode cJ7_rangeCheck_23922 30 = .ok (.iload_n 2, 1) := by decide +kernel
theorem dJ7_rangeCheck_23922_31 : decode cJ7_rangeCheck_23922 31 = .ok (.invokevirtual 54, 3) := by decide +kernel
theorem dJ7_rangeCheck_23922_34 : decode cJ7_rangeCheck_23922 34 = .ok (.ldc 59, 2) := by decide +kernel
theorem dJ7_rangeCheck_23922_36 : decode cJ7_rangeCheck_23922 36 = .ok (.invokevirtual 50, 3) := by decide +kernel
theorem dJ7_rangeCheck_23922_39 : decode cJ7_rangeCheck_23922 39 = .ok (.invokevirtual 61, 3) := by decide +kernel
theorem dJ7_rangeCheck_23922_42 : decode cJ7_rangeCheck_23922 42 = .ok (.invokespecial 65, 3) := by decide +kernel
theorem dJ7_rangeCheck_23922_45 : decode cJ7_rangeCheck_23922 45 = .ok (.athrow, 1) := by decide +kernel
theorem dJ7_rangeCheck_23922_46 : decode cJ7_rangeCheck_23922 46 = .ok (.iload_n 1, 1) := by decide +kernel
theorem dJ7_rangeCheck_23922_47 : decode cJ7_rangeCheck_23922 47 = .ok (.ifCond .ge 12, 3) := by decide +kernel
theorem dJ7_rangeCheck_23922_50 : decode cJ7_rangeCheck_23922 50 = .ok (.new 68, 3) := by decide +kernel
theorem dJ7_rangeCheck_23922_53 : decode cJ7_rangeCheck_23922 53 = .ok (.dup, 1) := by decide +kernel
theorem dJ7_rangeCheck_23922_54 : decode cJ7_rangeCheck_23922 54 = .ok (.iload_n 1, 1) := by decide +kernel
theorem dJ7_rangeCheck_23922_55 : decode cJ7_rangeCheck_23922 55 = .ok (.invokespecial 70, 3) := by decide +kernel
theorem dJ7_rangeCheck_23922_58 : decode cJ7_rangeCheck_23922 58 = .ok (.athrow, 1) := by decide +kernel
theorem dJ7_rangeCheck_23922_59 : decode cJ7_rangeCheck_23922 59 = .ok (.iload_n 2, 1) := by decide +kernel
theorem dJ7_rangeCheck_23922_60 : decode cJ7_rangeCheck_23922 60 = .ok (.iload_n 0, 1) := by decide +kernel
theorem dJ7_rangeCheck_23922_61 : decode cJ7_rangeCheck_23922 61 = .ok (.if_icmp .le 12, 3) := by decide +kernel
theorem dJ7_rangeCheck_23922_64 : decode cJ7_rangeCheck_23922 64 = .ok (.new 68, 3) := by decide +kernel
theorem dJ7_rangeCheck_23922_67 : decode cJ7_rangeCheck_23922 67 = .ok (.dup, 1) := by decide +kernel
theorem dJ7_rangeCheck_23922_68 : decode cJ7_rangeCheck_23922 68 = .ok (.iload_n 2, 1) := by decide +kernel
theorem dJ7_rangeCheck_23922_69 : decode cJ7_rangeCheck_23922 69 = .ok (.invokespecial 70, 3) := by decide +kernel
theorem dJ7_rangeCheck_23922_72 : decode cJ7_rangeCheck_23922 72 = .ok (.athrow, 1) := by decide +kernel
theorem dJ7_rangeCheck_23922_73 : decode cJ7_rangeCheck_23922 73 = .ok (.return_, 1) := by decide +kernel
theorem dJ7_fill_bad5a_0 : decode cJ7_fill_bad5a 0 = .ok (.aload_n 0, 1) := by decide +kernel
theorem dJ7_fill_bad5a_1 : decode cJ7_fill_bad5a 1 = .ok (.arraylength, 1) := by decide +kernel
theorem dJ7_fill_bad5a_2 : decode cJ7_fill_bad5a 2 = .ok (.iload_n 1, 1) := by decide +kernel
theorem dJ7_fill_bad5a_3 : decode cJ7_fill_bad5a 3 = .ok (.iload_n 2, 1) := by decide +kernel
theorem dJ7_fill_bad5a_4 : decode cJ7_fill_bad5a 4 = .ok (.invokestatic 13, 3) := by decide +kernel
theorem dJ7_fill_bad5a_7 : decode cJ7_fill_bad5a 7 = .ok (.iload_n 1, 1) := by decide +kernel
theorem dJ7_fill_bad5a_8 : decode cJ7_fill_bad5a 8 = .ok (.istore 5, 2) := by decide +kernel
theorem dJ7_fill_bad5a_10 : decode cJ7_fill_bad5a 10 = .ok (.iload 5, 2) := by decide +kernel
theorem dJ7_fill_bad5a_12 : decode cJ7_fill_bad5a 12 = .ok (.iload_n 2, 1) := by decide +kernel
theorem dJ7_fill_bad5a_13 : decode cJ7_fill_bad5a 13 = .ok (.if_icmp .ge 14, 3) := by decide +kernel
theorem dJ7_fill_bad5a_16 : decode cJ7_fill_bad5a 16 = .ok (.aload_n 0, 1) := by decide +kernel
theorem dJ7_fill_bad5a_17 : decode cJ7_fill_bad5a 17 = .ok (.iload 5, 2) := by decide +kernel
theorem dJ7_fill_bad5a_19 : decode cJ7_fill_bad5a 19 = .ok (.lload_n 3, 1) := by decide +kernel
theorem dJ7_fill_bad5a_20 : decode cJ7_fill_bad5a 20 = .ok (.lastore, 1) := by decide +kernel
theorem dJ7_fill_bad5a_21 : decode cJ7_fill_bad5a 21 = .ok (.iinc 5 1, 3) := by decide +kernel
theorem dJ7_fill_bad5a_24 : decode cJ7_fill_bad5a 24 = .ok (.goto (-14), 3) := by decide +kernel
theorem dJ7_fill_bad5a_27 : decode cJ7_fill_bad5a 27 = .ok (.return_, 1) := by decide +kernel
theorem dJ7_fill_53178_0 : decode cJ7_fill_53178 0 = .ok (.iconst 0, 1) := by decide +kernel
theorem dJ7_fill_53178_1 : decode cJ7_fill_53178 1 = .ok (.istore_n 2, 1) := by decide +kernel
theorem dJ7_fill_53178_2 : decode cJ7_fill_53178 2 = .ok (.aload_n 0, 1) := by decide +kernel
theorem dJ7_fill_53178_3 : decode cJ7_fill_53178 3 = .ok (.arraylength, 1) := by decide +kernel
theorem dJ7_fill_53178_4 : decode cJ7_fill_53178 4 = .ok (.istore_n 3, 1) := by decide +kernel
theorem dJ7_fill_53178_5 : decode cJ7_fill_53178 5 = .ok (.iload_n 2, 1) := by decide +kernel
theorem dJ7_fill_53178_6 : decode cJ7_fill_53178 6 = .ok (.iload_n 3, 1) := by decide +kernel
theorem dJ7_fill_53178_7 : decode cJ7_fill_53178 7 = .ok (.if_icmp .ge 13, 3) := by decide +kernel
theorem dJ7_fill_53178_10 : decode cJ7_fill_53178 10 = .ok (.aload_n 0, 1) := by decide +kernel
theorem dJ7_fill_53178_11 : decode cJ7_fill_53178 11 = .ok (.iload_n 2, 1) := by decide +kernel
theorem dJ7_fill_53178_12 : decode cJ7_fill_53178 12 = .ok (.iload_n 1, 1) := by decide +kernel
theorem dJ7_fill_53178_13 : decode cJ7_fill_53178 13 = .ok (.iastore, 1) := by decide +kernel
theorem dJ7_fill_53178_14 : decode cJ7_fill_53178 14 = .ok (.iinc 2 1, 3) := by decide +kernel
theorem dJ7_fill_53178_17 : decode cJ7_fill_53178 17 = .ok (.goto (-12), 3) := by decide +kernel
theorem dJ7_fill_53178_20 : decode cJ7_fill_53178 20 = .ok (.return_, 1) := by decide +kernel
theorem dL_law_0 : decode cL_law 0 = .ok (.new 7, 3) := by decide +kernel
theorem dL_law_3 : decode cL_law 3 = .ok (.dup, 1) := by decide +kernel
theorem dL_law_4 : decode cL_law 4 = .ok (.invokespecial 9, 3) := by decide +kernel
theorem dL_law_7 : decode cL_law 7 = .ok (.astore_n 1, 1) := by decide +kernel
theorem dL_law_8 : decode cL_law 8 = .ok (.new 10, 3) := by decide +kernel
theorem dL_law_11 : decode cL_law 11 = .ok (.dup, 1) := by decide +kernel
theorem dL_law_12 : decode cL_law 12 = .ok (.invokespecial 12, 3) := by decide +kernel
theorem dL_law_15 : decode cL_law 15 = .ok (.astore_n 2, 1) := by decide +kernel
theorem dL_law_16 : decode cL_law 16 = .ok (.iconst 0, 1) := by decide +kernel
theorem dL_law_17 : decode cL_law 17 = .ok (.istore_n 3, 1) := by decide +kernel
theorem dL_law_18 : decode cL_law 18 = .ok (.iload_n 3, 1) := by decide +kernel
theorem dL_law_19 : decode cL_law 19 = .ok (.aload_n 0, 1) := by decide +kernel
theorem dL_law_20 : decode cL_law 20 = .ok (.arraylength, 1) := by decide +kernel
theorem dL_law_21 : decode cL_law 21 = .ok (.iconst 4, 1) := by decide +kernel
theorem dL_law_22 : decode cL_law 22 = .ok (.isub, 1) := by decide +kernel
theorem dL_law_23 : decode cL_law 23 = .ok (.if_icmp .gt 547, 3) := by decide +kernel
theorem dL_law_26 : decode cL_law 26 = .ok (.aload_n 0, 1) := by decide +kernel
theorem dL_law_27 : decode cL_law 27 = .ok (.iload_n 3, 1) := by decide +kernel
theorem dL_law_28 : decode cL_law 28 = .ok (.iaload, 1) := by decide +kernel
theorem dL_law_29 : decode cL_law 29 = .ok (.bipush 31, 2) := by decide +kernel
theorem dL_law_31 : decode cL_law 31 = .ok (.iand, 1) := by decide +kernel
theorem dL_law_32 : decode cL_law 32 = .ok (.tableswitch 532 0 19 #[96, 139, 182, 195, 208, 231, 254, 277, 300, 314, 328, 352, 365, 378, 402, 416, 430, 463, 486, 509], 96) := by decide +kernel
theorem dL_law_128 : decode cL_law 128 = .ok (.aload_n 1, 1) := by decide +kernel
theorem dL_law_129 : decode cL_law 129 = .ok (.aload_n 0, 1) := by decide +kernel
theorem dL_law_130 : decode cL_law 130 = .ok (.iload_n 3, 1) := by decide +kernel
theorem dL_law_131 : decode cL_law 131 = .ok (.iconst 1, 1) := by decide +kernel
theorem dL_law_132 : decode cL_law 132 = .ok (.iadd, 1) := by decide +kernel
theorem dL_law_133 : decode cL_law 133 = .ok (.iaload, 1) := by decide +kernel
theorem dL_law_134 : decode cL_law 134 = .ok (.aload_n 0, 1) := by decide +kernel
theorem dL_law_135 : decode cL_law 135 = .ok (.iload_n 3, 1) := by decide +kernel
theorem dL_law_136 : decode cL_law 136 = .ok (.iconst 2, 1) := by decide +kernel
theorem dL_law_137 : decode cL_law 137 = .ok (.iadd, 1) := by decide +kernel
theorem dL_law_138 : decode cL_law 138 = .ok (.iaload, 1) := by decide +kernel
theorem dL_law_139 : decode cL_law 139 = .ok (.aload_n 0, 1) := by decide +kernel
theorem dL_law_140 : decode cL_law 140 = .ok (.iload_n 3, 1) := by decide +kernel
theorem dL_law_141 : decode cL_law 141 = .ok (.iconst 3, 1) := by decide +kernel
theorem dL_law_142 : decode cL_law 142 = .ok (.iadd, 1) := by decide +kernel
theorem dL_law_143 : decode cL_law 143 = .ok (.iaload, 1) := by decide +kernel
theorem dL_law_144 : decode cL_law 144 = .ok (.invokevirtual 13, 3) := by decide +kernel
theorem dL_law_147 : decode cL_law 147 = .ok (.aload_n 2, 1) := by decide +kernel
theorem dL_law_148 : decode cL_law 148 = .ok (.aload_n 0, 1) := by decide +kernel
theorem dL_law_149 : decode cL_law 149 = .ok (.iload_n 3, 1) := by decide +kernel
theorem dL_law_150 : decode cL_law 150 = .ok (.iconst 1, 1) := by decide +kernel
theorem dL_law_151 : decode cL_law 151 = .ok (.iadd, 1) := by decide +kernel
theorem dL_law_152 : decode cL_law 152 = .ok (.iaload, 1) := by decide +kernel
theorem dL_law_153 : decode cL_law 153 = .ok (.aload_n 0, 1) := by decide +kernel
theorem dL_law_154 : decode cL_law 154 = .ok (.iload_n 3, 1) := by decide +kernel
theorem dL_law_155 : decode cL_law 155 = .ok (.iconst 2, 1) := by decide +kernel
theorem dL_law_156 : decode cL_law 156 = .ok (.iadd, 1) := by decide +kernel
theorem dL_law_157 : decode cL_law 157 = .ok (.iaload, 1) := by decide +kernel
theorem dL_law_158 : decode cL_law 158 = .ok (.aload_n 0, 1) := by decide +kernel
theorem dL_law_159 : decode cL_law 159 = .ok (.iload_n 3, 1) := by decide +kernel
theorem dL_law_160 : decode cL_law 160 = .ok (.iconst 3, 1) := by decide +kernel
theorem dL_law_161 : decode cL_law 161 = .ok (.iadd, 1) := by decide +kernel
theorem dL_law_162 : decode cL_law 162 = .ok (.iaload, 1) := by decide +kernel
theorem dL_law_163 : decode cL_law 163 = .ok (.invokevirtual 17, 3) := by decide +kernel
theorem dL_law_166 : decode cL_law 166 = .ok (.if_icmp .eq 398, 3) := by decide +kernel
theorem dL_law_169 : decode cL_law 169 = .ok (.iconst 0, 1) := by decide +kernel
theorem dL_law_170 : decode cL_law 170 = .ok (.ireturn, 1) := by decide +kernel
theorem dL_law_171 : decode cL_law 171 = .ok (.aload_n 1, 1) := by decide +kernel
theorem dL_law_172 : decode cL_law 172 = .ok (.aload_n 0, 1) := by decide +kernel
theorem dL_law_173 : decode cL_law 173 = .ok (.iload_n 3, 1) := by decide +kernel
theorem dL_law_174 : decode cL_law 174 = .ok (.iconst 1, 1) := by decide +kernel
theorem dL_law_175 : decode cL_law 175 = .ok (.iadd, 1) := by decide +kernel
theorem dL_law_176 : decode cL_law 176 = .ok (.iaload, 1) := by decide +kernel
theorem dL_law_177 : decode cL_law 177 = .ok (.aload_n 0, 1) := by decide +kernel
theorem dL_law_178 : decode cL_law 178 = .ok (.iload_n 3, 1) := by decide +kernel
theorem dL_law_179 : decode cL_law 179 = .ok (.iconst 2, 1) := by decide +kernel
theorem dL_law_180 : decode cL_law 180 = .ok (.iadd, 1) := by decide +kernel
theorem dL_law_181 : decode cL_law 181 = .ok (.iaload, 1) := by decide +kernel
theorem dL_law_182 : decode cL_law 182 = .ok (.aload_n 0, 1) := by decide +kernel
theorem dL_law_183 : decode cL_law 183 = .ok (.iload_n 3, 1) := by decide +kernel
theorem dL_law_184 : decode cL_law 184 = .ok (.iconst 3, 1) := by decide +kernel
theorem dL_law_185 : decode cL_law 185 = .ok (.iadd, 1) := by decide +kernel
theorem dL_law_186 : decode cL_law 186 = .ok (.iaload, 1) := by decide +kernel
theorem dL_law_187 : decode cL_law 187 = .ok (.invokevirtual 18, 3) := by decide +kernel
theorem dL_law_190 : decode cL_law 190 = .ok (.aload_n 2, 1) := by decide +kernel
theorem dL_law_191 : decode cL_law 191 = .ok (.aload_n 0, 1) := by decide +kernel
theorem dL_law_192 : decode cL_law 192 = .ok (.iload_n 3, 1) := by decide +kernel
theorem dL_law_193 : decode cL_law 193 = .ok (.iconst 1, 1) := by decide +kernel
theorem dL_law_194 : decode cL_law 194 = .ok (.iadd, 1) := by decide +kernel
theorem dL_law_195 : decode cL_law 195 = .ok (.iaload, 1) := by decide +kernel
theorem dL_law_196 : decode cL_law 196 = .ok (.aload_n 0, 1) := by decide +kernel
theorem dL_law_197 : decode cL_law 197 = .ok (.iload_n 3, 1) := by decide +kernel
theorem dL_law_198 : decode cL_law 198 = .ok (.iconst 2, 1) := by decide +kernel
theorem dL_law_199 : decode cL_law 199 = .ok (.iadd, 1) := by decide +kernel
theorem dL_law_200 : decode cL_law 200 = .ok (.iaload, 1) := by decide +kernel
theorem dL_law_201 : decode cL_law 201 = .ok (.aload_n 0, 1) := by decide +kernel
theorem dL_law_202 : decode cL_law 202 = .ok (.iload_n 3, 1) := by decide +kernel
theorem dL_law_203 : decode cL_law 203 = .ok (.iconst 3, 1) := by decide +kernel
theorem dL_law_204 : decode cL_law 204 = .ok (.iadd, 1) := by decide +kernel
theorem dL_law_205 : decode cL_law 205 = .ok (.iaload, 1) := by decide +kernel
theorem dL_law_206 : decode cL_law 206 = .ok (.invokevirtual 21, 3) := by decide +kernel
theorem dL_law_209 : decode cL_law 209 = .ok (.if_icmp .eq 355, 3) := by decide +kernel
theorem dL_law_212 : decode cL_law 212 = .ok (.iconst 0, 1) := by decide +kernel
theorem dL_law_213 : decode cL_law 213 = .ok (.ireturn, 1) := by decide +kernel
theorem dL_law_214 : decode cL_law 214 = .ok (.aload_n 1, 1) := by decide +kernel
theorem dL_law_215 : decode cL_law 215 = .ok (.invokevirtual 22, 3) := by decide +kernel
theorem dL_law_218 : decode cL_law 218 = .ok (.aload_n 2, 1) := by decide +kernel
theorem dL_law_219 : decode cL_law 219 = .ok (.invokevirtual 26, 3) := by decide +kernel
theorem dL_law_222 : decode cL_law 222 = .ok (.if_icmp .eq 342, 3) := by decide +kernel
theorem dL_law_225 : decode cL_law 225 = .ok (.iconst 0, 1) := by decide +kernel
theorem dL_law_226 : decode cL_law 226 = .ok (.ireturn, 1) := by decide +kernel
theorem dL_law_227 : decode cL_law 227 = .ok (.aload_n 1, 1) := by decide +kernel
theorem dL_law_228 : decode cL_law 228 = .ok (.invokevirtual 27, 3) := by decide +kernel
theorem dL_law_231 : decode cL_law 231 = .ok (.aload_n 2, 1) := by decide +kernel
theorem dL_law_232 : decode cL_law 232 = .ok (.invokevirtual 30, 3) := by decide +kernel
theorem dL_law_235 : decode cL_law 235 = .ok (.if_icmp .eq 329, 3) := by decide +kernel
theorem dL_law_238 : decode cL_law 238 = .ok (.iconst 0, 1) := by decide +kernel
theorem dL_law_239 : decode cL_law 239 = .ok (.ireturn, 1) := by decide +kernel
theorem dL_law_240 : decode cL_law 240 = .ok (.aload_n 1, 1) := by decide +kernel
theorem dL_law_241 : decode cL_law 241 = .ok (.aload_n 0, 1) := by decide +kernel
theorem dL_law_242 : decode cL_law 242 = .ok (.iload_n 3, 1) := by decide +kernel
theorem dL_law_243 : decode cL_law 243 = .ok (.iconst 1, 1) := by decide +kernel
theorem dL_law_244 : decode cL_law 244 = .ok (.iadd, 1) := by decide +kernel
theorem dL_law_245 : decode cL_law 245 = .ok (.iaload, 1) := by decide +kernel
theorem dL_law_246 : decode cL_law 246 = .ok (.invokevirtual 31, 3) := by decide +kernel
theorem dL_law_249 : decode cL_law 249 = .ok (.aload_n 2, 1) := by decide +kernel
theorem dL_law_250 : decode cL_law 250 = .ok (.aload_n 0, 1) := by decide +kernel
theorem dL_law_251 : decode cL_law 251 = .ok (.iload_n 3, 1) := by decide +kernel
theorem dL_law_252 : decode cL_law 252 = .ok (.iconst 1, 1) := by decide +kernel
theorem dL_law_253 : decode cL_law 253 = .ok (.iadd, 1) := by decide +kernel
theorem dL_law_254 : decode cL_law 254 = .ok (.iaload, 1) := by decide +kernel
theorem dL_law_255 : decode cL_law 255 = .ok (.invokevirtual 35, 3) := by decide +kernel
theorem dL_law_258 : decode cL_law 258 = .ok (.if_icmp .eq 306, 3) := by decide +kernel
theorem dL_law_261 : decode cL_law 261 = .ok (.iconst 0, 1) := by decide +kernel
theorem dL_law_262 : decode cL_law 262 = .ok (.ireturn, 1) := by decide +kernel
theorem dL_law_263 : decode cL_law 263 = .ok (.aload_n 1, 1) := by decide +kernel
theorem dL_law_264 : decode cL_law 264 = .ok (.aload_n 0, 1) := by decide +kernel
theorem dL_law_265 : decode cL_law 265 = .ok (.iload_n 3, 1) := by decide +kernel
theorem dL_law_266 : decode cL_law 266 = .ok (.iconst 1, 1) := by decide +kernel
theorem dL_law_267 : decode cL_law 267 = .ok (.iadd, 1) := by decide +kernel
theorem dL_law_268 : decode cL_law 268 = .ok (.iaload, 1) := by decide +kernel
theorem dL_law_269 : decode cL_law 269 = .ok (.invokevirtual 36, 3) := by decide +kernel
theorem dL_law_272 : decode cL_law 272 = .ok (.aload_n 2, 1) := by decide +kernel
theorem dL_law_273 : decode cL_law 273 = .ok (.aload_n 0, 1) := by decide +kernel
theorem dL_law_274 : decode cL_law 274 = .ok (.iload_n 3, 1) := by decide +kernel
theorem dL_law_275 : decode cL_law 275 = .ok (.iconst 1, 1) := by decide +kernel
theorem dL_law_276 : decode cL_law 276 = .ok (.iadd, 1) := by decide +kernel
theorem dL_law_277 : decode cL_law 277 = .ok (.iaload, 1) := by decide +kernel
theorem dL_law_278 : decode cL_law 278 = .ok (.invokevirtual 39, 3) := by decide +kernel
theorem dL_law_281 : decode cL_law 281 = .ok (.if_icmp .eq 283, 3) := by decide +kernel
theorem dL_law_284 : decode cL_law 284 = .ok (.iconst 0, 1) := by decide +kernel
theorem dL_law_285 : decode cL_law 285 = .ok (.ireturn, 1) := by decide +kernel
theorem dL_law_286 : decode cL_law 286 = .ok (.aload_n 1, 1) := by decide +kernel
theorem dL_law_287 : decode cL_law 287 = .ok (.aload_n 0, 1) := by decide +kernel
theorem dL_law_288 : decode cL_law 288 = .ok (.iload_n 3, 1) := by decide +kernel
theorem dL_law_289 : decode cL_law 289 = .ok (.iconst 1, 1) := by decide +kernel
theorem dL_law_290 : decode cL_law 290 = .ok (.iadd, 1) := by decide +kernel
theorem dL_law_291 : decode cL_law 291 = .ok (.iaload, 1) := by decide +kernel
theorem dL_law_292 : decode cL_law 292 = .ok (.invokevirtual 40, 3) := by decide +kernel
theorem dL_law_295 : decode cL_law 295 = .ok (.aload_n 2, 1) := by decide +kernel
theorem dL_law_296 : decode cL_law 296 = .ok (.aload_n 0, 1) := by decide +kernel
theorem dL_law_297 : decode cL_law 297 = .ok (.iload_n 3, 1) := by decide +kernel
theorem dL_law_298 : decode cL_law 298 = .ok (.iconst 1, 1) := by decide +kernel
theorem dL_law_299 : decode cL_law 299 = .ok (.iadd, 1) := by decide +kernel
theorem dL_law_300 : decode cL_law 300 = .ok (.iaload, 1) := by decide +kernel
theorem dL_law_301 : decode cL_law 301 = .ok (.invokevirtual 43, 3) := by decide +kernel
theorem dL_law_304 : decode cL_law 304 = .ok (.if_icmp .eq 260, 3) := by decide +kernel
theorem dL_law_307 : decode cL_law 307 = .ok (.iconst 0, 1) := by decide +kernel
theorem dL_law_308 : decode cL_law 308 = .ok (.ireturn, 1) := by decide +kernel
theorem dL_law_309 : decode cL_law 309 = .ok (.aload_n 1, 1) := by decide +kernel
theorem dL_law_310 : decode cL_law 310 = .ok (.aload_n 0, 1) := by decide +kernel
theorem dL_law_311 : decode cL_law 311 = .ok (.iload_n 3, 1) := by decide +kernel
theorem dL_law_312 : decode cL_law 312 = .ok (.iconst 1, 1) := by decide +kernel
theorem dL_law_313 : decode cL_law 313 = .ok (.iadd, 1) := by decide +kernel
theorem dL_law_314 : decode cL_law 314 = .ok (.iaload, 1) := by decide +kernel
theorem dL_law_315 : decode cL_law 315 = .ok (.invokevirtual 44, 3) := by decide +kernel
theorem dL_law_318 : decode cL_law 318 = .ok (.aload_n 2, 1) := by decide +kernel
theorem dL_law_319 : decode cL_law 319 = .ok (.aload_n 0, 1) := by decide +kernel
theorem dL_law_320 : decode cL_law 320 = .ok (.iload_n 3, 1) := by decide +kernel
theorem dL_law_321 : decode cL_law 321 = .ok (.iconst 1, 1) := by decide +kernel
theorem dL_law_322 : decode cL_law 322 = .ok (.iadd, 1) := by decide +kernel
theorem dL_law_323 : decode cL_law 323 = .ok (.iaload, 1) := by decide +kernel
theorem dL_law_324 : decode cL_law 324 = .ok (.invokevirtual 47, 3) := by decide +kernel
theorem dL_law_327 : decode cL_law 327 = .ok (.if_icmp .eq 237, 3) := by decide +kernel
theorem dL_law_330 : decode cL_law 330 = .ok (.iconst 0, 1) := by decide +kernel
theorem dL_law_331 : decode cL_law 331 = .ok (.ireturn, 1) := by decide +kernel
theorem dL_law_332 : decode cL_law 332 = .ok (.aload_n 1, 1) := by decide +kernel
theorem dL_law_333 : decode cL_law 333 = .ok (.invokevirtual 48, 3) := by decide +kernel
theorem dL_law_336 : decode cL_law 336 = .ok (.aload_n 2, 1) := by decide +kernel
theorem dL_law_337 : decode cL_law 337 = .ok (.invokevirtual 52, 3) := by decide +kernel
theorem dL_law_340 : decode cL_law 340 = .ok (.lcmp, 1) := by decide +kernel
theorem dL_law_341 : decode cL_law 341 = .ok (.ifCond .eq 223, 3) := by decide +kernel
theorem dL_law_344 : decode cL_law 344 = .ok (.iconst 0, 1) := by decide +kernel
theorem dL_law_345 : decode cL_law 345 = .ok (.ireturn, 1) := by decide +kernel
theorem dL_law_346 : decode cL_law 346 = .ok (.aload_n 1, 1) := by decide +kernel
theorem dL_law_347 : decode cL_law 347 = .ok (.invokevirtual 53, 3) := by decide +kernel
theorem dL_law_350 : decode cL_law 350 = .ok (.aload_n 2, 1) := by decide +kernel
theorem dL_law_351 : decode cL_law 351 = .ok (.invokevirtual 56, 3) := by decide +kernel
theorem dL_law_354 : decode cL_law 354 = .ok (.lcmp, 1) := by decide +kernel
theorem dL_law_355 : decode cL_law 355 = .ok (.ifCond .eq 209, 3) := by decide +kernel
theorem dL_law_358 : decode cL_law 358 = .ok (.iconst 0, 1) := by decide +kernel
theorem dL_law_359 : decode cL_law 359 = .ok (.ireturn, 1) := by decide +kernel
theorem dL_law_360 : decode cL_law 360 = .ok (.aload_n 1, 1) := by decide +kernel
theorem dL_law_361 : decode cL_law 361 = .ok (.aload_n 0, 1) := by decide +kernel
theorem dL_law_362 : decode cL_law 362 = .ok (.iload_n 3, 1) := by decide +kernel
theorem dL_law_363 : decode cL_law 363 = .ok (.iconst 1, 1) := by decide +kernel
theorem dL_law_364 : decode cL_law 364 = .ok (.iadd, 1) := by decide +kernel
theorem dL_law_365 : decode cL_law 365 = .ok (.iaload, 1) := by decide +kernel
theorem dL_law_366 : decode cL_law 366 = .ok (.invokevirtual 57, 3) := by decide +kernel
theorem dL_law_369 : decode cL_law 369 = .ok (.aload_n 2, 1) := by decide +kernel
theorem dL_law_370 : decode cL_law 370 = .ok (.aload_n 0, 1) := by decide +kernel
theorem dL_law_371 : decode cL_law 371 = .ok (.iload_n 3, 1) := by decide +kernel
theorem dL_law_372 : decode cL_law 372 = .ok (.iconst 1, 1) := by decide +kernel
theorem dL_law_373 : decode cL_law 373 = .ok (.iadd, 1) := by decide +kernel
theorem dL_law_374 : decode cL_law 374 = .ok (.iaload, 1) := by decide +kernel
theorem dL_law_375 : decode cL_law 375 = .ok (.invokevirtual 61, 3) := by decide +kernel
theorem dL_law_378 : decode cL_law 378 = .ok (.lcmp, 1) := by decide +kernel
theorem dL_law_379 : decode cL_law 379 = .ok (.ifCond .eq 185, 3) := by decide +kernel
theorem dL_law_382 : decode cL_law 382 = .ok (.iconst 0, 1) := by decide +kernel
theorem dL_law_383 : decode cL_law 383 = .ok (.ireturn, 1) := by decide +kernel
theorem dL_law_384 : decode cL_law 384 = .ok (.aload_n 1, 1) := by decide +kernel
theorem dL_law_385 : decode cL_law 385 = .ok (.invokevirtual 62, 3) := by decide +kernel
theorem dL_law_388 : decode cL_law 388 = .ok (.aload_n 2, 1) := by decide +kernel
theorem dL_law_389 : decode cL_law 389 = .ok (.invokevirtual 65, 3) := by decide +kernel
theorem dL_law_392 : decode cL_law 392 = .ok (.if_icmp .eq 172, 3) := by decide +kernel
theorem dL_law_395 : decode cL_law 395 = .ok (.iconst 0, 1) := by decide +kernel
theorem dL_law_396 : decode cL_law 396 = .ok (.ireturn, 1) := by decide +kernel
theorem dL_law_397 : decode cL_law 397 = .ok (.aload_n 1, 1) := by decide +kernel
theorem dL_law_398 : decode cL_law 398 = .ok (.invokevirtual 66, 3) := by decide +kernel
theorem dL_law_401 : decode cL_law 401 = .ok (.aload_n 2, 1) := by decide +kernel
theorem dL_law_402 : decode cL_law 402 = .ok (.invokevirtual 69, 3) := by decide +kernel
theorem dL_law_405 : decode cL_law 405 = .ok (.if_icmp .eq 159, 3) := by decide +kernel
theorem dL_law_408 : decode cL_law 408 = .ok (.iconst 0, 1) := by decide +kernel
theorem dL_law_409 : decode cL_law 409 = .ok (.ireturn, 1) := by decide +kernel
theorem dL_law_410 : decode cL_law 410 = .ok (.aload_n 1, 1) := by decide +kernel
theorem dL_law_411 : decode cL_law 411 = .ok (.aload_n 0, 1) := by decide +kernel
theorem dL_law_412 : decode cL_law 412 = .ok (.iload_n 3, 1) := by decide +kernel
theorem dL_law_413 : decode cL_law 413 = .ok (.iconst 1, 1) := by decide +kernel
theorem dL_law_414 : decode cL_law 414 = .ok (.iadd, 1) := by decide +kernel
theorem dL_law_415 : decode cL_law 415 = .ok (.iaload, 1) := by decide +kernel
theorem dL_law_416 : decode cL_law 416 = .ok (.invokevirtual 70, 3) := by decide +kernel
theorem dL_law_419 : decode cL_law 419 = .ok (.aload_n 2, 1) := by decide +kernel
theorem dL_law_420 : decode cL_law 420 = .ok (.aload_n 0, 1) := by decide +kernel
theorem dL_law_421 : decode cL_law 421 = .ok (.iload_n 3, 1) := by decide +kernel
theorem dL_law_422 : decode cL_law 422 = .ok (.iconst 1, 1) := by decide +kernel
theorem dL_law_423 : decode cL_law 423 = .ok (.iadd, 1) := by decide +kernel
theorem dL_law_424 : decode cL_law 424 = .ok (.iaload, 1) := by decide +kernel
theorem dL_law_425 : decode cL_law 425 = .ok (.invokevirtual 73, 3) := by decide +kernel
theorem dL_law_428 : decode cL_law 428 = .ok (.lcmp, 1) := by decide +kernel
theorem dL_law_429 : decode cL_law 429 = .ok (.ifCond .eq 135, 3) := by decide +kernel
theorem dL_law_432 : decode cL_law 432 = .ok (.iconst 0, 1) := by decide +kernel
theorem dL_law_433 : decode cL_law 433 = .ok (.ireturn, 1) := by decide +kernel
theorem dL_law_434 : decode cL_law 434 = .ok (.aload_n 1, 1) := by decide +kernel
theorem dL_law_435 : decode cL_law 435 = .ok (.invokevirtual 74, 3) := by decide +kernel
theorem dL_law_438 : decode cL_law 438 = .ok (.aload_n 2, 1) := by decide +kernel
theorem dL_law_439 : decode cL_law 439 = .ok (.invokevirtual 77, 3) := by decide +kernel
theorem dL_law_442 : decode cL_law 442 = .ok (.lcmp, 1) := by decide +kernel
theorem dL_law_443 : decode cL_law 443 = .ok (.ifCond .eq 121, 3) := by decide +kernel
theorem dL_law_446 : decode cL_law 446 = .ok (.iconst 0, 1) := by decide +kernel
theorem dL_law_447 : decode cL_law 447 = .ok (.ireturn, 1) := by decide +kernel
theorem dL_law_448 : decode cL_law 448 = .ok (.aload_n 1, 1) := by decide +kernel
theorem dL_law_449 : decode cL_law 449 = .ok (.invokevirtual 78, 3) := by decide +kernel
theorem dL_law_452 : decode cL_law 452 = .ok (.aload_n 2, 1) := by decide +kernel
theorem dL_law_453 : decode cL_law 453 = .ok (.invokevirtual 81, 3) := by decide +kernel
theorem dL_law_456 : decode cL_law 456 = .ok (.lcmp, 1) := by decide +kernel
theorem dL_law_457 : decode cL_law 457 = .ok (.ifCond .eq 107, 3) := by decide +kernel
theorem dL_law_460 : decode cL_law 460 = .ok (.iconst 0, 1) := by decide +kernel
theorem dL_law_461 : decode cL_law 461 = .ok (.ireturn, 1) := by decide +kernel
theorem dL_law_462 : decode cL_law 462 = .ok (.aload_n 1, 1) := by decide +kernel
theorem dL_law_463 : decode cL_law 463 = .ok (.aload_n 0, 1) := by decide +kernel
theorem dL_law_464 : decode cL_law 464 = .ok (.iload_n 3, 1) := by decide +kernel
theorem dL_law_465 : decode cL_law 465 = .ok (.iconst 1, 1) := by decide +kernel
theorem dL_law_466 : decode cL_law 466 = .ok (.iadd, 1) := by decide +kernel
theorem dL_law_467 : decode cL_law 467 = .ok (.iaload, 1) := by decide +kernel
theorem dL_law_468 : decode cL_law 468 = .ok (.aload_n 0, 1) := by decide +kernel
theorem dL_law_469 : decode cL_law 469 = .ok (.iload_n 3, 1) := by decide +kernel
theorem dL_law_470 : decode cL_law 470 = .ok (.iconst 2, 1) := by decide +kernel
theorem dL_law_471 : decode cL_law 471 = .ok (.iadd, 1) := by decide +kernel
theorem dL_law_472 : decode cL_law 472 = .ok (.iaload, 1) := by decide +kernel
theorem dL_law_473 : decode cL_law 473 = .ok (.invokevirtual 82, 3) := by decide +kernel
theorem dL_law_476 : decode cL_law 476 = .ok (.aload_n 2, 1) := by decide +kernel
theorem dL_law_477 : decode cL_law 477 = .ok (.aload_n 0, 1) := by decide +kernel
theorem dL_law_478 : decode cL_law 478 = .ok (.iload_n 3, 1) := by decide +kernel
theorem dL_law_479 : decode cL_law 479 = .ok (.iconst 1, 1) := by decide +kernel
theorem dL_law_480 : decode cL_law 480 = .ok (.iadd, 1) := by decide +kernel
theorem dL_law_481 : decode cL_law 481 = .ok (.iaload, 1) := by decide +kernel
theorem dL_law_482 : decode cL_law 482 = .ok (.aload_n 0, 1) := by decide +kernel
theorem dL_law_483 : decode cL_law 483 = .ok (.iload_n 3, 1) := by decide +kernel
theorem dL_law_484 : decode cL_law 484 = .ok (.iconst 2, 1) := by decide +kernel
theorem dL_law_485 : decode cL_law 485 = .ok (.iadd, 1) := by decide +kernel
theorem dL_law_486 : decode cL_law 486 = .ok (.iaload, 1) := by decide +kernel
theorem dL_law_487 : decode cL_law 487 = .ok (.invokevirtual 86, 3) := by decide +kernel
theorem dL_law_490 : decode cL_law 490 = .ok (.if_icmp .eq 74, 3) := by decide +kernel
theorem dL_law_493 : decode cL_law 493 = .ok (.iconst 0, 1) := by decide +kernel
theorem dL_law_494 : decode cL_law 494 = .ok (.ireturn, 1) := by decide +kernel
theorem dL_law_495 : decode cL_law 495 = .ok (.aload_n 1, 1) := by decide +kernel
theorem dL_law_496 : decode cL_law 496 = .ok (.aload_n 0, 1) := by decide +kernel
theorem dL_law_497 : decode cL_law 497 = .ok (.iload_n 3, 1) := by decide +kernel
theorem dL_law_498 : decode cL_law 498 = .ok (.iconst 1, 1) := by decide +kernel
theorem dL_law_499 : decode cL_law 499 = .ok (.iadd, 1) := by decide +kernel
theorem dL_law_500 : decode cL_law 500 = .ok (.iaload, 1) := by decide +kernel
theorem dL_law_501 : decode cL_law 501 = .ok (.invokevirtual 87, 3) := by decide +kernel
theorem dL_law_504 : decode cL_law 504 = .ok (.aload_n 2, 1) := by decide +kernel
theorem dL_law_505 : decode cL_law 505 = .ok (.aload_n 0, 1) := by decide +kernel
theorem dL_law_506 : decode cL_law 506 = .ok (.iload_n 3, 1) := by decide +kernel
theorem dL_law_507 : decode cL_law 507 = .ok (.iconst 1, 1) := by decide +kernel
theorem dL_law_508 : decode cL_law 508 = .ok (.iadd, 1) := by decide +kernel
theorem dL_law_509 : decode cL_law 509 = .ok (.iaload, 1) := by decide +kernel
theorem dL_law_510 : decode cL_law 510 = .ok (.invokevirtual 90, 3) := by decide +kernel
theorem dL_law_513 : decode cL_law 513 = .ok (.if_icmp .eq 51, 3) := by decide +kernel
theorem dL_law_516 : decode cL_law 516 = .ok (.iconst 0, 1) := by decide +kernel
theorem dL_law_517 : decode cL_law 517 = .ok (.ireturn, 1) := by decide +kernel
theorem dL_law_518 : decode cL_law 518 = .ok (.aload_n 1, 1) := by decide +kernel
theorem dL_law_519 : decode cL_law 519 = .ok (.aload_n 0, 1) := by decide +kernel
theorem dL_law_520 : decode cL_law 520 = .ok (.iload_n 3, 1) := by decide +kernel
theorem dL_law_521 : decode cL_law 521 = .ok (.iconst 1, 1) := by decide +kernel
theorem dL_law_522 : decode cL_law 522 = .ok (.iadd, 1) := by decide +kernel
theorem dL_law_523 : decode cL_law 523 = .ok (.iaload, 1) := by decide +kernel
theorem dL_law_524 : decode cL_law 524 = .ok (.invokevirtual 91, 3) := by decide +kernel
theorem dL_law_527 : decode cL_law 527 = .ok (.aload_n 2, 1) := by decide +kernel
theorem dL_law_528 : decode cL_law 528 = .ok (.aload_n 0, 1) := by decide +kernel
theorem dL_law_529 : decode cL_law 529 = .ok (.iload_n 3, 1) := by decide +kernel
theorem dL_law_530 : decode cL_law 530 = .ok (.iconst 1, 1) := by decide +kernel
theorem dL_law_531 : decode cL_law 531 = .ok (.iadd, 1) := by decide +kernel
theorem dL_law_532 : decode cL_law 532 = .ok (.iaload, 1) := by decide +kernel
theorem dL_law_533 : decode cL_law 533 = .ok (.invokevirtual 94, 3) := by decide +kernel
theorem dL_law_536 : decode cL_law 536 = .ok (.if_icmp .eq 28, 3) := by decide +kernel
theorem dL_law_539 : decode cL_law 539 = .ok (.iconst 0, 1) := by decide +kernel
theorem dL_law_540 : decode cL_law 540 = .ok (.ireturn, 1) := by decide +kernel
theorem dL_law_541 : decode cL_law 541 = .ok (.aload_n 1, 1) := by decide +kernel
theorem dL_law_542 : decode cL_law 542 = .ok (.aload_n 0, 1) := by decide +kernel
theorem dL_law_543 : decode cL_law 543 = .ok (.iload_n 3, 1) := by decide +kernel
theorem dL_law_544 : decode cL_law 544 = .ok (.iconst 1, 1) := by decide +kernel
theorem dL_law_545 : decode cL_law 545 = .ok (.iadd, 1) := by decide +kernel
theorem dL_law_546 : decode cL_law 546 = .ok (.iaload, 1) := by decide +kernel
theorem dL_law_547 : decode cL_law 547 = .ok (.invokevirtual 95, 3) := by decide +kernel
theorem dL_law_550 : decode cL_law 550 = .ok (.aload_n 2, 1) := by decide +kernel
theorem dL_law_551 : decode cL_law 551 = .ok (.aload_n 0, 1) := by decide +kernel
theorem dL_law_552 : decode cL_law 552 = .ok (.iload_n 3, 1) := by decide +kernel
theorem dL_law_553 : decode cL_law 553 = .ok (.iconst 1, 1) := by decide +kernel
theorem dL_law_554 : decode cL_law 554 = .ok (.iadd, 1) := by decide +kernel
theorem dL_law_555 : decode cL_law 555 = .ok (.iaload, 1) := by decide +kernel
theorem dL_law_556 : decode cL_law 556 = .ok (.invokevirtual 98, 3) := by decide +kernel
theorem dL_law_559 : decode cL_law 559 = .ok (.if_icmp .eq 5, 3) := by decide +kernel
theorem dL_law_562 : decode cL_law 562 = .ok (.iconst 0, 1) := by decide +kernel
theorem dL_law_563 : decode cL_law 563 = .ok (.ireturn, 1) := by decide +kernel
theorem dL_law_564 : decode cL_law 564 = .ok (.iinc 3 4, 3) := by decide +kernel
theorem dL_law_567 : decode cL_law 567 = .ok (.goto (-549), 3) := by decide +kernel
theorem dL_law_570 : decode cL_law 570 = .ok (.iconst 1, 1) := by decide +kernel
theorem dL_law_571 : decode cL_law 571 = .ok (.ireturn, 1) := by decide +kernel
end
section
/-! THE ABSTRACT HEAP: cells under small numbers (ids); 'ad' says at which address an id lies. A reference inside a cell, a local or on the stack names an id. -/
abbrev uu : Value := .retAddr 0
def trV (ad : Nat → Nat) (v : Value) : Value := match v with
  | .ref a => .ref (ad a)
  | v => v
def trA (ad : Nat → Nat) (a : vp_A) : vp_A := match a with
  | (n, .inr (.inr (.inr (.inr f)))) => (n, .inr (.inr (.inr (.inr (fun j => (f j).map ad)))))
  | a => a
abbrev AE : Type := (Nat × vp_A) ⊕ (Nat × List Value)
abbrev AH : Type := Nat → AE
def trE (dA : Nat → ClassId) (ad : Nat → Nat) (e : AE) : va_E := match e with
  | .inl x => .inl (dA x.1, trA ad x.2)
  | .inr x => .inr (x.1, x.2.map (trV ad))
abbrev aI (n : Nat) (f : Nat → Int32) : AE := .inl (0, n, .inl f)
abbrev aJ (n : Nat) (f : Nat → Int64) : AE := .inl (1, n, .inr (.inl f))
abbrev aZ (n : Nat) (f : Nat → Int32) : AE := .inl (2, n, .inl f)
abbrev aR (n : Nat) (f : Nat → Option Nat) : AE := .inl (3, n, .inr (.inr (.inr (.inr f))))
abbrev aG (n : Nat) (f : Nat → Option Nat) : AE := .inl (4, n, .inr (.inr (.inr (.inr f))))
abbrev ob (ci : Nat) (fs : List Value) : AE := .inr (ci, fs)
def wl (dA : Nat → ClassId) (ad : Nat → Nat) (hp : AH) (n : Nat) : va_W := (List.range n).map (fun i => (ad i, trE dA ad (hp i)))
theorem wl_len {dA : Nat → ClassId} {ad : Nat → Nat} {hp : AH} {n : Nat} : (wl dA ad hp n).length = n := by simp [wl]
theorem wl_get {dA : Nat → ClassId} {ad : Nat → Nat} {hp : AH} {n i : Nat} (h : i < n) : (wl dA ad hp n)[i]? = some (ad i, trE dA ad (hp i)) := by
  simp [wl, h]
theorem wl_none {dA : Nat → ClassId} {ad : Nat → Nat} {hp : AH} {n i : Nat} (h : n ≤ i) : (wl dA ad hp n)[i]? = none := by
  simp [wl, h]
theorem wl_set {dA : Nat → ClassId} {ad : Nat → Nat} {hp : AH} {n i : Nat} (h : i < n) (e : AE) : (wl dA ad hp n).set i (ad i, trE dA ad e) = wl dA ad (va_up hp i e) n := by
  apply List.ext_getElem?
  intro j
  by_cases hj : j < n
  · rw [wl_get hj, List.getElem?_set, wl_len, wl_get hj]
    by_cases e1 : i = j
    · subst e1
      simp [h, va_up]
    · simp [e1, va_up, Ne.symm e1]
  · rw [wl_none (Nat.le_of_not_lt hj), List.getElem?_set, wl_len, wl_none (Nat.le_of_not_lt hj)]
    by_cases e1 : i = j
    · subst e1
      simp [hj]
    · simp [e1]
/-- a value, a cell that names no id from n on (but those beyond a million, which never are made) -/
def wfv (n : Nat) (v : Value) : Prop := match v with
  | .ref a => a < n ∨ 1000000 ≤ a
  | _ => True
def wfE (n : Nat) (e : AE) : Prop := match e with
  | .inl (_, (_, .inr (.inr (.inr (.inr f))))) => ∀ j a, f j = some a → a < n
  | .inl _ => True
  | .inr (_, fs) => ∀ v ∈ fs, wfv n v
def wfH (n : Nat) (hp : AH) : Prop := ∀ i, i < n → wfE n (hp i)
def agr (n n' : Nat) (ad ad' : Nat → Nat) : Prop := ∀ i, i < n ∨ n' ≤ i → ad' i = ad i
theorem agr.rf {n n' : Nat} {ad : Nat → Nat} : agr n n' ad ad := fun _ _ => rfl
theorem agr.tr {n n1 n2 : Nat} {a b c : Nat → Nat} (h1 : agr n n1 a b) (h2 : agr n1 n2 b c) (hn : n ≤ n1) (hm : n1 ≤ n2) : agr n n2 a c := fun i hi => by
  rcases hi with hi | hi
  · exact (h2 i (Or.inl (Nat.lt_of_lt_of_le hi hn))).trans (h1 i (Or.inl hi))
  · exact (h2 i (Or.inr hi)).trans (h1 i (Or.inr (Nat.le_trans hm hi)))
theorem agr.up {n q : Nat} {ad : Nat → Nat} : agr n (n + 1) ad (va_up ad n q) := fun i hi => by
  unfold va_up
  rw [if_neg (by omega)]
theorem agr.eq {n : Nat} {ad ad' : Nat → Nat} (h : agr n n ad ad') : ad' = ad := funext fun i => h i (by omega)
theorem trV_agr {n n' : Nat} {ad ad' : Nat → Nat} (h : agr n n' ad ad') (hn : n' ≤ 1000000) {v : Value} (hv : wfv n v) : trV ad' v = trV ad v := by
  cases v <;> first | rfl | (simp only [trV]; rw [h _ (hv.imp id (fun q => Nat.le_trans hn q))])
theorem trE_agr {n n' : Nat} {dA : Nat → ClassId} {ad ad' : Nat → Nat} (h : agr n n' ad ad') (hn : n' ≤ 1000000) {e : AE} (he : wfE n e) : trE dA ad' e = trE dA ad e := by
  rcases e with ⟨t, N, f | f | f | f | f⟩ | ⟨ci, fs⟩
  · rfl
  · rfl
  · rfl
  · rfl
  · have hf : (fun j => (f j).map ad') = (fun j => (f j).map ad) := funext fun j => by
      cases hj : f j with
      | none => rfl
      | some a => simp only [Option.map_some]; rw [h a (Or.inl (he j a hj))]
    show Sum.inl (dA t, (N, Sum.inr (Sum.inr (Sum.inr (Sum.inr (fun j => (f j).map ad')))))) = _
    rw [hf]
    rfl
  · show Sum.inr (ci, fs.map (trV ad')) = Sum.inr (ci, fs.map (trV ad))
    have hm : fs.map (trV ad') = fs.map (trV ad) := List.map_congr_left fun v hv => trV_agr h hn (he v hv)
    rw [hm]
theorem wl_agr {n n' : Nat} {dA : Nat → ClassId} {ad ad' : Nat → Nat} {hp hp' : AH} (h : agr n n' ad ad') (hn : n' ≤ 1000000) (hw : wfH n hp) (hh : ∀ i, i < n → hp' i = hp i) : wl dA ad' hp' n = wl dA ad hp n := by
  unfold wl
  apply List.map_congr_left
  intro i hi
  have hi' : i < n := List.mem_range.mp hi
  rw [h i (Or.inl hi'), hh i hi', trE_agr h hn (hw i hi')]
theorem wl_push {n q : Nat} {dA : Nat → ClassId} {ad : Nat → Nat} {hp : AH} {e : AE} (hn : n < 1000000) (hw : wfH n hp) : wl dA ad hp n ++ [(q, trE dA (va_up ad n q) e)] = wl dA (va_up ad n q) (va_up hp n e) (n + 1) := by
  have h1 : wl dA (va_up ad n q) (va_up hp n e) n = wl dA ad hp n := wl_agr agr.up hn hw (fun i hi => va_up_ne _ _ (Nat.ne_of_lt hi))
  rw [← h1]
  unfold wl
  rw [List.range_succ, List.map_append]
  simp [va_up]
/-! locals by their places; uu: nothing is known -/
def lvl (ad : Nat → Nat) (vs : List Value) : List (Nat × Value) := (List.range vs.length).filterMap (fun i => if vs.getD i uu = uu then none else some (i, trV ad (vs.getD i uu)))
theorem lvl_mem {ad : Nat → Nat} {vs : List Value} {i : Nat} {w : Value} : (i, w) ∈ lvl ad vs ↔ ∃ v, vs[i]? = some v ∧ v ≠ uu ∧ w = trV ad v := by
  unfold lvl
  rw [List.mem_filterMap]
  constructor
  · rintro ⟨j, hj, h⟩
    have hj' : j < vs.length := List.mem_range.mp hj
    by_cases c : vs.getD j uu = uu
    · rw [if_pos c] at h
      cases h
    · rw [if_neg c] at h
      cases h
      have e : vs[i]? = some (vs.getD i uu) := by simp [List.getD_eq_getElem?_getD, hj']
      exact ⟨_, e, c, rfl⟩
  · rintro ⟨v, h1, h2, rfl⟩
    have hi : i < vs.length := (List.getElem?_eq_some_iff.mp h1).1
    have e : vs.getD i uu = v := by simp [List.getD_eq_getElem?_getD, h1]
    exact ⟨i, List.mem_range.mpr hi, by rw [e, if_neg h2]⟩
abbrev LV (ad : Nat → Nat) (ls : Array Slot) (nL : Nat) (vs : List Value) : Prop := lv_has ls nL (lvl ad vs)
theorem LV_at {ad : Nat → Nat} {ls : Array Slot} {nL : Nat} {vs : List Value} (h : LV ad ls nL vs) {i : Nat} {v : Value} (hv : vs[i]? = some v) (hu : v ≠ uu) : ls[i]? = some (.val (trV ad v)) := h.2.2 (i, trV ad v) (lvl_mem.mpr ⟨v, hv, hu, rfl⟩)
theorem LV_agr {n n' : Nat} {ad ad' : Nat → Nat} {ls : Array Slot} {nL : Nat} {vs : List Value} (h : LV ad ls nL vs) (hg : agr n n' ad ad') (hn : n' ≤ 1000000) (hw : ∀ v ∈ vs, wfv n v) : LV ad' ls nL vs := ⟨h.1, h.2.1, fun q hq => by
  obtain ⟨i, w⟩ := q
  obtain ⟨v, h1, h2, rfl⟩ := lvl_mem.mp hq
  rw [trV_agr hg hn (hw v (List.mem_of_getElem? h1))]
  exact LV_at h h1 h2⟩
def kl (vs : List Value) (i : Nat) : List Value := match i with
  | 0 => vs
  | k + 1 => if (vs.getD k uu).category = 2 then vs.set k uu else vs
def st1 (vs : List Value) (i : Nat) (v : Value) : List Value := (kl vs i).set i v
def st2 (vs : List Value) (i : Nat) (v : Value) : List Value := ((kl vs i).set i v).set (i + 1) uu
theorem trV_cat (ad : Nat → Nat) (v : Value) : (trV ad v).category = v.category := by cases v <;> rfl
theorem kl_get {vs : List Value} {i j : Nat} {v : Value} (h : (kl vs i)[j]? = some v) (hu : v ≠ uu) : vs[j]? = some v ∧ ¬ (j + 1 = i ∧ v.category = 2) := by
  unfold kl at h
  cases i with
  | zero => exact ⟨h, fun q => by omega⟩
  | succ k =>
    simp only at h
    by_cases c : (vs.getD k uu).category = 2
    · rw [if_pos c, List.getElem?_set] at h
      by_cases e : k = j
      · subst e
        by_cases l : k < vs.length
        · simp [l] at h
          exact absurd h.symm hu
        · simp [l] at h
      · simp [e] at h
        exact ⟨h, fun q => e (by omega)⟩
    · rw [if_neg c] at h
      refine ⟨h, fun q => c ?_⟩
      have e : k = j := by omega
      subst e
      rw [List.getD_eq_getElem?_getD, h]
      exact q.2
theorem LV_st1 {ad : Nat → Nat} {ls' : Array Slot} {nL : Nat} {vs : List Value} {i : Nat} {v : Value} (h : lv_has ls' nL ((i, trV ad v) :: (lvl ad vs).filter (fun q => !(q.1 == i) && !(q.1 + 1 == i && q.2.category == 2)))) : LV ad ls' nL (st1 vs i v) := ⟨h.1, h.2.1, fun q hq => by
  obtain ⟨j, w⟩ := q
  obtain ⟨v', h1, h2, rfl⟩ := lvl_mem.mp hq
  refine h.2.2 _ ?_
  unfold st1 at h1
  rw [List.getElem?_set] at h1
  by_cases e : i = j
  · subst e
    by_cases l : i < (kl vs i).length
    · simp [l] at h1
      subst h1
      exact List.mem_cons_self
    · simp [l] at h1
  · simp only [e, if_false] at h1
    obtain ⟨g1, g2⟩ := kl_get h1 h2
    refine List.mem_cons_of_mem _ (List.mem_filter.mpr ⟨lvl_mem.mpr ⟨v', g1, h2, rfl⟩, ?_⟩)
    have e' : ¬ j = i := fun q => e q.symm
    simp only [trV_cat]
    simp [e']
    exact Decidable.not_and_iff_or_not.mp g2⟩
theorem LV_st2 {ad : Nat → Nat} {ls' : Array Slot} {nL : Nat} {vs : List Value} {i : Nat} {v : Value} (h : lv_has ls' nL ((i, trV ad v) :: (lvl ad vs).filter (fun q => !(q.1 == i) && (!(q.1 == i + 1) && !(q.1 + 1 == i && q.2.category == 2))))) : LV ad ls' nL (st2 vs i v) := ⟨h.1, h.2.1, fun q hq => by
  obtain ⟨j, w⟩ := q
  obtain ⟨v', h1, h2, rfl⟩ := lvl_mem.mp hq
  refine h.2.2 _ ?_
  unfold st2 at h1
  rw [List.getElem?_set] at h1
  by_cases e0 : i + 1 = j
  · subst e0
    by_cases l : i + 1 < ((kl vs i).set i v).length
    · simp only [l, if_true] at h1
      exact absurd (Option.some.inj h1).symm h2
    · simp only [l, if_true, if_false] at h1
      cases h1
  simp only [e0, if_false] at h1
  rw [List.getElem?_set] at h1
  by_cases e : i = j
  · subst e
    by_cases l : i < (kl vs i).length
    · simp [l] at h1
      subst h1
      exact List.mem_cons_self
    · simp [l] at h1
  · simp only [e, if_false] at h1
    obtain ⟨g1, g2⟩ := kl_get h1 h2
    refine List.mem_cons_of_mem _ (List.mem_filter.mpr ⟨lvl_mem.mpr ⟨v', g1, h2, rfl⟩, ?_⟩)
    have e' : ¬ j = i := fun q => e q.symm
    have e0' : ¬ j = i + 1 := fun q => e0 q.symm
    simp only [trV_cat]
    simp [e', e0']
    exact Decidable.not_and_iff_or_not.mp g2⟩
end
section
/-! THE JUDGEMENT: G .. pc vs st hp n: method y, at pc, with these locals, this stack and this abstract heap of n cells, comes to its end, and its answer and heap satisfy Q -/
def isNest (w : Cond) : Bool := match w with
  | .fieldLinkNest .. => true
  | .methodLinkNest .. => true
  | _ => false
def gt : List Cond := lw_tbl.filter goodWord
def nwl : List Cond := lw_tbl.filter isNest
def NW (s : State) : Prop := (∀ w ∈ nwl, va_Nw w s) ∧ va_AO "FiveDice$Row" s ∧ va_AOA .long s
theorem va_AOA.moved {ty : FieldType} {u U : State} (hvm : u.vm.Alike U.vm) (h : va_AOA ty u) : va_AOA ty U := by
  have h1 : (Cond.arrayOver (.array ty)).before #[] (u.setVm U.vm) = true := by
    rw [Cond.arrayOver_setVmC hvm]
    exact h
  exact h1
theorem nw_warm {w : Cond} (hn : isNest w = true) {s U : State} (hW : s.WarmedH U.vm) (h : va_Nw w s) : va_Nw w U := by
  cases w <;> first | (exact va_Nw.warmF hW h) | (exact va_Nw.warmM hW h) | (simp [isNest] at hn)
theorem NW.warm {s U : State} (hW : s.WarmedH U.vm) (h : NW s) : NW U := ⟨fun w hw => nw_warm (List.mem_filter.mp hw).2 hW (h.1 w hw), h.2.1.moved hW.alike, h.2.2.moved hW.alike⟩
theorem NW.same {s U : State} (hv : s.vm = U.vm) (h : NW s) : NW U := ⟨fun w hw => va_Nw.same (by
    have hn := (List.mem_filter.mp hw).2
    cases w <;> first | rfl | (simp [isNest] at hn)) hv (h.1 w hw), h.2.1.moved (by rw [hv]; exact Vm.Alike.refl _), h.2.2.moved (by rw [hv]; exact Vm.Alike.refl _)⟩
abbrev xF : Nat := 1000000
abbrev xS : Nat := 1000001
def facV (j : Nat) : Value := .int ([1, 1, 2, 6, 24, 120].getD j 0)
def tyL (dA : Nat → ClassId) : List (ClassId × FieldType) := [(dA 0, .int), (dA 1, .long), (dA 2, .boolean), (dA 3, .object "FiveDice$Row"), (dA 4, .array .long)]
def SF (tF : Nat) (A : Nat → Prop) (U : State) (H : Heap) : Prop := va_Z "FiveDice$Tally" "FACTORIAL" "[I" (.ref tF) A U H ∧ va_T .int tF 6 facV A U H
abbrev SC : Type := Option (Nat × (Nat → Int32))
def Cx (y : MethodName) (cc : ByteArray) (nL : Nat) (ret : Option FieldType) (sc : SC) (p : Program) (s : State) (m : MethodId) (args : Array Value) (meth : Method) (c : Code) (D : va_G) (dA : Nat → ClassId) (A : Nat → Prop) (tF b : Nat) : Prop :=
  p.tables.exec = Jvm.exec ∧ c.code = cc ∧ meth.sig.returnType = ret ∧ c.maxLocals = nL ∧ s.vm.findClass y.cls = some m.cls ∧ (∀ w ∈ gt, w.before args s = true) ∧ meth.locks = false ∧ meth.name = y.name ∧ va_K D vwCl (tyL dA) s ∧ NW s ∧ SF tF A s s.heap ∧ (∀ q, s.heap.size ≤ q → A q) ∧ ∀ L xs, sc = some (L, xs) → va_T .int b L (fun j => .int (xs j)) A s s.heap
def Dy (D : va_G) (dA : Nat → ClassId) (A : Nat → Prop) (tF b : Nat) (s : State) (ad : Nat → Nat) (H : Heap) (locs : List Loc) (hp : AH) (n : Nat) : Prop :=
  va_P D vwCl (wl dA ad hp n) H ∧ va_D A (wl dA ad hp n) ∧ va_S A s.heap H locs ∧ ad xF = tF ∧ ad xS = b ∧ n ≤ 1000000
def RetOK (cc : ByteArray) (pc : Nat) (ret : Option FieldType) (v : Option Value) : Prop := match ret, v with
  | none, none => decode cc pc = .ok (.return_, 1)
  | some .int, some (.int _) => decode cc pc = .ok (.ireturn, 1)
  | some .boolean, some (.int x) => decode cc pc = .ok (.ireturn, 1) ∧ narrow .boolean (.int x) = .int x
  | some .long, some (.long _) => decode cc pc = .ok (.lreturn, 1)
  | some (.object _), some (.ref _) => decode cc pc = .ok (.areturn, 1)
  | some (.array _), some (.ref _) => decode cc pc = .ok (.areturn, 1)
  | _, _ => False
def G (y : MethodName) (cc : ByteArray) (nL : Nat) (ret : Option FieldType) (R : Room) (sc : SC) (Q : Option Value → AH → Nat → Prop) (cu su pc : Nat) (vs st : List Value) (hp : AH) (n : Nat) : Prop :=
  ∀ (p : Program) (l : Launch) (e : Env) (s : State) (m : MethodId) (args : Array Value) (below : List Frame) (meth : Method) (c : Code) (D : va_G) (dA : Nat → ClassId) (A : Nat → Prop) (tF b : Nat) (Z : State → Prop) (ad : Nat → Nat) (H : Heap) (locs : List Loc) (ls : Array Slot),
    Cx y cc nL ret sc p s m args meth c D dA A tF b → Dy D dA A tF b s ad H locs hp n → LV ad ls nL vs →
    (∀ (v : Option Value) (hp' : AH) (n' : Nat) (ad' : Nat → Nat) (H' : Heap) (locs' : List Loc) (ls' : Array Slot) (pc' : Nat), Q v hp' n' → RetOK cc pc' ret v → n ≤ n' → agr n n' ad ad' → Dy D dA A tF b s ad' H' locs' hp' n' →
      W p l e R s m args below meth c H' locs' R.cells R.slots Z (F0 m pc' ls' (v.toList.map (trV ad')))) →
    W p l e R s m args below meth c H locs cu su Z (F0 m pc ls (st.map (trV ad)))
/-- the classes of the worlds, by their numbers -/
def CLS (ci : Nat) (q : vw_C) : Prop := vwCl[ci]? = some q ∧ (∀ w ∈ u_ws q.1 q.2.1 q.2.2, w ∈ gt) ∧ (∃ ty0 : Nat → FieldType, ∀ k, k < q.2.2 → parseFieldDescriptor (q.2.1 k).2.2.1 = some (ty0 k)) ∧ (∀ a, a < q.2.2 → ∀ b, b < q.2.2 → a ≠ b → (q.2.1 a).2.1 ≠ (q.2.1 b).2.1)
theorem cls0 : CLS 0 (RX0, TX0, 8) := ⟨rfl, by decide +kernel, ⟨tyX0, tyX0_ok⟩, nmX0⟩
theorem cls1 : CLS 1 (RX1, TX1, 6) := ⟨rfl, by decide +kernel, ⟨tyX1, tyX1_ok⟩, nmX1⟩
theorem cls2 : CLS 2 (RX2, TX2, 8) := ⟨rfl, by decide +kernel, ⟨tyX2, tyX2_ok⟩, nmX2⟩
theorem cls3 : CLS 3 (RX3, TX3, 4) := ⟨rfl, by decide +kernel, ⟨tyX3, tyX3_ok⟩, nmX3⟩
theorem cls4 : CLS 4 (RX4, TX4, 1) := ⟨rfl, by decide +kernel, ⟨tyX4, tyX4_ok⟩, nmX4⟩
theorem cls5 : CLS 5 (RX5, TX5, 3) := ⟨rfl, by decide +kernel, ⟨tyX5, tyX5_ok⟩, nmX5⟩
theorem cls6 : CLS 6 (RX6, TX6, 3) := ⟨rfl, by decide +kernel, ⟨tyX6, tyX6_ok⟩, nmX6⟩
theorem cls7 : CLS 7 (RX7, TX7, 18) := ⟨rfl, by decide +kernel, ⟨tyX7, tyX7_ok⟩, nmX7⟩
theorem cls8 : CLS 8 (RX8, TX8, 32) := ⟨rfl, by decide +kernel, ⟨tyX8, tyX8_ok⟩, nmX8⟩
end
section
section GR
variable {y : MethodName} {cc : ByteArray} {nL : Nat} {ret : Option FieldType} {R : Room} {sc : SC} {Q : Option Value → AH → Nat → Prop} {cu su pc : Nat} {vs st : List Value} {hp : AH} {n : Nat}

theorem g_iconst {pc' : Nat} {z : Int} {v : Int32} (hd : decode cc pc = .ok (.iconst z, 1)) (hv : Int32.ofInt z = v) (k : G y cc nL ret R sc Q cu su pc' vs (.int v :: st) hp n) (e : pc + 1 = pc' := by rfl) : G y cc nL ret R sc Q cu su pc vs (st) hp n := by
  subst e
  intro p l e s m args below meth c D dA A tF b Z ad H locs ls C X L ex
  exact lv_iconst C.1 C.2.1 hd hv (k p l e s m args below meth c D dA A tF b Z ad H locs ls C X L ex)

theorem g_bipush {pc' : Nat} {z : Int} {v : Int32} (hd : decode cc pc = .ok (.bipush z, 2)) (hv : (Int8.ofInt z).toInt32 = v) (k : G y cc nL ret R sc Q cu su pc' vs (.int v :: st) hp n) (e : pc + 2 = pc' := by rfl) : G y cc nL ret R sc Q cu su pc vs (st) hp n := by
  subst e
  intro p l e s m args below meth c D dA A tF b Z ad H locs ls C X L ex
  exact lv_bipush C.1 C.2.1 hd hv (k p l e s m args below meth c D dA A tF b Z ad H locs ls C X L ex)

theorem g_sipush {pc' : Nat} {z : Int} {v : Int32} (hd : decode cc pc = .ok (.sipush z, 3)) (hv : (Int16.ofInt z).toInt32 = v) (k : G y cc nL ret R sc Q cu su pc' vs (.int v :: st) hp n) (e : pc + 3 = pc' := by rfl) : G y cc nL ret R sc Q cu su pc vs (st) hp n := by
  subst e
  intro p l e s m args below meth c D dA A tF b Z ad H locs ls C X L ex
  exact lv_sipush C.1 C.2.1 hd hv (k p l e s m args below meth c D dA A tF b Z ad H locs ls C X L ex)

theorem g_lconst {pc' : Nat} {z : Fin 2} {v : Int64} (hd : decode cc pc = .ok (.lconst z, 1)) (hv : Int64.ofNat (z : Nat) = v) (k : G y cc nL ret R sc Q cu su pc' vs (.long v :: st) hp n) (e : pc + 1 = pc' := by rfl) : G y cc nL ret R sc Q cu su pc vs (st) hp n := by
  subst e
  intro p l e s m args below meth c D dA A tF b Z ad H locs ls C X L ex
  exact lv_lconst C.1 C.2.1 hd hv (k p l e s m args below meth c D dA A tF b Z ad H locs ls C X L ex)

theorem g_ldc {pc' : Nat} {i : Nat} {v : Int32} (hd : decode cc pc = .ok (.ldc i, 2)) (hw : Cond.constant y.cls i v ∈ gt) (k : G y cc nL ret R sc Q cu su pc' vs (.int v :: st) hp n) (e : pc + 2 = pc' := by rfl) : G y cc nL ret R sc Q cu su pc vs (st) hp n := by
  subst e
  intro p l e s m args below meth c D dA A tF b Z ad H locs ls C X L ex
  exact lv_ldc C.1 C.2.1 C.2.2.2.2.1 (C.2.2.2.2.2.1 _ hw) hd (k p l e s m args below meth c D dA A tF b Z ad H locs ls C X L ex)

theorem g_ldcw {pc' : Nat} {i : Nat} {v : Int32} (hd : decode cc pc = .ok (.ldc_w i, 3)) (hw : Cond.constant y.cls i v ∈ gt) (k : G y cc nL ret R sc Q cu su pc' vs (.int v :: st) hp n) (e : pc + 3 = pc' := by rfl) : G y cc nL ret R sc Q cu su pc vs (st) hp n := by
  subst e
  intro p l e s m args below meth c D dA A tF b Z ad H locs ls C X L ex
  exact lv_ldcw C.1 C.2.1 C.2.2.2.2.1 (C.2.2.2.2.2.1 _ hw) hd (k p l e s m args below meth c D dA A tF b Z ad H locs ls C X L ex)

theorem g_ldc2 {pc' : Nat} {i : Nat} {v : Int64} (hd : decode cc pc = .ok (.ldc2_w i, 3)) (hw : Cond.constantLong y.cls i v ∈ gt) (k : G y cc nL ret R sc Q cu su pc' vs (.long v :: st) hp n) (e : pc + 3 = pc' := by rfl) : G y cc nL ret R sc Q cu su pc vs (st) hp n := by
  subst e
  intro p l e s m args below meth c D dA A tF b Z ad H locs ls C X L ex
  exact lv_ldc2 C.1 C.2.1 C.2.2.2.2.1 (C.2.2.2.2.2.1 _ hw) hd (k p l e s m args below meth c D dA A tF b Z ad H locs ls C X L ex)

theorem g_iload_n {pc' : Nat} {j : Fin 4} {i : Nat} {x : Int32} (hd : decode cc pc = .ok (.iload_n j, 1)) (hi : (j : Nat) = i) (hv : vs[i]? = some (.int x)) (k : G y cc nL ret R sc Q cu su pc' vs (.int x :: st) hp n) (e : pc + 1 = pc' := by rfl) : G y cc nL ret R sc Q cu su pc vs (st) hp n := by
  subst e
  intro p l e s m args below meth c D dA A tF b Z ad H locs ls C X L ex
  exact lv_iload_n C.1 C.2.1 hd hi (LV_at L hv (fun q => by cases q)) (k p l e s m args below meth c D dA A tF b Z ad H locs ls C X L ex)

theorem g_iload {pc' : Nat} {i : Nat} {x : Int32} (hd : decode cc pc = .ok (.iload i, 2)) (hv : vs[i]? = some (.int x)) (k : G y cc nL ret R sc Q cu su pc' vs (.int x :: st) hp n) (e : pc + 2 = pc' := by rfl) : G y cc nL ret R sc Q cu su pc vs (st) hp n := by
  subst e
  intro p l e s m args below meth c D dA A tF b Z ad H locs ls C X L ex
  exact lv_iload C.1 C.2.1 hd (LV_at L hv (fun q => by cases q)) (k p l e s m args below meth c D dA A tF b Z ad H locs ls C X L ex)

theorem g_istore_n {pc' : Nat} {j : Fin 4} {i : Nat} {x : Int32} (hd : decode cc pc = .ok (.istore_n j, 1)) (hi : (j : Nat) = i) (hn : i < nL) (k : G y cc nL ret R sc Q cu su pc' (st1 vs i (.int x)) st hp n) (e : pc + 1 = pc' := by rfl) : G y cc nL ret R sc Q cu su pc vs (.int x :: st) hp n := by
  subst e
  intro p l e s m args below meth c D dA A tF b Z ad H locs ls C X L ex
  exact lv_istore_n C.1 C.2.1 hd hi L hn rfl (fun ls' L' => (k p l e s m args below meth c D dA A tF b Z ad H locs ls' C X (LV_st1 (v := .int x) L') ex))

theorem g_istore {pc' : Nat} {i : Nat} {x : Int32} (hd : decode cc pc = .ok (.istore i, 2)) (hn : i < nL) (k : G y cc nL ret R sc Q cu su pc' (st1 vs i (.int x)) st hp n) (e : pc + 2 = pc' := by rfl) : G y cc nL ret R sc Q cu su pc vs (.int x :: st) hp n := by
  subst e
  intro p l e s m args below meth c D dA A tF b Z ad H locs ls C X L ex
  exact lv_istore C.1 C.2.1 hd L hn rfl (fun ls' L' => (k p l e s m args below meth c D dA A tF b Z ad H locs ls' C X (LV_st1 (v := .int x) L') ex))

theorem g_lload_n {pc' : Nat} {j : Fin 4} {i : Nat} {x : Int64} (hd : decode cc pc = .ok (.lload_n j, 1)) (hi : (j : Nat) = i) (hv : vs[i]? = some (.long x)) (k : G y cc nL ret R sc Q cu su pc' vs (.long x :: st) hp n) (e : pc + 1 = pc' := by rfl) : G y cc nL ret R sc Q cu su pc vs (st) hp n := by
  subst e
  intro p l e s m args below meth c D dA A tF b Z ad H locs ls C X L ex
  exact lv_lload_n C.1 C.2.1 hd hi (LV_at L hv (fun q => by cases q)) (k p l e s m args below meth c D dA A tF b Z ad H locs ls C X L ex)

theorem g_lload {pc' : Nat} {i : Nat} {x : Int64} (hd : decode cc pc = .ok (.lload i, 2)) (hv : vs[i]? = some (.long x)) (k : G y cc nL ret R sc Q cu su pc' vs (.long x :: st) hp n) (e : pc + 2 = pc' := by rfl) : G y cc nL ret R sc Q cu su pc vs (st) hp n := by
  subst e
  intro p l e s m args below meth c D dA A tF b Z ad H locs ls C X L ex
  exact lv_lload C.1 C.2.1 hd (LV_at L hv (fun q => by cases q)) (k p l e s m args below meth c D dA A tF b Z ad H locs ls C X L ex)

theorem g_lstore_n {pc' : Nat} {j : Fin 4} {i : Nat} {x : Int64} (hd : decode cc pc = .ok (.lstore_n j, 1)) (hi : (j : Nat) = i) (hn : i + 1 < nL) (k : G y cc nL ret R sc Q cu su pc' (st2 vs i (.long x)) st hp n) (e : pc + 1 = pc' := by rfl) : G y cc nL ret R sc Q cu su pc vs (.long x :: st) hp n := by
  subst e
  intro p l e s m args below meth c D dA A tF b Z ad H locs ls C X L ex
  exact lv_lstore_n C.1 C.2.1 hd hi L hn rfl (fun ls' L' => (k p l e s m args below meth c D dA A tF b Z ad H locs ls' C X (LV_st2 (v := .long x) L') ex))

theorem g_lstore {pc' : Nat} {i : Nat} {x : Int64} (hd : decode cc pc = .ok (.lstore i, 2)) (hn : i + 1 < nL) (k : G y cc nL ret R sc Q cu su pc' (st2 vs i (.long x)) st hp n) (e : pc + 2 = pc' := by rfl) : G y cc nL ret R sc Q cu su pc vs (.long x :: st) hp n := by
  subst e
  intro p l e s m args below meth c D dA A tF b Z ad H locs ls C X L ex
  exact lv_lstore C.1 C.2.1 hd L hn rfl (fun ls' L' => (k p l e s m args below meth c D dA A tF b Z ad H locs ls' C X (LV_st2 (v := .long x) L') ex))

theorem g_aload_n {pc' : Nat} {j : Fin 4} {i : Nat} {x : Nat} (hd : decode cc pc = .ok (.aload_n j, 1)) (hi : (j : Nat) = i) (hv : vs[i]? = some (.ref x)) (k : G y cc nL ret R sc Q cu su pc' vs (.ref x :: st) hp n) (e : pc + 1 = pc' := by rfl) : G y cc nL ret R sc Q cu su pc vs (st) hp n := by
  subst e
  intro p l e s m args below meth c D dA A tF b Z ad H locs ls C X L ex
  exact lv_aload_n C.1 C.2.1 hd hi (LV_at L hv (fun q => by cases q)) (k p l e s m args below meth c D dA A tF b Z ad H locs ls C X L ex)

theorem g_aload {pc' : Nat} {i : Nat} {x : Nat} (hd : decode cc pc = .ok (.aload i, 2)) (hv : vs[i]? = some (.ref x)) (k : G y cc nL ret R sc Q cu su pc' vs (.ref x :: st) hp n) (e : pc + 2 = pc' := by rfl) : G y cc nL ret R sc Q cu su pc vs (st) hp n := by
  subst e
  intro p l e s m args below meth c D dA A tF b Z ad H locs ls C X L ex
  exact lv_aload C.1 C.2.1 hd (LV_at L hv (fun q => by cases q)) (k p l e s m args below meth c D dA A tF b Z ad H locs ls C X L ex)

theorem g_astore_n {pc' : Nat} {j : Fin 4} {i : Nat} {x : Nat} (hd : decode cc pc = .ok (.astore_n j, 1)) (hi : (j : Nat) = i) (hn : i < nL) (k : G y cc nL ret R sc Q cu su pc' (st1 vs i (.ref x)) st hp n) (e : pc + 1 = pc' := by rfl) : G y cc nL ret R sc Q cu su pc vs (.ref x :: st) hp n := by
  subst e
  intro p l e s m args below meth c D dA A tF b Z ad H locs ls C X L ex
  exact lv_astore_n C.1 C.2.1 hd hi L hn rfl (fun ls' L' => (k p l e s m args below meth c D dA A tF b Z ad H locs ls' C X (LV_st1 (v := .ref x) L') ex))

theorem g_astore {pc' : Nat} {i : Nat} {x : Nat} (hd : decode cc pc = .ok (.astore i, 2)) (hn : i < nL) (k : G y cc nL ret R sc Q cu su pc' (st1 vs i (.ref x)) st hp n) (e : pc + 2 = pc' := by rfl) : G y cc nL ret R sc Q cu su pc vs (.ref x :: st) hp n := by
  subst e
  intro p l e s m args below meth c D dA A tF b Z ad H locs ls C X L ex
  exact lv_astore C.1 C.2.1 hd L hn rfl (fun ls' L' => (k p l e s m args below meth c D dA A tF b Z ad H locs ls' C X (LV_st1 (v := .ref x) L') ex))

theorem lvl_ix {ad : Nat → Nat} {vs : List Value} {i : Nat} {v : Value} (hv : vs[i]? = some v) (hu : v ≠ uu) : ∃ k : Nat, (lvl ad vs)[k]? = some (i, trV ad v) := List.getElem?_of_mem (lvl_mem.mpr ⟨v, hv, hu, rfl⟩)
theorem g_iinc {pc' : Nat} {i : Nat} {z : Int} {x v : Int32} (hd : decode cc pc = .ok (.iinc i z, 3)) (hv : vs[i]? = some (.int x)) (hz : x + Int32.ofInt z = v) (hn : i < nL) (k : G y cc nL ret R sc Q cu su pc' (st1 vs i (.int v)) st hp n) (e : pc + 3 = pc' := by rfl) : G y cc nL ret R sc Q cu su pc vs st hp n := by
  subst e
  intro p l e s m args below meth c D dA A tF b Z ad H locs ls C X L ex
  obtain ⟨j, hj⟩ := lvl_ix (ad := ad) hv (fun q => by cases q)
  exact lv_iinc C.1 C.2.1 hd L hj hz hn rfl (fun ls' L' => k p l e s m args below meth c D dA A tF b Z ad H locs ls' C X (LV_st1 (v := .int v) L') ex)

theorem g_iadd {pc' : Nat} {x z : Int32} (hd : decode cc pc = .ok (.iadd, 1))  (k : G y cc nL ret R sc Q cu su pc' vs (.int (x + z) :: st) hp n) (e : pc + 1 = pc' := by rfl) : G y cc nL ret R sc Q cu su pc vs (.int z :: .int x :: st) hp n := by
  subst e
  intro p l e s m args below meth c D dA A tF b Z ad H locs ls C X L ex
  exact lv_iadd C.1 C.2.1 hd (k p l e s m args below meth c D dA A tF b Z ad H locs ls C X L ex)

theorem g_isub {pc' : Nat} {x z : Int32} (hd : decode cc pc = .ok (.isub, 1))  (k : G y cc nL ret R sc Q cu su pc' vs (.int (x - z) :: st) hp n) (e : pc + 1 = pc' := by rfl) : G y cc nL ret R sc Q cu su pc vs (.int z :: .int x :: st) hp n := by
  subst e
  intro p l e s m args below meth c D dA A tF b Z ad H locs ls C X L ex
  exact lv_isub C.1 C.2.1 hd (k p l e s m args below meth c D dA A tF b Z ad H locs ls C X L ex)

theorem g_imul {pc' : Nat} {x z : Int32} (hd : decode cc pc = .ok (.imul, 1))  (k : G y cc nL ret R sc Q cu su pc' vs (.int (x * z) :: st) hp n) (e : pc + 1 = pc' := by rfl) : G y cc nL ret R sc Q cu su pc vs (.int z :: .int x :: st) hp n := by
  subst e
  intro p l e s m args below meth c D dA A tF b Z ad H locs ls C X L ex
  exact lv_imul C.1 C.2.1 hd (k p l e s m args below meth c D dA A tF b Z ad H locs ls C X L ex)

theorem g_iand {pc' : Nat} {x z : Int32} (hd : decode cc pc = .ok (.iand, 1))  (k : G y cc nL ret R sc Q cu su pc' vs (.int (x &&& z) :: st) hp n) (e : pc + 1 = pc' := by rfl) : G y cc nL ret R sc Q cu su pc vs (.int z :: .int x :: st) hp n := by
  subst e
  intro p l e s m args below meth c D dA A tF b Z ad H locs ls C X L ex
  exact lv_iand C.1 C.2.1 hd (k p l e s m args below meth c D dA A tF b Z ad H locs ls C X L ex)

theorem g_ior {pc' : Nat} {x z : Int32} (hd : decode cc pc = .ok (.ior, 1))  (k : G y cc nL ret R sc Q cu su pc' vs (.int (x ||| z) :: st) hp n) (e : pc + 1 = pc' := by rfl) : G y cc nL ret R sc Q cu su pc vs (.int z :: .int x :: st) hp n := by
  subst e
  intro p l e s m args below meth c D dA A tF b Z ad H locs ls C X L ex
  exact lv_ior C.1 C.2.1 hd (k p l e s m args below meth c D dA A tF b Z ad H locs ls C X L ex)

theorem g_ixor {pc' : Nat} {x z : Int32} (hd : decode cc pc = .ok (.ixor, 1))  (k : G y cc nL ret R sc Q cu su pc' vs (.int (x ^^^ z) :: st) hp n) (e : pc + 1 = pc' := by rfl) : G y cc nL ret R sc Q cu su pc vs (.int z :: .int x :: st) hp n := by
  subst e
  intro p l e s m args below meth c D dA A tF b Z ad H locs ls C X L ex
  exact lv_ixor C.1 C.2.1 hd (k p l e s m args below meth c D dA A tF b Z ad H locs ls C X L ex)

theorem g_ishl {pc' : Nat} {x z : Int32} (hd : decode cc pc = .ok (.ishl, 1))  (k : G y cc nL ret R sc Q cu su pc' vs (.int (x <<< (z &&& 31)) :: st) hp n) (e : pc + 1 = pc' := by rfl) : G y cc nL ret R sc Q cu su pc vs (.int z :: .int x :: st) hp n := by
  subst e
  intro p l e s m args below meth c D dA A tF b Z ad H locs ls C X L ex
  exact lv_ishl C.1 C.2.1 hd (k p l e s m args below meth c D dA A tF b Z ad H locs ls C X L ex)

theorem g_ishr {pc' : Nat} {x z : Int32} (hd : decode cc pc = .ok (.ishr, 1))  (k : G y cc nL ret R sc Q cu su pc' vs (.int (x >>> (z &&& 31)) :: st) hp n) (e : pc + 1 = pc' := by rfl) : G y cc nL ret R sc Q cu su pc vs (.int z :: .int x :: st) hp n := by
  subst e
  intro p l e s m args below meth c D dA A tF b Z ad H locs ls C X L ex
  exact lv_ishr C.1 C.2.1 hd (k p l e s m args below meth c D dA A tF b Z ad H locs ls C X L ex)

theorem g_iushr {pc' : Nat} {x z : Int32} (hd : decode cc pc = .ok (.iushr, 1))  (k : G y cc nL ret R sc Q cu su pc' vs (.int ((x.toUInt32 >>> (z.toUInt32 &&& Int32.toUInt32 31)).toInt32) :: st) hp n) (e : pc + 1 = pc' := by rfl) : G y cc nL ret R sc Q cu su pc vs (.int z :: .int x :: st) hp n := by
  subst e
  intro p l e s m args below meth c D dA A tF b Z ad H locs ls C X L ex
  exact lv_iushr C.1 C.2.1 hd rfl (k p l e s m args below meth c D dA A tF b Z ad H locs ls C X L ex)

theorem g_idiv {pc' : Nat} {x z : Int32} (hd : decode cc pc = .ok (.idiv, 1)) (hz : ¬ z = 0) (k : G y cc nL ret R sc Q cu su pc' vs (.int (x / z) :: st) hp n) (e : pc + 1 = pc' := by rfl) : G y cc nL ret R sc Q cu su pc vs (.int z :: .int x :: st) hp n := by
  subst e
  intro p l e s m args below meth c D dA A tF b Z ad H locs ls C X L ex
  exact lv_idiv C.1 C.2.1 hd hz (k p l e s m args below meth c D dA A tF b Z ad H locs ls C X L ex)

theorem g_irem {pc' : Nat} {x z : Int32} (hd : decode cc pc = .ok (.irem, 1)) (hz : ¬ z = 0) (k : G y cc nL ret R sc Q cu su pc' vs (.int (x - x / z * z) :: st) hp n) (e : pc + 1 = pc' := by rfl) : G y cc nL ret R sc Q cu su pc vs (.int z :: .int x :: st) hp n := by
  subst e
  intro p l e s m args below meth c D dA A tF b Z ad H locs ls C X L ex
  exact lv_irem C.1 C.2.1 hd hz (k p l e s m args below meth c D dA A tF b Z ad H locs ls C X L ex)

theorem g_ladd {pc' : Nat} {x z : Int64} (hd : decode cc pc = .ok (.ladd, 1))  (k : G y cc nL ret R sc Q cu su pc' vs (.long (x + z) :: st) hp n) (e : pc + 1 = pc' := by rfl) : G y cc nL ret R sc Q cu su pc vs (.long z :: .long x :: st) hp n := by
  subst e
  intro p l e s m args below meth c D dA A tF b Z ad H locs ls C X L ex
  exact lv_ladd C.1 C.2.1 hd (k p l e s m args below meth c D dA A tF b Z ad H locs ls C X L ex)

theorem g_lsub {pc' : Nat} {x z : Int64} (hd : decode cc pc = .ok (.lsub, 1))  (k : G y cc nL ret R sc Q cu su pc' vs (.long (x - z) :: st) hp n) (e : pc + 1 = pc' := by rfl) : G y cc nL ret R sc Q cu su pc vs (.long z :: .long x :: st) hp n := by
  subst e
  intro p l e s m args below meth c D dA A tF b Z ad H locs ls C X L ex
  exact lv_lsub C.1 C.2.1 hd (k p l e s m args below meth c D dA A tF b Z ad H locs ls C X L ex)

theorem g_lmul {pc' : Nat} {x z : Int64} (hd : decode cc pc = .ok (.lmul, 1))  (k : G y cc nL ret R sc Q cu su pc' vs (.long (x * z) :: st) hp n) (e : pc + 1 = pc' := by rfl) : G y cc nL ret R sc Q cu su pc vs (.long z :: .long x :: st) hp n := by
  subst e
  intro p l e s m args below meth c D dA A tF b Z ad H locs ls C X L ex
  exact lv_lmul C.1 C.2.1 hd (k p l e s m args below meth c D dA A tF b Z ad H locs ls C X L ex)

theorem g_ldiv {pc' : Nat} {x z : Int64} (hd : decode cc pc = .ok (.ldiv, 1)) (hz : ¬ z = 0) (k : G y cc nL ret R sc Q cu su pc' vs (.long (x / z) :: st) hp n) (e : pc + 1 = pc' := by rfl) : G y cc nL ret R sc Q cu su pc vs (.long z :: .long x :: st) hp n := by
  subst e
  intro p l e s m args below meth c D dA A tF b Z ad H locs ls C X L ex
  exact lv_ldiv C.1 C.2.1 hd hz (k p l e s m args below meth c D dA A tF b Z ad H locs ls C X L ex)

theorem g_i2l {pc' : Nat} {x : Int32} (hd : decode cc pc = .ok (.i2l, 1))  (k : G y cc nL ret R sc Q cu su pc' vs (.long x.toInt64 :: st) hp n) (e : pc + 1 = pc' := by rfl) : G y cc nL ret R sc Q cu su pc vs (.int x :: st) hp n := by
  subst e
  intro p l e s m args below meth c D dA A tF b Z ad H locs ls C X L ex
  exact lv_i2l C.1 C.2.1 hd rfl (k p l e s m args below meth c D dA A tF b Z ad H locs ls C X L ex)

theorem g_lcmp {pc' : Nat} {x z : Int64} (hd : decode cc pc = .ok (.lcmp, 1))  (k : G y cc nL ret R sc Q cu su pc' vs (.int (lg_cmp x z) :: st) hp n) (e : pc + 1 = pc' := by rfl) : G y cc nL ret R sc Q cu su pc vs (.long z :: .long x :: st) hp n := by
  subst e
  intro p l e s m args below meth c D dA A tF b Z ad H locs ls C X L ex
  exact W.lcmp C.1 C.2.1 hd (k p l e s m args below meth c D dA A tF b Z ad H locs ls C X L ex)

theorem g_dup {pc' : Nat} {a : Value} (hd : decode cc pc = .ok (.dup, 1)) (h1 : a.category = 1) (k : G y cc nL ret R sc Q cu su pc' vs (a :: a :: st) hp n) (e : pc + 1 = pc' := by rfl) : G y cc nL ret R sc Q cu su pc vs (a :: st) hp n := by
  subst e
  intro p l e s m args below meth c D dA A tF b Z ad H locs ls C X L ex
  exact lv_dup C.1 C.2.1 hd ((trV_cat ad a).trans h1) (k p l e s m args below meth c D dA A tF b Z ad H locs ls C X L ex)

theorem g_pop {pc' : Nat} {a : Value} (hd : decode cc pc = .ok (.pop, 1)) (h1 : a.category = 1) (k : G y cc nL ret R sc Q cu su pc' vs (st) hp n) (e : pc + 1 = pc' := by rfl) : G y cc nL ret R sc Q cu su pc vs (a :: st) hp n := by
  subst e
  intro p l e s m args below meth c D dA A tF b Z ad H locs ls C X L ex
  exact lv_pop C.1 C.2.1 hd ((trV_cat ad a).trans h1) (k p l e s m args below meth c D dA A tF b Z ad H locs ls C X L ex)

theorem g_dup2 {pc' : Nat} {a z : Value} (hd : decode cc pc = .ok (.dup2, 1)) (h1 : a.category = 1) (h2 : z.category = 1) (k : G y cc nL ret R sc Q cu su pc' vs (a :: z :: a :: z :: st) hp n) (e : pc + 1 = pc' := by rfl) : G y cc nL ret R sc Q cu su pc vs (a :: z :: st) hp n := by
  subst e
  intro p l e s m args below meth c D dA A tF b Z ad H locs ls C X L ex
  exact lv_dup2_11 C.1 C.2.1 hd ((trV_cat ad a).trans h1) ((trV_cat ad z).trans h2) (k p l e s m args below meth c D dA A tF b Z ad H locs ls C X L ex)

theorem g_dup2_2 {pc' : Nat} {a : Value} (hd : decode cc pc = .ok (.dup2, 1)) (h1 : a.category = 2) (k : G y cc nL ret R sc Q cu su pc' vs (a :: a :: st) hp n) (e : pc + 1 = pc' := by rfl) : G y cc nL ret R sc Q cu su pc vs (a :: st) hp n := by
  subst e
  intro p l e s m args below meth c D dA A tF b Z ad H locs ls C X L ex
  exact lv_dup2_2 C.1 C.2.1 hd ((trV_cat ad a).trans h1) (k p l e s m args below meth c D dA A tF b Z ad H locs ls C X L ex)

theorem g_if_eq {x : Int32} {off : Int} {tgt pc' : Nat} (hd : decode cc pc = .ok (.ifCond .eq off, 3)) (ht : (pc : Int) + off = (tgt : Int)) (kt : x = 0 → G y cc nL ret R sc Q cu su tgt vs st hp n) (kf : ¬ (x = 0) → G y cc nL ret R sc Q cu su pc' vs st hp n) (e : pc + 3 = pc' := by rfl) : G y cc nL ret R sc Q cu su pc vs (.int x :: st) hp n := by
  subst e
  intro p l e s m args below meth c D dA A tF b Z ad H locs ls C X L ex
  exact lv_if_eq C.1 C.2.1 hd ht (fun h => kt h p l e s m args below meth c D dA A tF b Z ad H locs ls C X L ex) (fun h => kf h p l e s m args below meth c D dA A tF b Z ad H locs ls C X L ex)

theorem g_if_ne {x : Int32} {off : Int} {tgt pc' : Nat} (hd : decode cc pc = .ok (.ifCond .ne off, 3)) (ht : (pc : Int) + off = (tgt : Int)) (kt : ¬ x = 0 → G y cc nL ret R sc Q cu su tgt vs st hp n) (kf : x = 0 → G y cc nL ret R sc Q cu su pc' vs st hp n) (e : pc + 3 = pc' := by rfl) : G y cc nL ret R sc Q cu su pc vs (.int x :: st) hp n := by
  subst e
  intro p l e s m args below meth c D dA A tF b Z ad H locs ls C X L ex
  exact lv_if_ne C.1 C.2.1 hd ht (fun h => kt h p l e s m args below meth c D dA A tF b Z ad H locs ls C X L ex) (fun h => kf h p l e s m args below meth c D dA A tF b Z ad H locs ls C X L ex)

theorem g_if_lt {x : Int32} {off : Int} {tgt pc' : Nat} (hd : decode cc pc = .ok (.ifCond .lt off, 3)) (ht : (pc : Int) + off = (tgt : Int)) (kt : x < 0 → G y cc nL ret R sc Q cu su tgt vs st hp n) (kf : ¬ (x < 0) → G y cc nL ret R sc Q cu su pc' vs st hp n) (e : pc + 3 = pc' := by rfl) : G y cc nL ret R sc Q cu su pc vs (.int x :: st) hp n := by
  subst e
  intro p l e s m args below meth c D dA A tF b Z ad H locs ls C X L ex
  exact lv_if_lt C.1 C.2.1 hd ht (fun h => kt h p l e s m args below meth c D dA A tF b Z ad H locs ls C X L ex) (fun h => kf h p l e s m args below meth c D dA A tF b Z ad H locs ls C X L ex)

theorem g_if_ge {x : Int32} {off : Int} {tgt pc' : Nat} (hd : decode cc pc = .ok (.ifCond .ge off, 3)) (ht : (pc : Int) + off = (tgt : Int)) (kt : 0 ≤ x → G y cc nL ret R sc Q cu su tgt vs st hp n) (kf : ¬ (0 ≤ x) → G y cc nL ret R sc Q cu su pc' vs st hp n) (e : pc + 3 = pc' := by rfl) : G y cc nL ret R sc Q cu su pc vs (.int x :: st) hp n := by
  subst e
  intro p l e s m args below meth c D dA A tF b Z ad H locs ls C X L ex
  exact lv_if_ge C.1 C.2.1 hd ht (fun h => kt h p l e s m args below meth c D dA A tF b Z ad H locs ls C X L ex) (fun h => kf h p l e s m args below meth c D dA A tF b Z ad H locs ls C X L ex)

theorem g_if_gt {x : Int32} {off : Int} {tgt pc' : Nat} (hd : decode cc pc = .ok (.ifCond .gt off, 3)) (ht : (pc : Int) + off = (tgt : Int)) (kt : 0 < x → G y cc nL ret R sc Q cu su tgt vs st hp n) (kf : ¬ (0 < x) → G y cc nL ret R sc Q cu su pc' vs st hp n) (e : pc + 3 = pc' := by rfl) : G y cc nL ret R sc Q cu su pc vs (.int x :: st) hp n := by
  subst e
  intro p l e s m args below meth c D dA A tF b Z ad H locs ls C X L ex
  exact lv_if_gt C.1 C.2.1 hd ht (fun h => kt h p l e s m args below meth c D dA A tF b Z ad H locs ls C X L ex) (fun h => kf h p l e s m args below meth c D dA A tF b Z ad H locs ls C X L ex)

theorem g_if_le {x : Int32} {off : Int} {tgt pc' : Nat} (hd : decode cc pc = .ok (.ifCond .le off, 3)) (ht : (pc : Int) + off = (tgt : Int)) (kt : x ≤ 0 → G y cc nL ret R sc Q cu su tgt vs st hp n) (kf : ¬ (x ≤ 0) → G y cc nL ret R sc Q cu su pc' vs st hp n) (e : pc + 3 = pc' := by rfl) : G y cc nL ret R sc Q cu su pc vs (.int x :: st) hp n := by
  subst e
  intro p l e s m args below meth c D dA A tF b Z ad H locs ls C X L ex
  exact lv_if_le C.1 C.2.1 hd ht (fun h => kt h p l e s m args below meth c D dA A tF b Z ad H locs ls C X L ex) (fun h => kf h p l e s m args below meth c D dA A tF b Z ad H locs ls C X L ex)

theorem g_icmp_eq {x z : Int32} {off : Int} {tgt pc' : Nat} (hd : decode cc pc = .ok (.if_icmp .eq off, 3)) (ht : (pc : Int) + off = (tgt : Int)) (kt : x = z → G y cc nL ret R sc Q cu su tgt vs st hp n) (kf : ¬ (x = z) → G y cc nL ret R sc Q cu su pc' vs st hp n) (e : pc + 3 = pc' := by rfl) : G y cc nL ret R sc Q cu su pc vs (.int z :: .int x :: st) hp n := by
  subst e
  intro p l e s m args below meth c D dA A tF b Z ad H locs ls C X L ex
  exact lv_icmp_eq C.1 C.2.1 hd ht (fun h => kt h p l e s m args below meth c D dA A tF b Z ad H locs ls C X L ex) (fun h => kf h p l e s m args below meth c D dA A tF b Z ad H locs ls C X L ex)

theorem g_icmp_ne {x z : Int32} {off : Int} {tgt pc' : Nat} (hd : decode cc pc = .ok (.if_icmp .ne off, 3)) (ht : (pc : Int) + off = (tgt : Int)) (kt : ¬ x = z → G y cc nL ret R sc Q cu su tgt vs st hp n) (kf : x = z → G y cc nL ret R sc Q cu su pc' vs st hp n) (e : pc + 3 = pc' := by rfl) : G y cc nL ret R sc Q cu su pc vs (.int z :: .int x :: st) hp n := by
  subst e
  intro p l e s m args below meth c D dA A tF b Z ad H locs ls C X L ex
  exact lv_icmp_ne C.1 C.2.1 hd ht (fun h => kt h p l e s m args below meth c D dA A tF b Z ad H locs ls C X L ex) (fun h => kf h p l e s m args below meth c D dA A tF b Z ad H locs ls C X L ex)

theorem g_icmp_lt {x z : Int32} {off : Int} {tgt pc' : Nat} (hd : decode cc pc = .ok (.if_icmp .lt off, 3)) (ht : (pc : Int) + off = (tgt : Int)) (kt : x < z → G y cc nL ret R sc Q cu su tgt vs st hp n) (kf : ¬ (x < z) → G y cc nL ret R sc Q cu su pc' vs st hp n) (e : pc + 3 = pc' := by rfl) : G y cc nL ret R sc Q cu su pc vs (.int z :: .int x :: st) hp n := by
  subst e
  intro p l e s m args below meth c D dA A tF b Z ad H locs ls C X L ex
  exact lv_icmp_lt C.1 C.2.1 hd ht (fun h => kt h p l e s m args below meth c D dA A tF b Z ad H locs ls C X L ex) (fun h => kf h p l e s m args below meth c D dA A tF b Z ad H locs ls C X L ex)

theorem g_icmp_ge {x z : Int32} {off : Int} {tgt pc' : Nat} (hd : decode cc pc = .ok (.if_icmp .ge off, 3)) (ht : (pc : Int) + off = (tgt : Int)) (kt : z ≤ x → G y cc nL ret R sc Q cu su tgt vs st hp n) (kf : ¬ (z ≤ x) → G y cc nL ret R sc Q cu su pc' vs st hp n) (e : pc + 3 = pc' := by rfl) : G y cc nL ret R sc Q cu su pc vs (.int z :: .int x :: st) hp n := by
  subst e
  intro p l e s m args below meth c D dA A tF b Z ad H locs ls C X L ex
  exact lv_icmp_ge C.1 C.2.1 hd ht (fun h => kt h p l e s m args below meth c D dA A tF b Z ad H locs ls C X L ex) (fun h => kf h p l e s m args below meth c D dA A tF b Z ad H locs ls C X L ex)

theorem g_icmp_gt {x z : Int32} {off : Int} {tgt pc' : Nat} (hd : decode cc pc = .ok (.if_icmp .gt off, 3)) (ht : (pc : Int) + off = (tgt : Int)) (kt : z < x → G y cc nL ret R sc Q cu su tgt vs st hp n) (kf : ¬ (z < x) → G y cc nL ret R sc Q cu su pc' vs st hp n) (e : pc + 3 = pc' := by rfl) : G y cc nL ret R sc Q cu su pc vs (.int z :: .int x :: st) hp n := by
  subst e
  intro p l e s m args below meth c D dA A tF b Z ad H locs ls C X L ex
  exact lv_icmp_gt C.1 C.2.1 hd ht (fun h => kt h p l e s m args below meth c D dA A tF b Z ad H locs ls C X L ex) (fun h => kf h p l e s m args below meth c D dA A tF b Z ad H locs ls C X L ex)

theorem g_icmp_le {x z : Int32} {off : Int} {tgt pc' : Nat} (hd : decode cc pc = .ok (.if_icmp .le off, 3)) (ht : (pc : Int) + off = (tgt : Int)) (kt : x ≤ z → G y cc nL ret R sc Q cu su tgt vs st hp n) (kf : ¬ (x ≤ z) → G y cc nL ret R sc Q cu su pc' vs st hp n) (e : pc + 3 = pc' := by rfl) : G y cc nL ret R sc Q cu su pc vs (.int z :: .int x :: st) hp n := by
  subst e
  intro p l e s m args below meth c D dA A tF b Z ad H locs ls C X L ex
  exact lv_icmp_le C.1 C.2.1 hd ht (fun h => kt h p l e s m args below meth c D dA A tF b Z ad H locs ls C X L ex) (fun h => kf h p l e s m args below meth c D dA A tF b Z ad H locs ls C X L ex)

theorem g_goto {off : Int} {tgt : Nat} (hd : decode cc pc = .ok (.goto off, 3)) (ht : (pc : Int) + off = (tgt : Int)) (k : G y cc nL ret R sc Q cu su tgt vs st hp n) : G y cc nL ret R sc Q cu su pc vs st hp n := by
  intro p l e s m args below meth c D dA A tF b Z ad H locs ls C X L ex
  exact lv_goto C.1 C.2.1 hd ht (k p l e s m args below meth c D dA A tF b Z ad H locs ls C X L ex)

theorem g_tabIn {dflt lo hi off : Int} {offs : Array Int} {len tgt : Nat} {x : Int32} (hd : decode cc pc = .ok (.tableswitch dflt lo hi offs, len)) (h1 : ¬ x.toInt < lo) (h2 : ¬ hi < x.toInt) (ho : offs[(x.toInt - lo).toNat]? = some off) (ht : (pc : Int) + off = (tgt : Int)) (k : G y cc nL ret R sc Q cu su tgt vs st hp n) : G y cc nL ret R sc Q cu su pc vs (.int x :: st) hp n := by
  intro p l e s m args below meth c D dA A tF b Z ad H locs ls C X L ex
  exact lv_tableIn C.1 C.2.1 hd h1 h2 ho ht (k p l e s m args below meth c D dA A tF b Z ad H locs ls C X L ex)

theorem g_tabOut {dflt lo hi : Int} {offs : Array Int} {len tgt : Nat} {x : Int32} (hd : decode cc pc = .ok (.tableswitch dflt lo hi offs, len)) (h : x.toInt < lo ∨ hi < x.toInt) (ht : (pc : Int) + dflt = (tgt : Int)) (k : G y cc nL ret R sc Q cu su tgt vs st hp n) : G y cc nL ret R sc Q cu su pc vs (.int x :: st) hp n := by
  intro p l e s m args below meth c D dA A tF b Z ad H locs ls C X L ex
  exact lv_tableOut C.1 C.2.1 hd h ht (k p l e s m args below meth c D dA A tF b Z ad H locs ls C X L ex)

theorem g_iret {x : Int32} (hd : decode cc pc = .ok (.ireturn, 1)) (hr : ret = some .int) (hc : cu ≤ R.cells) (hs : su ≤ R.slots) (hq : Q (some (.int x)) hp n) : G y cc nL ret R sc Q cu su pc vs [.int x] hp n := by
  subst hr
  intro p l e s m args below meth c D dA A tF b Z ad H locs ls C X L ex
  exact W.widen hc hs (ex (some (.int x)) hp n ad H locs ls pc hq hd (Nat.le_refl _) agr.rf X)
theorem g_zret {x : Int32} (hd : decode cc pc = .ok (.ireturn, 1)) (hr : ret = some .boolean) (hx : narrow .boolean (.int x) = .int x) (hc : cu ≤ R.cells) (hs : su ≤ R.slots) (hq : Q (some (.int x)) hp n) : G y cc nL ret R sc Q cu su pc vs [.int x] hp n := by
  subst hr
  intro p l e s m args below meth c D dA A tF b Z ad H locs ls C X L ex
  exact W.widen hc hs (ex (some (.int x)) hp n ad H locs ls pc hq ⟨hd, hx⟩ (Nat.le_refl _) agr.rf X)
theorem g_lret {x : Int64} (hd : decode cc pc = .ok (.lreturn, 1)) (hr : ret = some .long) (hc : cu ≤ R.cells) (hs : su ≤ R.slots) (hq : Q (some (.long x)) hp n) : G y cc nL ret R sc Q cu su pc vs [.long x] hp n := by
  subst hr
  intro p l e s m args below meth c D dA A tF b Z ad H locs ls C X L ex
  exact W.widen hc hs (ex (some (.long x)) hp n ad H locs ls pc hq hd (Nat.le_refl _) agr.rf X)
theorem g_vret (hd : decode cc pc = .ok (.return_, 1)) (hr : ret = none) (hc : cu ≤ R.cells) (hs : su ≤ R.slots) (hq : Q none hp n) : G y cc nL ret R sc Q cu su pc vs [] hp n := by
  subst hr
  intro p l e s m args below meth c D dA A tF b Z ad H locs ls C X L ex
  exact W.widen hc hs (ex none hp n ad H locs ls pc hq hd (Nat.le_refl _) agr.rf X)
theorem g_aret {a : Nat} {ty : FieldType} (hd : decode cc pc = .ok (.areturn, 1)) (hr : ret = some ty) (ht : (∃ C, ty = .object C) ∨ ∃ t, ty = .array t) (hc : cu ≤ R.cells) (hs : su ≤ R.slots) (hq : Q (some (.ref a)) hp n) : G y cc nL ret R sc Q cu su pc vs [.ref a] hp n := by
  subst hr
  intro p l e s m args below meth c D dA A tF b Z ad H locs ls C X L ex
  refine W.widen hc hs (ex (some (.ref a)) hp n ad H locs ls pc hq ?_ (Nat.le_refl _) agr.rf X)
  rcases ht with ⟨C, rfl⟩ | ⟨t, rfl⟩ <;> exact hd
theorem g_widen {cu' su' : Nat} (h1 : cu ≤ cu') (h2 : su ≤ su') (k : G y cc nL ret R sc Q cu' su' pc vs st hp n) : G y cc nL ret R sc Q cu su pc vs st hp n := by
  intro p l e s m args below meth c D dA A tF b Z ad H locs ls C X L ex
  exact W.widen h1 h2 (k p l e s m args below meth c D dA A tF b Z ad H locs ls C X L ex)
theorem g_mono {Q' : Option Value → AH → Nat → Prop} (h : ∀ v hp n, Q' v hp n → Q v hp n) (k : G y cc nL ret R sc Q' cu su pc vs st hp n) : G y cc nL ret R sc Q cu su pc vs st hp n := by
  intro p l e s m args below meth c D dA A tF b Z ad H locs ls C X L ex
  exact k p l e s m args below meth c D dA A tF b Z ad H locs ls C X L (fun v hp' n' ad' H' locs' ls' pc' hq => ex v hp' n' ad' H' locs' ls' pc' (h v hp' n' hq))

/-- i is the place j of a row of N -/
def IX (i : Int32) (j N : Nat) : Prop := vp_in i N ∧ i.toNatClampNeg = j
theorem IX_nI {j N : Nat} (h : j < N) (hN : N < 2 ^ 31) : IX (nI j) j N := ⟨vp_in_nI h hN, nI_clamp (Nat.lt_trans h hN)⟩

theorem g_iald {pc' : Nat} {a N j : Nat} {f : Nat → Int32} {i : Int32} (hd : decode cc pc = .ok (.iaload, 1)) (ha : a < n) (he : hp a = aI N f) (hi : IX i j N) (k : G y cc nL ret R sc Q cu su pc' vs (.int (f j) :: st) hp n) (e : pc + 1 = pc' := by rfl) : G y cc nL ret R sc Q cu su pc vs (.int i :: .ref a :: st) hp n := by
  subst e
  intro p l e s m args below meth c D dA A tF b Z ad H locs ls C X L ex
  obtain ⟨h1, h2⟩ := hi
  subst h2
  have hc := wl_get (dA := dA) (ad := ad) (hp := hp) ha
  rw [he] at hc
  exact va_iald C.1 C.2.1 C.2.2.2.2.2.2.2.2.1 X.1 a 0 hc rfl h1 hd (k p l e s m args below meth c D dA A tF b Z ad H locs ls C X L ex)

theorem g_lald {pc' : Nat} {a N j : Nat} {f : Nat → Int64} {i : Int32} (hd : decode cc pc = .ok (.laload, 1)) (ha : a < n) (he : hp a = aJ N f) (hi : IX i j N) (k : G y cc nL ret R sc Q cu su pc' vs (.long (f j) :: st) hp n) (e : pc + 1 = pc' := by rfl) : G y cc nL ret R sc Q cu su pc vs (.int i :: .ref a :: st) hp n := by
  subst e
  intro p l e s m args below meth c D dA A tF b Z ad H locs ls C X L ex
  obtain ⟨h1, h2⟩ := hi
  subst h2
  have hc := wl_get (dA := dA) (ad := ad) (hp := hp) ha
  rw [he] at hc
  exact va_lald C.1 C.2.1 C.2.2.2.2.2.2.2.2.1 X.1 a 1 hc rfl h1 hd (k p l e s m args below meth c D dA A tF b Z ad H locs ls C X L ex)

theorem g_zald {pc' : Nat} {a N j : Nat} {f : Nat → Int32} {i : Int32} (hd : decode cc pc = .ok (.baload, 1)) (ha : a < n) (he : hp a = aZ N f) (hi : IX i j N) (k : G y cc nL ret R sc Q cu su pc' vs (.int (f j) :: st) hp n) (e : pc + 1 = pc' := by rfl) : G y cc nL ret R sc Q cu su pc vs (.int i :: .ref a :: st) hp n := by
  subst e
  intro p l e s m args below meth c D dA A tF b Z ad H locs ls C X L ex
  obtain ⟨h1, h2⟩ := hi
  subst h2
  have hc := wl_get (dA := dA) (ad := ad) (hp := hp) ha
  rw [he] at hc
  exact va_zald C.1 C.2.1 C.2.2.2.2.2.2.2.2.1 X.1 a 2 hc rfl h1 hd (k p l e s m args below meth c D dA A tF b Z ad H locs ls C X L ex)

theorem g_iast {pc' : Nat} {a N j : Nat} {f : Nat → Int32} {i : Int32} {x : Int32} (hd : decode cc pc = .ok (.iastore, 1)) (ha : a < n) (he : hp a = aI N f) (hi : IX i j N)  (k : G y cc nL ret R sc Q cu su pc' vs st (va_up hp a (aI N (upd f j x))) n) (e : pc + 1 = pc' := by rfl) : G y cc nL ret R sc Q cu su pc vs (.int x :: .int i :: .ref a :: st) hp n := by
  subst e
  intro p l e s m args below meth c D dA A tF b Z ad H locs ls C X L ex
  obtain ⟨h1, h2⟩ := hi
  subst h2
  have hc := wl_get (dA := dA) (ad := ad) (hp := hp) ha
  rw [he] at hc
  refine va_iast C.1 C.2.1 C.2.2.2.2.2.2.2.2.1 X.1 X.2.1 X.2.2.1 a 0 hc rfl h1 hd (fun H1 locs1 hP hD hS => ?_)
  skip
  have hs := wl_set (dA := dA) (ad := ad) (hp := hp) ha (aI N (upd f i.toNatClampNeg x))
  have hP2 : va_P D vwCl (wl dA ad (va_up hp a (aI N (upd f i.toNatClampNeg x))) n) H1 := hs ▸ hP
  have hD2 : va_D A (wl dA ad (va_up hp a (aI N (upd f i.toNatClampNeg x))) n) := hs ▸ hD
  exact k p l e s m args below meth c D dA A tF b Z ad H1 locs1 ls C ⟨hP2, hD2, hS, X.2.2.2⟩ L ex

theorem g_last {pc' : Nat} {a N j : Nat} {f : Nat → Int64} {i : Int32} {x : Int64} (hd : decode cc pc = .ok (.lastore, 1)) (ha : a < n) (he : hp a = aJ N f) (hi : IX i j N)  (k : G y cc nL ret R sc Q cu su pc' vs st (va_up hp a (aJ N (vp_updL f j x))) n) (e : pc + 1 = pc' := by rfl) : G y cc nL ret R sc Q cu su pc vs (.long x :: .int i :: .ref a :: st) hp n := by
  subst e
  intro p l e s m args below meth c D dA A tF b Z ad H locs ls C X L ex
  obtain ⟨h1, h2⟩ := hi
  subst h2
  have hc := wl_get (dA := dA) (ad := ad) (hp := hp) ha
  rw [he] at hc
  refine va_last C.1 C.2.1 C.2.2.2.2.2.2.2.2.1 X.1 X.2.1 X.2.2.1 a 1 hc rfl h1 hd (fun H1 locs1 hP hD hS => ?_)
  skip
  have hs := wl_set (dA := dA) (ad := ad) (hp := hp) ha (aJ N (vp_updL f i.toNatClampNeg x))
  have hP2 : va_P D vwCl (wl dA ad (va_up hp a (aJ N (vp_updL f i.toNatClampNeg x))) n) H1 := hs ▸ hP
  have hD2 : va_D A (wl dA ad (va_up hp a (aJ N (vp_updL f i.toNatClampNeg x))) n) := hs ▸ hD
  exact k p l e s m args below meth c D dA A tF b Z ad H1 locs1 ls C ⟨hP2, hD2, hS, X.2.2.2⟩ L ex

theorem g_zast {pc' : Nat} {a N j : Nat} {f : Nat → Int32} {i : Int32} {x : Int32} (hd : decode cc pc = .ok (.bastore, 1)) (ha : a < n) (he : hp a = aZ N f) (hi : IX i j N) (hx : vp_nar .boolean x = x) (k : G y cc nL ret R sc Q cu su pc' vs st (va_up hp a (aZ N (upd f j x))) n) (e : pc + 1 = pc' := by rfl) : G y cc nL ret R sc Q cu su pc vs (.int x :: .int i :: .ref a :: st) hp n := by
  subst e
  intro p l e s m args below meth c D dA A tF b Z ad H locs ls C X L ex
  obtain ⟨h1, h2⟩ := hi
  subst h2
  have hc := wl_get (dA := dA) (ad := ad) (hp := hp) ha
  rw [he] at hc
  refine va_zast C.1 C.2.1 C.2.2.2.2.2.2.2.2.1 X.1 X.2.1 X.2.2.1 a 2 hc rfl h1 hd (fun H1 locs1 hP hD hS => ?_)
  rw [hx] at hP hD
  have hs := wl_set (dA := dA) (ad := ad) (hp := hp) ha (aZ N (upd f i.toNatClampNeg x))
  have hP2 : va_P D vwCl (wl dA ad (va_up hp a (aZ N (upd f i.toNatClampNeg x))) n) H1 := hs ▸ hP
  have hD2 : va_D A (wl dA ad (va_up hp a (aZ N (upd f i.toNatClampNeg x))) n) := hs ▸ hD
  exact k p l e s m args below meth c D dA A tF b Z ad H1 locs1 ls C ⟨hP2, hD2, hS, X.2.2.2⟩ L ex

theorem g_aaldR {pc' : Nat} {a N j z : Nat} {f : Nat → Option Nat} {i : Int32} (hd : decode cc pc = .ok (.aaload, 1)) (ha : a < n) (he : hp a = aR N f) (hi : IX i j N) (hz : f j = some z) (k : G y cc nL ret R sc Q cu su pc' vs (.ref z :: st) hp n) (e : pc + 1 = pc' := by rfl) : G y cc nL ret R sc Q cu su pc vs (.int i :: .ref a :: st) hp n := by
  subst e
  intro p l e s m args below meth c D dA A tF b Z ad H locs ls C X L ex
  obtain ⟨h1, h2⟩ := hi
  subst h2
  have hc := wl_get (dA := dA) (ad := ad) (hp := hp) ha
  rw [he] at hc
  refine va_aldq C.1 C.2.1 C.2.2.2.2.2.2.2.2.1 X.1 a 3 hc rfl h1 hd ?_
  show W p l e R s m args below meth c H locs cu su Z (F0 m (pc + 1) ls (va_rf ((f i.toNatClampNeg).map ad) :: st.map (trV ad)))
  rw [hz]
  exact (k p l e s m args below meth c D dA A tF b Z ad H locs ls C X L ex)
theorem g_aaldG {pc' : Nat} {a N j z : Nat} {f : Nat → Option Nat} {i : Int32} (hd : decode cc pc = .ok (.aaload, 1)) (ha : a < n) (he : hp a = aG N f) (hi : IX i j N) (hz : f j = some z) (k : G y cc nL ret R sc Q cu su pc' vs (.ref z :: st) hp n) (e : pc + 1 = pc' := by rfl) : G y cc nL ret R sc Q cu su pc vs (.int i :: .ref a :: st) hp n := by
  subst e
  intro p l e s m args below meth c D dA A tF b Z ad H locs ls C X L ex
  obtain ⟨h1, h2⟩ := hi
  subst h2
  have hc := wl_get (dA := dA) (ad := ad) (hp := hp) ha
  rw [he] at hc
  have hlt : i.toNatClampNeg < N := Nat.not_le.mp fun q => h1 (Or.inr q)
  have hcell : H[ad a]? = some (arrV (dA 4) N (fun j => va_rf ((f j).map ad))) := X.1 a _ hc
  refine W.aald (v := va_rf ((f i.toNatClampNeg).map ad)) (ty := .array .long) C.1 C.2.1 hcell ((C.2.2.2.2.2.2.2.2.1.2 4 _ rfl).1 N (fun j => va_rf ((f j).map ad))) rfl (fun q => by cases q) (by rw [arrV_size]; exact h1) (by rw [arrV_read _ _ hlt]) rfl rfl hd ?_
  rw [hz]
  exact (k p l e s m args below meth c D dA A tF b Z ad H locs ls C X L ex)
theorem g_alen {pc' : Nat} {a t : Nat} {x : vp_A} (hd : decode cc pc = .ok (.arraylength, 1)) (ha : a < n) (he : hp a = .inl (t, x)) (ht : t < 5) (k : G y cc nL ret R sc Q cu su pc' vs (.int (nI x.1) :: st) hp n) (e : pc + 1 = pc' := by rfl) : G y cc nL ret R sc Q cu su pc vs (.ref a :: st) hp n := by
  subst e
  intro p l e s m args below meth c D dA A tF b Z ad H locs ls C X L ex
  have hc := wl_get (dA := dA) (ad := ad) (hp := hp) ha
  rw [he] at hc
  have h1 : (trA ad x).1 = x.1 := by rcases x with ⟨N, f | f | f | f | f⟩ <;> rfl
  have h2 : ∃ ty, (tyL dA)[t]? = some (dA t, ty) := by
    match t, ht with
    | 0, _ => exact ⟨_, rfl⟩
    | 1, _ => exact ⟨_, rfl⟩
    | 2, _ => exact ⟨_, rfl⟩
    | 3, _ => exact ⟨_, rfl⟩
    | 4, _ => exact ⟨_, rfl⟩
  obtain ⟨ty, h2⟩ := h2
  refine va_alen C.1 C.2.1 C.2.2.2.2.2.2.2.2.1 X.1 a t hc h2 (v := nI x.1) (by rw [h1]; rfl) hd (k p l e s m args below meth c D dA A tF b Z ad H locs ls C X L ex)

def FL (own : String) (idx ci k : Nat) : Prop := ∃ q, CLS ci q ∧ k < q.2.2 ∧ Cond.fieldLink own idx (q.2.1 k).1 (q.2.1 k).2.1 (q.2.1 k).2.2.1 ∈ gt
def FN (own : String) (idx ci k : Nat) : Prop := ∃ q host, CLS ci q ∧ k < q.2.2 ∧ Cond.fieldLinkNest own idx (q.2.1 k).1 (q.2.1 k).2.1 (q.2.1 k).2.2.1 host ∈ nwl
/-- the type of a field, and whether it is final -/
def FT (ci k : Nat) (ty : FieldType) (fin : Bool) : Prop := ∀ q, vwCl[ci]? = some q → parseFieldDescriptor (q.2.1 k).2.2.1 = some ty ∧ (q.2.1 k).2.2.2 = fin
theorem narrow_tr {ty : FieldType} {v : Value} (ad : Nat → Nat) (h : narrow ty v = v) : narrow ty (trV ad v) = trV ad v := by
  cases v <;> first | exact h | (simp only [trV]; cases ty <;> simp_all [narrow])
theorem fits_tr {ty : FieldType} {v : Value} (ad : Nat → Nat) (h : fits ty v = true) : fits ty (trV ad v) = true := by
  cases v <;> first | exact h | (simp only [trV]; cases ty <;> simp_all [fits])
theorem map_ix {ad : Nat → Nat} {fs : List Value} {k : Nat} {v : Value} (h : fs[k]? = some v) : (fs.map (trV ad))[k]? = some (trV ad v) := by rw [List.getElem?_map, h]; rfl
theorem g_get {pc' : Nat} {ci idx f a : Nat} {fs : List Value} {v : Value} (hl : FL y.cls idx ci f) (hd : decode cc pc = .ok (.getfield idx, 3)) (ha : a < n) (he : hp a = ob ci fs) (hv : fs[f]? = some v) (k : G y cc nL ret R sc Q cu su pc' vs (v :: st) hp n) (e : pc + 3 = pc' := by rfl) : G y cc nL ret R sc Q cu su pc vs (.ref a :: st) hp n := by
  subst e
  intro p l e s m args below meth c D dA A tF b Z ad H locs ls C X L ex
  obtain ⟨q, h1, h2, h3⟩ := hl
  have hc := wl_get (dA := dA) (ad := ad) (hp := hp) ha
  rw [he] at hc
  exact va_get C.1 C.2.1 C.2.2.2.2.2.1 h1.2.1 C.2.2.2.2.1 C.2.2.2.2.2.2.2.2.1 X.1 a hc h1.1 f h2 (C.2.2.2.2.2.1 _ h3) (fun _ h9 => h9) (map_ix hv) hd (k p l e s m args below meth c D dA A tF b Z ad H locs ls C X L ex)
theorem g_getN {pc' : Nat} {ci idx f a : Nat} {fs : List Value} {v : Value} (hl : FN y.cls idx ci f) (hd : decode cc pc = .ok (.getfield idx, 3)) (ha : a < n) (he : hp a = ob ci fs) (hv : fs[f]? = some v) (k : G y cc nL ret R sc Q cu su pc' vs (v :: st) hp n) (e : pc + 3 = pc' := by rfl) : G y cc nL ret R sc Q cu su pc vs (.ref a :: st) hp n := by
  subst e
  intro p l e s m args below meth c D dA A tF b Z ad H locs ls C X L ex
  obtain ⟨q, host, h1, h2, h3⟩ := hl
  have hc := wl_get (dA := dA) (ad := ad) (hp := hp) ha
  rw [he] at hc
  exact va_getN C.1 C.2.1 C.2.2.2.2.2.1 h1.2.1 C.2.2.2.2.1 C.2.2.2.2.2.2.2.2.1 X.1 a hc h1.1 f h2 (va_Nw.use rfl (C.2.2.2.2.2.2.2.2.2.1.1 _ h3)) (fun _ h9 => h9) (map_ix hv) hd (k p l e s m args below meth c D dA A tF b Z ad H locs ls C X L ex)

theorem g_put {pc' : Nat} {ci idx f a : Nat} {fs : List Value} {v : Value} {ty : FieldType} (hl : FL y.cls idx ci f) (ht : FT ci f ty false)  (hd : decode cc pc = .ok (.putfield idx, 3)) (ha : a < n) (he : hp a = ob ci fs) (hf : f < fs.length) (hn : narrow ty v = v) (hg : fits ty v = true) (k : G y cc nL ret R sc Q cu su pc' vs st (va_up hp a (ob ci (fs.set f v))) n) (e : pc + 3 = pc' := by rfl) : G y cc nL ret R sc Q cu su pc vs (v :: .ref a :: st) hp n := by
  subst e
  intro p l e s m args below meth c D dA A tF b Z ad H locs ls C X L ex
  obtain ⟨q, h1, h2, h3⟩ := hl
  obtain ⟨ty0, hty0⟩ := h1.2.2.1
  have hc := wl_get (dA := dA) (ad := ad) (hp := hp) ha
  rw [he] at hc
  refine va_put C.1 C.2.1 C.2.2.2.2.2.1 h1.2.1 ty0 hty0 h1.2.2.2 C.2.2.2.2.1 C.2.2.2.2.2.2.2.2.1 X.1 X.2.1 X.2.2.1 a hc h1.1 f h2 (C.2.2.2.2.2.1 _ h3) (fun _ h9 => h9) (ht q h1.1).2 (ht q h1.1).1 (narrow_tr ad hn) (fits_tr ad hg) (by rw [List.length_map]; exact hf) hd (fun H1 locs1 hP hD hS => ?_)
  have hs := wl_set (dA := dA) (ad := ad) (hp := hp) ha (ob ci (fs.set f v))
  have e1 : (fs.map (trV ad)).set f (trV ad v) = (fs.set f v).map (trV ad) := by rw [List.map_set]
  rw [e1] at hP hD
  have hP2 : va_P D vwCl (wl dA ad (va_up hp a (ob ci (fs.set f v))) n) H1 := hs ▸ hP
  have hD2 : va_D A (wl dA ad (va_up hp a (ob ci (fs.set f v))) n) := hs ▸ hD
  exact k p l e s m args below meth c D dA A tF b Z ad H1 locs1 ls C ⟨hP2, hD2, hS, X.2.2.2⟩ L ex

theorem g_putF {pc' : Nat} {ci idx f a : Nat} {fs : List Value} {v : Value} {ty : FieldType} (hl : FL y.cls idx ci f) (ht : FT ci f ty true) (hi : y.name = "<init>") (ho : ∀ q, vwCl[ci]? = some q → (q.2.1 f).1 = y.cls) (hd : decode cc pc = .ok (.putfield idx, 3)) (ha : a < n) (he : hp a = ob ci fs) (hf : f < fs.length) (hn : narrow ty v = v) (hg : fits ty v = true) (k : G y cc nL ret R sc Q cu su pc' vs st (va_up hp a (ob ci (fs.set f v))) n) (e : pc + 3 = pc' := by rfl) : G y cc nL ret R sc Q cu su pc vs (v :: .ref a :: st) hp n := by
  subst e
  intro p l e s m args below meth c D dA A tF b Z ad H locs ls C X L ex
  obtain ⟨q, h1, h2, h3⟩ := hl
  obtain ⟨ty0, hty0⟩ := h1.2.2.1
  have hc := wl_get (dA := dA) (ad := ad) (hp := hp) ha
  rw [he] at hc
  refine va_putF C.1 C.2.1 C.2.2.2.2.2.1 h1.2.1 ty0 hty0 h1.2.2.2 C.2.2.2.2.1 C.2.2.2.2.2.2.2.2.1 X.1 X.2.1 X.2.2.1 a hc h1.1 f h2 (C.2.2.2.2.2.1 _ h3) (fun _ h9 => h9) (ht q h1.1).2 (C.2.2.2.2.2.2.2.1.trans hi) (ho q h1.1) (ht q h1.1).1 (narrow_tr ad hn) (fits_tr ad hg) (by rw [List.length_map]; exact hf) hd (fun H1 locs1 hP hD hS => ?_)
  have hs := wl_set (dA := dA) (ad := ad) (hp := hp) ha (ob ci (fs.set f v))
  have e1 : (fs.map (trV ad)).set f (trV ad v) = (fs.set f v).map (trV ad) := by rw [List.map_set]
  rw [e1] at hP hD
  have hP2 : va_P D vwCl (wl dA ad (va_up hp a (ob ci (fs.set f v))) n) H1 := hs ▸ hP
  have hD2 : va_D A (wl dA ad (va_up hp a (ob ci (fs.set f v))) n) := hs ▸ hD
  exact k p l e s m args below meth c D dA A tF b Z ad H1 locs1 ls C ⟨hP2, hD2, hS, X.2.2.2⟩ L ex

theorem g_putN {pc' : Nat} {ci idx f a : Nat} {fs : List Value} {v : Value} {ty : FieldType} (hl : FN y.cls idx ci f) (ht : FT ci f ty false)  (hd : decode cc pc = .ok (.putfield idx, 3)) (ha : a < n) (he : hp a = ob ci fs) (hf : f < fs.length) (hn : narrow ty v = v) (hg : fits ty v = true) (k : G y cc nL ret R sc Q cu su pc' vs st (va_up hp a (ob ci (fs.set f v))) n) (e : pc + 3 = pc' := by rfl) : G y cc nL ret R sc Q cu su pc vs (v :: .ref a :: st) hp n := by
  subst e
  intro p l e s m args below meth c D dA A tF b Z ad H locs ls C X L ex
  obtain ⟨q, host, h1, h2, h3⟩ := hl
  obtain ⟨ty0, hty0⟩ := h1.2.2.1
  have hc := wl_get (dA := dA) (ad := ad) (hp := hp) ha
  rw [he] at hc
  refine va_putN C.1 C.2.1 C.2.2.2.2.2.1 h1.2.1 ty0 hty0 h1.2.2.2 C.2.2.2.2.1 C.2.2.2.2.2.2.2.2.1 X.1 X.2.1 X.2.2.1 a hc h1.1 f h2 (va_Nw.use rfl (C.2.2.2.2.2.2.2.2.2.1.1 _ h3)) (fun _ h9 => h9) (ht q h1.1).2 (ht q h1.1).1 (narrow_tr ad hn) (fits_tr ad hg) (by rw [List.length_map]; exact hf) hd (fun H1 locs1 hP hD hS => ?_)
  have hs := wl_set (dA := dA) (ad := ad) (hp := hp) ha (ob ci (fs.set f v))
  have e1 : (fs.map (trV ad)).set f (trV ad v) = (fs.set f v).map (trV ad) := by rw [List.map_set]
  rw [e1] at hP hD
  have hP2 : va_P D vwCl (wl dA ad (va_up hp a (ob ci (fs.set f v))) n) H1 := hs ▸ hP
  have hD2 : va_D A (wl dA ad (va_up hp a (ob ci (fs.set f v))) n) := hs ▸ hD
  exact k p l e s m args below meth c D dA A tF b Z ad H1 locs1 ls C ⟨hP2, hD2, hS, X.2.2.2⟩ L ex

theorem g_getsF {pc' : Nat} {idx : Nat} (hw : Cond.fieldLink y.cls idx "FiveDice$Tally" "FACTORIAL" "[I" ∈ gt) (hd : decode cc pc = .ok (.getstatic idx, 3)) (k : G y cc nL ret R sc Q cu su pc' vs (.ref xF :: st) hp n) (e : pc + 3 = pc' := by rfl) : G y cc nL ret R sc Q cu su pc vs st hp n := by
  subst e
  intro p l e s m args below meth c D dA A tF b Z ad H locs ls C X L ex
  refine va_gets C.1 C.2.1 C.2.2.2.2.2.2.2.2.2.2.1.1 X.2.2.1 C.2.2.2.2.1 (C.2.2.2.2.2.1 _ hw) (fun _ h9 => h9) hd ?_
  have h := k p l e s m args below meth c D dA A tF b Z ad H locs ls C X L ex
  rw [← X.2.2.2.1]
  exact h
theorem g_fac {pc' : Nat} {i : Int32} {j : Nat} {x : Int32} (hd : decode cc pc = .ok (.iaload, 1)) (hi : IX i j 6) (hx : facV j = .int x) (k : G y cc nL ret R sc Q cu su pc' vs (.int x :: st) hp n) (e : pc + 1 = pc' := by rfl) : G y cc nL ret R sc Q cu su pc vs (.int i :: .ref xF :: st) hp n := by
  subst e
  intro p l e s m args below meth c D dA A tF b Z ad H locs ls C X L ex
  obtain ⟨h1, h2⟩ := hi
  subst h2
  have hT := C.2.2.2.2.2.2.2.2.2.2.1.2
  rw [← X.2.2.2.1] at hT
  exact va_ti C.1 C.2.1 hT X.2.2.1 h1 hx hd (k p l e s m args below meth c D dA A tF b Z ad H locs ls C X L ex)
theorem g_sld {pc' : Nat} {i : Int32} {j N : Nat} {xs : Nat → Int32} (hs : sc = some (N, xs)) (hd : decode cc pc = .ok (.iaload, 1)) (hi : IX i j N) (k : G y cc nL ret R sc Q cu su pc' vs (.int (xs j) :: st) hp n) (e : pc + 1 = pc' := by rfl) : G y cc nL ret R sc Q cu su pc vs (.int i :: .ref xS :: st) hp n := by
  subst e
  intro p l e s m args below meth c D dA A tF b Z ad H locs ls C X L ex
  obtain ⟨h1, h2⟩ := hi
  subst h2
  have hT := C.2.2.2.2.2.2.2.2.2.2.2.2 N xs hs
  rw [← X.2.2.2.2.1] at hT
  exact va_ti C.1 C.2.1 hT X.2.2.1 h1 rfl hd (k p l e s m args below meth c D dA A tF b Z ad H locs ls C X L ex)
theorem g_slen {pc' : Nat} {N : Nat} {xs : Nat → Int32} (hs : sc = some (N, xs)) (hd : decode cc pc = .ok (.arraylength, 1)) (k : G y cc nL ret R sc Q cu su pc' vs (.int (nI N) :: st) hp n) (e : pc + 1 = pc' := by rfl) : G y cc nL ret R sc Q cu su pc vs (.ref xS :: st) hp n := by
  subst e
  intro p l e s m args below meth c D dA A tF b Z ad H locs ls C X L ex
  have hT := C.2.2.2.2.2.2.2.2.2.2.2.2 N xs hs
  rw [← X.2.2.2.2.1] at hT
  exact va_tlen C.1 C.2.1 hT X.2.2.1 rfl hd (k p l e s m args below meth c D dA A tF b Z ad H locs ls C X L ex)

end GR
end
section
/-! calls: a contract CT is the judgement at a method's entry; it gives the kit's Met, and a call row of G -/
def enA : List Value → List Value
  | [] => []
  | v :: vs => if v.category = 2 then v :: uu :: enA vs else v :: enA vs
def enL (nL : Nat) (args : List Value) : List Value := enA args ++ List.replicate (nL - (enA args).length) uu
def CT (y : MethodName) (cc : ByteArray) (nL : Nat) (ret : Option FieldType) (rm : Room) (args : List Value) (hp : AH) (n : Nat) (Q : Option Value → AH → Nat → Prop) : Prop := G y cc nL ret rm none Q 0 0 0 (enL nL args) [] hp n
theorem en_mem {ad : Nat → Nat} : ∀ (args : List Value) (k i : Nat) (v : Value), (enA args)[i]? = some v → v ≠ uu → (k + i, trV ad v) ∈ lv_args k (args.map (trV ad))
  | [], k, i, v, h, _ => by simp [enA] at h
  | a :: as, k, i, v, h, hu => by
    unfold enA at h
    show (k + i, trV ad v) ∈ (k, trV ad a) :: lv_args (if (trV ad a).category = 2 then k + 2 else k + 1) (as.map (trV ad))
    rw [trV_cat]
    by_cases c : a.category = 2
    · rw [if_pos c] at h ⊢
      match i, h with
      | 0, h => simp at h; subst h; exact List.mem_cons_self
      | 1, h => simp at h; exact absurd h.symm hu
      | j + 2, h =>
        have h2 : (enA as)[j]? = some v := by simpa using h
        have := en_mem (ad := ad) as (k + 2) j v h2 hu
        rw [show k + (j + 2) = k + 2 + j by omega]
        exact List.mem_cons_of_mem _ this
    · rw [if_neg c] at h ⊢
      match i, h with
      | 0, h => simp at h; subst h; exact List.mem_cons_self
      | j + 1, h =>
        have h2 : (enA as)[j]? = some v := by simpa using h
        have := en_mem (ad := ad) as (k + 1) j v h2 hu
        rw [show k + (j + 1) = k + 1 + j by omega]
        exact List.mem_cons_of_mem _ this
theorem en_len {ad : Nat → Nat} : ∀ (args : List Value), (lg_sl (args.map (trV ad))).length = (enA args).length
  | [] => rfl
  | a :: as => by
    have ih := en_len (ad := ad) as
    have e : lg_sl ((a :: as).map (trV ad)) = (if (trV ad a).category = 2 then [.val (trV ad a), .second] else [.val (trV ad a)]) ++ lg_sl (as.map (trV ad)) := rfl
    have e2 : enA (a :: as) = if a.category = 2 then a :: uu :: enA as else a :: enA as := rfl
    rw [e, trV_cat, List.length_append, ih, e2]
    by_cases c : a.category = 2
    · simp [c]; omega
    · simp [c]; omega
theorem en_LV {ad : Nat → Nat} {args : List Value} {nL : Nat} {ls : Array Slot} (h : lv_has ls nL (lv_args 0 (args.map (trV ad)))) : LV ad ls nL (enL nL args) := ⟨h.1, h.2.1, fun q hq => by
  obtain ⟨i, w⟩ := q
  obtain ⟨v, h1, h2, rfl⟩ := lvl_mem.mp hq
  refine h.2.2 _ ?_
  unfold enL at h1
  by_cases l : i < (enA args).length
  · rw [List.getElem?_append_left l] at h1
    have := en_mem (ad := ad) args 0 i v h1 h2
    rwa [Nat.zero_add] at this
  · rw [List.getElem?_append_right (Nat.le_of_not_lt l)] at h1
    have := (List.mem_replicate.mp (List.mem_of_getElem? h1)).2
    exact absurd this h2⟩
def PW (D : va_G) (dA : Nat → ClassId) (ad : Nat → Nat) (hp : AH) (n sz : Nat) (U : State) : Prop := U.heap.size = sz ∧ va_P D vwCl (wl dA ad hp n) U.heap ∧ va_D (fun _ => True) (wl dA ad hp n) ∧ va_K D vwCl (tyL dA) U ∧ NW U ∧ SF (ad xF) (va_A (wl dA ad hp n) sz) U U.heap
def QW (D : va_G) (dA : Nat → ClassId) (ad : Nat → Nat) (hp : AH) (n sz : Nat) (Q : Option Value → AH → Nat → Prop) : Array Value → State → Outcome → State → Prop := fun _ st oc t =>
  (∃ (v : Option Value) (hp' : AH) (n' : Nat) (ad' : Nat → Nat), oc = .returned (v.map (trV ad')) ∧ Q v hp' n' ∧ n ≤ n' ∧ n' ≤ 1000000 ∧ agr n n' ad ad' ∧ va_P D vwCl (wl dA ad' hp' n') t.heap ∧ va_D (va_A (wl dA ad hp n) sz) (wl dA ad' hp' n')) ∧ va_F (va_A (wl dA ad hp n) sz) st t
set_option maxHeartbeats 1000000 in
theorem ct_met {y : MethodName} {cc : ByteArray} {nL : Nat} {ret : Option FieldType} {rm : Room} {args : List Value} {hp : AH} {n : Nat} {Q : Option Value → AH → Nat → Prop} (hy : plainName y.cls = true) (hlen : (enA args).length ≤ nL) (h : CT y cc nL ret rm args hp n Q) (l : Launch) (D : va_G) (dA : Nat → ClassId) (ad : Nat → Nat) (sz : Nat) (hn : n ≤ 1000000) :
    Met l y (.code y cc nL ret :: gt) rm (va_Pc (args.map (trV ad)) (PW D dA ad hp n sz)) (QW D dA ad hp n sz Q) rm.cells rm.slots (va_A (wl dA ad hp n) sz) := by
  refine Met.ofW (cc := cc) (maxL := nL) (ret := ret) hy rfl ?_
  intro p e s m args' below meth c s₁ B hml hv
  obtain ⟨rfl, hsz, hP, hD0, hK, hN, hSF⟩ := hv
  subst hsz
  have hD := hD0.self (sz := s.heap.size)
  have hl := lv_entry (args.map (trV ad)) (n := nL) (by rw [en_len]; exact hlen)
  rw [lg_entry_eq]
  generalize (lg_sl (args.map (trV ad)) ++ List.replicate (nL - (lg_sl (args.map (trV ad))).length) Slot.unset).toArray = ls at hl ⊢
  have hts := atoms_spec (ws := Cond.code y cc nL ret :: gt) B.pre
  have hnm : meth.name = y.name := (name_of_methodNamed B.named B.method).1
  refine h p l e s m _ below meth c D dA (va_A (wl dA ad hp n) s.heap.size) (ad xF) (ad xS) _ ad s.heap [] ls ⟨B.exec, B.bytes, B.returns, hml, findClass_of_methodNamed B.named, fun w hw => hts w (List.mem_cons_of_mem _ hw), B.notSynchronized, hnm, hK, hN, hSF, fun q hq => Or.inr hq, fun L xs q => by cases q⟩ ⟨hP, hD, va_S.rf, rfl, rfl, hn⟩ (en_LV hl) ?_
  intro v hp' n' ad' H' locs' ls' pc' hQ hR hn' hag X
  have hq : ∀ t : State, t.heap = H' → QW D dA ad hp n s.heap.size Q (args.map (trV ad)).toArray s (.returned (v.map (trV ad'))) t := fun t ht => ⟨⟨v, hp', n', ad', rfl, hQ, hn', X.2.2.2.2.2, hag, by rw [ht]; exact X.1, X.2.1⟩, X.2.2.1.F ht⟩
  have hf : ∀ q ∈ locs', va_A (wl dA ad hp n) s.heap.size q.base := X.2.2.1.2.2
  have hlocks := B.notSynchronized
  cases ret with
  | none =>
    cases v with
    | none => exact W.vret B.exec B.bytes B.returns (fun t ht _ => hq t ht) hf hR
    | some v => exact hR.elim
  | some ty =>
    cases v with
    | none => cases ty <;> exact hR.elim
    | some v =>
      cases ty <;> cases v <;> first
        | exact hR.elim
        | exact W.iret B.exec B.bytes B.returns (fun t ht _ => hq t ht) hf hR
        | exact W.zret B.exec B.bytes B.returns hR.2 (fun t ht _ => hq t ht) hf hR.1
        | exact W.lret B.exec B.bytes B.returns (fun t ht _ => hq t ht) hf hR
        | exact W.aret B.exec B.bytes B.returns (Or.inl ⟨_, rfl⟩) (Or.inr ⟨_, rfl⟩) (fun t ht _ => hq t ht) hf hR
        | exact W.aret B.exec B.bytes B.returns (Or.inr ⟨_, rfl⟩) (Or.inr ⟨_, rfl⟩) (fun t ht _ => hq t ht) hf hR
theorem PW_blind {D : va_G} {dA : Nat → ClassId} {ad : Nat → Nat} {hp : AH} {n sz : Nat} {av : List Value} : FrameBlind (va_Pc av (PW D dA ad hp n sz)) := fun a U g mk q => by
  obtain ⟨q0, q1, qP, qD, qK, qN, qS⟩ := q
  exact ⟨q0, q1, qP, qD, va_K.moved (u := U) (U := U.calling g mk a) (Vm.Alike.refl U.vm) qK, NW.same (s := U) (U := U.calling g mk a) rfl qN, va_Z.moved (u := U) (U := U.calling g mk a) (Vm.Alike.refl U.vm) qS.1, va_T.moved (u := U) (U := U.calling g mk a) (Vm.Alike.refl U.vm) qS.2⟩
/-- the callee's start out of the caller's stand -/
theorem PW_of {y : MethodName} {cc : ByteArray} {nL : Nat} {ret : Option FieldType} {sc : SC} {p : Program} {s : State} {m : MethodId} {args : Array Value} {meth : Method} {c : Code} {D : va_G} {dA : Nat → ClassId} {A : Nat → Prop} {tF b : Nat} {ad : Nat → Nat} {H : Heap} {locs : List Loc} {hp : AH} {n : Nat}
    (C : Cx y cc nL ret sc p s m args meth c D dA A tF b) (X : Dy D dA A tF b s ad H locs hp n) {U : State} (hU : U.heap = H) (hW : s.WarmedH U.vm) : PW D dA ad hp n H.size U := by
  have hA1 : ∀ q, va_A (wl dA ad hp n) H.size q → A q := fun q h => by
    rcases h with ⟨k, e, h⟩ | h
    · exact X.2.1.2 k (q, e) h
    · exact C.2.2.2.2.2.2.2.2.2.2.2.1 q (Nat.le_trans X.2.2.1.1 h)
  have hSF := C.2.2.2.2.2.2.2.2.2.2.1
  have hk := X.2.2.1.2.1
  refine ⟨by rw [hU], by rw [hU]; exact X.1, X.2.1.weaken (fun _ _ _ _ => trivial), va_K.moved hW.alike C.2.2.2.2.2.2.2.2.1, NW.warm hW C.2.2.2.2.2.2.2.2.2.1, ?_, ?_⟩
  · rw [X.2.2.2.1, hU]
    exact ((hSF.1.kept hk).narrow hA1).moved hW.alike
  · rw [X.2.2.2.1, hU]
    exact ((hSF.2.kept hk).narrow hA1).moved hW.alike
/-- behind a call -/
theorem ga_back {y : MethodName} {cc : ByteArray} {nL : Nat} {ret : Option FieldType} {R : Room} {sc : SC} {Q : Option Value → AH → Nat → Prop} {cu su pc : Nat} {vs st st0 : List Value} {hp : AH} {n : Nat} {p : Program} {l : Launch} {e : Env} {s : State} {m : MethodId} {args : Array Value} {below : List Frame} {meth : Method} {c : Code} {D : va_G} {dA : Nat → ClassId} {A : Nat → Prop} {tF b : Nat} {Z : State → Prop} {ad : Nat → Nat} {H : Heap} {locs : List Loc} {ls : Array Slot} {mc ms : Nat} {Qc : Option Value → AH → Nat → Prop} {av : Array Value}
    (C : Cx y cc nL ret sc p s m args meth c D dA A tF b) (X : Dy D dA A tF b s ad H locs hp n) (L : LV ad ls nL vs)
    (ex : ∀ (v : Option Value) (hp' : AH) (n' : Nat) (ad' : Nat → Nat) (H' : Heap) (locs' : List Loc) (ls' : Array Slot) (pc' : Nat), Q v hp' n' → RetOK cc pc' ret v → n ≤ n' → agr n n' ad ad' → Dy D dA A tF b s ad' H' locs' hp' n' → W p l e R s m args below meth c H' locs' R.cells R.slots Z (F0 m pc' ls' (v.toList.map (trV ad'))))
    (hr : va_Run p l e R s m args below meth c H locs cu su mc ms (F0 m pc ls st0) (st.map (trV ad)) (QW D dA ad hp n H.size Qc av) (va_A (wl dA ad hp n) H.size))
    (hw : ∀ v hp' n', Qc v hp' n' → n' = n ∨ ((∀ v ∈ vs, wfv n v) ∧ ∀ v ∈ st, wfv n v))
    (k : ∀ v hp' n', Qc v hp' n' → n ≤ n' → G y cc nL ret R sc Q (cu + mc) (su + ms) (pc + 3) vs (v.toList ++ st) hp' n') : W p l e R s m args below meth c H locs cu su Z (F0 m pc ls st0) := by
  have hA1 : ∀ q, va_A (wl dA ad hp n) H.size q → A q := fun q h => by
    rcases h with ⟨k, e, h⟩ | h
    · exact X.2.1.2 k (q, e) h
    · exact C.2.2.2.2.2.2.2.2.2.2.2.1 q (Nat.le_trans X.2.2.1.1 h)
  have hS := X.2.2.1
  intro T hT XT
  obtain ⟨v9, st₀, t, T', L9, h0, X', hL, e1, e2, ⟨⟨v, hp', n', ad', hv, hp, hn, hn6, hag, hP1, hD1⟩, hz, hk⟩, stp⟩ := hr T hT XT
  rw [h0] at hz hk
  have hv' : v9 = v.map (trV ad') := by cases hv; rfl
  subst hv'
  have hS' : va_S A s.heap T'.heap (locs ++ L9) := ⟨Nat.le_trans hS.1 (by rw [e1]; exact hz), fun q h1 h2 => by rw [e1, hk q (Nat.lt_of_lt_of_le h1 hS.1) (fun z => h2 (hA1 q z))]; exact hS.2.1 q h1 h2, fun q hq => by
      rcases List.mem_append.mp hq with h | h
      · exact hS.2.2 q h
      · exact hA1 _ (hL q h)⟩
  have hstv : LV ad' ls nL vs ∧ st.map (trV ad') = st.map (trV ad) := by
    rcases hw v hp' n' hp with h | ⟨h1, h2⟩
    · subst h
      have e9 := hag.eq
      subst e9
      exact ⟨L, rfl⟩
    · exact ⟨LV_agr L hag hn6 h1, List.map_congr_left fun v hv => trV_agr hag hn6 (h2 v hv)⟩
  have hx : n ≤ 1000000 := X.2.2.2.2.2
  have hDy : Dy D dA A tF b s ad' T'.heap (locs ++ L9) hp' n' := ⟨by rw [e1]; exact hP1, hD1.weaken (fun k q _ h => hA1 q.1 h), hS', by rw [hag xF (Or.inr (by show n' ≤ 1000000; omega))]; exact X.2.2.2.1, by rw [hag xS (Or.inr (by show n' ≤ 1000001; omega))]; exact X.2.2.2.2.1, hn6⟩
  have K := k v hp' n' hp hn p l e s m args below meth c D dA A tF b Z ad' T'.heap (locs ++ L9) ls C hDy hstv.1 (fun v2 hp2 n2 ad2 H2 locs2 ls2 pc2 q1 q2 q3 q4 q5 => ex v2 hp2 n2 ad2 H2 locs2 ls2 pc2 q1 q2 (Nat.le_trans hn q3) (hag.tr q4 hn q3) q5) T' rfl X'
  obtain ⟨t2, a1, b1⟩ := K
  refine ⟨t2, stp t2 ?_, b1⟩
  have e5 : (v.toList ++ st).map (trV ad') = (v.map (trV ad')).toList ++ st.map (trV ad) := by
    rw [List.map_append, hstv.2]
    cases v <;> rfl
  rw [e5] at a1
  exact a1

section GC
variable {y : MethodName} {cc : ByteArray} {nL : Nat} {ret : Option FieldType} {R : Room} {sc : SC} {Q : Option Value → AH → Nat → Prop} {cu su pc : Nat} {vs st : List Value} {hp : AH} {n : Nat}
/-- what the tables say of a callee -/
def CW (own : String) (idx : Nat) (y' : MethodName) (cc' : ByteArray) (nL' : Nat) (ret' : Option FieldType) (na : Nat) : Prop := Cond.methodLink own idx y' ∈ gt ∧ Cond.initialized y'.cls ∈ gt ∧ Cond.code y' cc' nL' ret' ∈ gt ∧ plainName y'.cls = true ∧ y'.cls ≠ "java/lang/invoke/MethodHandle" ∧ y'.cls ≠ "java/lang/invoke/VarHandle" ∧ (parseMethodDescriptor y'.desc).map (fun d => d.parameters.length) = some na
def CWN (own : String) (idx : Nat) (y' : MethodName) (cc' : ByteArray) (nL' : Nat) (ret' : Option FieldType) (na : Nat) : Prop := (∃ host, Cond.methodLinkNest own idx y' host ∈ nwl) ∧ Cond.initialized y'.cls ∈ gt ∧ Cond.code y' cc' nL' ret' ∈ gt ∧ plainName y'.cls = true ∧ y'.cls ≠ "java/lang/invoke/MethodHandle" ∧ y'.cls ≠ "java/lang/invoke/VarHandle" ∧ (parseMethodDescriptor y'.desc).map (fun d => d.parameters.length) = some na
def CR (R rm : Room) (nL' cu su : Nat) : Prop := (rm.frames + 1 ≤ R.frames ∧ 8 + (nL' + 11) + rm.locals ≤ R.locals) ∧ cu + rm.cells ≤ R.cells ∧ su + rm.slots ≤ R.slots
theorem gt_good {y' : MethodName} {cc' : ByteArray} {nL' : Nat} {ret' : Option FieldType} (h : Cond.code y' cc' nL' ret' ∈ gt) : GoodIn gt (Cond.code y' cc' nL' ret' :: gt) := fun w hw => by
  have hw' : w ∈ gt := by
    rcases List.mem_cons.mp hw with h1 | h1
    · rw [h1]; exact h
    · exact h1
  exact ⟨hw', good_of_word (List.mem_filter.mp hw').2⟩
theorem sum_cat (ad : Nat → Nat) (st : List Value) : ((st.map (trV ad)).map fun v => v.category).sum = (st.map fun v => v.category).sum := by
  rw [List.map_map]
  congr 1
  apply List.map_congr_left
  intro v _
  exact trV_cat ad v
theorem ga_V {pc' : Nat} {y' : MethodName} {cc' : ByteArray} {nL' idx a ci na : Nat} {ret' : Option FieldType} {rm : Room} {As fs : List Value} {qc : vw_C} {Qc : Option Value → AH → Nat → Prop} (hcw : CW y.cls idx y' cc' nL' ret' na) (hin : Cond.instanceMethod y' ∈ gt) (hsel : Cond.selects y'.cls y' y' ∈ gt) (hct : CT y' cc' nL' ret' rm (.ref a :: As) hp n Qc) (hR : CR R rm nL' cu su) (hcat : (st.map fun v => v.category).sum ≤ 8) (hna : As.length = na) (hen : (enA (.ref a :: As)).length ≤ nL')
    (hd : decode cc pc = .ok (.invokevirtual idx, 3)) (ha : a < n) (he : hp a = ob ci fs) (hq : vwCl[ci]? = some qc) (hqc : qc.1 = y'.cls)
    (hw : ∀ v hp' n', Qc v hp' n' → n' = n ∨ ((∀ v ∈ vs, wfv n v) ∧ ∀ v ∈ st, wfv n v))
    (k : ∀ v hp' n', Qc v hp' n' → n ≤ n' → G y cc nL ret R sc Q (cu + rm.cells) (su + rm.slots) pc' vs (v.toList ++ st) hp' n') (e : pc + 3 = pc' := by rfl) : G y cc nL ret R sc Q cu su pc vs (As.reverse ++ .ref a :: st) hp n := by
  subst e
  intro p l e s m args below meth c D dA A tF b Z ad H locs ls C X L ex
  have hM := ct_met hcw.2.2.2.1 hen hct l D dA ad H.size X.2.2.2.2.2
  have hc := wl_get (dA := dA) (ad := ad) (hp := hp) ha
  rw [he] at hc
  have hrecv := va_recv C.2.2.2.2.2.2.2.2.1 X.1 hq hc
  rw [hqc] at hrecv
  have ht := C.2.2.2.2.2.1
  have cw : CallW R s args y.cls y'.cls idx y' cc' nL' ret' (Cond.code y' cc' nL' ret' :: gt) rm rm.cells rm.slots na := ⟨callB_of na ht (gt_good hcw.2.2.1) rfl rfl rfl (ht _ hcw.2.1) (ht _ hcw.1) hcw.2.2.2.2 hR.1, ht _ hin, ht _ hsel⟩
  have hrun := va_runV (e := e) (below := below) (meth := meth) (locs := locs) (cells := cu) (slots := su) (g := F0 m pc ls ((As.reverse ++ .ref a :: st).map (trV ad))) (As := As.map (trV ad)) (b := ad a) (rest := st.map (trV ad)) ⟨C.1, C.2.1, C.2.2.2.1, C.2.2.2.2.1, ht⟩ hM cw ⟨PW_blind, hrecv, fun U hU hW => ⟨rfl, PW_of C X hU hW⟩⟩ rfl (by rw [List.length_map]; exact hna) L.1 (by show (As.reverse ++ .ref a :: st).map (trV ad) = _; rw [List.map_append, List.map_reverse]; rfl) (lv_room (by rw [sum_cat]; exact hcat)) hd hR.2
  exact ga_back C X L ex hrun hw k
theorem ga_S {pc' : Nat} {y' : MethodName} {cc' : ByteArray} {nL' idx na : Nat} {ret' : Option FieldType} {rm : Room} {As : List Value} {Qc : Option Value → AH → Nat → Prop} (hcw : CW y.cls idx y' cc' nL' ret' na) (hst : Cond.static y' ∈ gt) (hct : CT y' cc' nL' ret' rm As hp n Qc) (hR : CR R rm nL' cu su) (hcat : (st.map fun v => v.category).sum ≤ 8) (hna : As.length = na) (hen : (enA As).length ≤ nL')
    (hd : decode cc pc = .ok (.invokestatic idx, 3))
    (hw : ∀ v hp' n', Qc v hp' n' → n' = n ∨ ((∀ v ∈ vs, wfv n v) ∧ ∀ v ∈ st, wfv n v))
    (k : ∀ v hp' n', Qc v hp' n' → n ≤ n' → G y cc nL ret R sc Q (cu + rm.cells) (su + rm.slots) pc' vs (v.toList ++ st) hp' n') (e : pc + 3 = pc' := by rfl) : G y cc nL ret R sc Q cu su pc vs (As.reverse ++ st) hp n := by
  subst e
  intro p l e s m args below meth c D dA A tF b Z ad H locs ls C X L ex
  have hM := ct_met hcw.2.2.2.1 hen hct l D dA ad H.size X.2.2.2.2.2
  have ht := C.2.2.2.2.2.1
  have hrun := va_runS (e := e) (below := below) (meth := meth) (locs := locs) (cells := cu) (slots := su) (g := F0 m pc ls ((As.reverse ++ st).map (trV ad))) (As := As.map (trV ad)) (rest := st.map (trV ad)) ⟨C.1, C.2.1, C.2.2.2.1, C.2.2.2.2.1, ht⟩ hM ⟨callB_of na ht (gt_good hcw.2.2.1) rfl rfl rfl (ht _ hcw.2.1) (ht _ hcw.1) hcw.2.2.2.2 hR.1, ht _ hst⟩ ⟨PW_blind, fun U hU hW => ⟨rfl, PW_of C X hU hW⟩⟩ rfl (by rw [List.length_map]; exact hna) L.1 (by show (As.reverse ++ st).map (trV ad) = _; rw [List.map_append, List.map_reverse]) (lv_room (by rw [sum_cat]; exact hcat)) hd hR.2
  exact ga_back C X L ex hrun hw k
theorem ga_I {pc' : Nat} {y' : MethodName} {cc' : ByteArray} {nL' idx a na : Nat} {rm : Room} {As : List Value} {Qc : Option Value → AH → Nat → Prop} (hcw : CW y.cls idx y' cc' nL' none na) (hin : Cond.instanceMethod y' ∈ gt) (hnm : y'.name = "<init>") (hct : CT y' cc' nL' none rm (.ref a :: As) hp n Qc) (hR : CR R rm nL' cu su) (hcat : (st.map fun v => v.category).sum ≤ 8) (hna : As.length = na) (hen : (enA (.ref a :: As)).length ≤ nL')
    (hd : decode cc pc = .ok (.invokespecial idx, 3))
    (hw : ∀ v hp' n', Qc v hp' n' → n' = n ∨ ((∀ v ∈ vs, wfv n v) ∧ ∀ v ∈ st, wfv n v))
    (k : ∀ v hp' n', Qc v hp' n' → n ≤ n' → G y cc nL ret R sc Q (cu + rm.cells) (su + rm.slots) pc' vs (v.toList ++ st) hp' n') (e : pc + 3 = pc' := by rfl) : G y cc nL ret R sc Q cu su pc vs (As.reverse ++ .ref a :: st) hp n := by
  subst e
  intro p l e s m args below meth c D dA A tF b Z ad H locs ls C X L ex
  have hM := ct_met hcw.2.2.2.1 hen hct l D dA ad H.size X.2.2.2.2.2
  have ht := C.2.2.2.2.2.1
  have hrun := va_runI (e := e) (below := below) (meth := meth) (locs := locs) (cells := cu) (slots := su) (g := F0 m pc ls ((As.reverse ++ .ref a :: st).map (trV ad))) (As := As.map (trV ad)) (b := ad a) (rest := st.map (trV ad)) ⟨C.1, C.2.1, C.2.2.2.1, C.2.2.2.2.1, ht⟩ hM ⟨callB_of na ht (gt_good hcw.2.2.1) rfl rfl rfl (ht _ hcw.2.1) (ht _ hcw.1) hcw.2.2.2.2 hR.1, hnm, ht _ hin⟩ ⟨PW_blind, fun U hU hW => ⟨rfl, PW_of C X hU hW⟩⟩ rfl (by rw [List.length_map]; exact hna) L.1 (by show (As.reverse ++ .ref a :: st).map (trV ad) = _; rw [List.map_append, List.map_reverse]; rfl) (lv_room (by rw [sum_cat]; exact hcat)) hd hR.2
  exact ga_back C X L ex hrun hw k
theorem ga_IN {pc' : Nat} {y' : MethodName} {cc' : ByteArray} {nL' idx a na : Nat} {rm : Room} {As : List Value} {Qc : Option Value → AH → Nat → Prop} (hcw : CWN y.cls idx y' cc' nL' none na) (hin : Cond.instanceMethod y' ∈ gt) (hnm : y'.name = "<init>") (hct : CT y' cc' nL' none rm (.ref a :: As) hp n Qc) (hR : CR R rm nL' cu su) (hcat : (st.map fun v => v.category).sum ≤ 8) (hna : As.length = na) (hen : (enA (.ref a :: As)).length ≤ nL')
    (hd : decode cc pc = .ok (.invokespecial idx, 3))
    (hw : ∀ v hp' n', Qc v hp' n' → n' = n ∨ ((∀ v ∈ vs, wfv n v) ∧ ∀ v ∈ st, wfv n v))
    (k : ∀ v hp' n', Qc v hp' n' → n ≤ n' → G y cc nL ret R sc Q (cu + rm.cells) (su + rm.slots) pc' vs (v.toList ++ st) hp' n') (e : pc + 3 = pc' := by rfl) : G y cc nL ret R sc Q cu su pc vs (As.reverse ++ .ref a :: st) hp n := by
  subst e
  intro p l e s m args below meth c D dA A tF b Z ad H locs ls C X L ex
  have hM := ct_met hcw.2.2.2.1 hen hct l D dA ad H.size X.2.2.2.2.2
  have ht := C.2.2.2.2.2.1
  obtain ⟨⟨host, hl⟩, hc2⟩ := hcw
  have cb := va_cnB (R := R) (args := args) (rm := rm) na ht (gt_good hc2.2.1) rfl rfl rfl (C.2.2.2.2.2.2.2.2.2.1.1 _ hl) (ht _ hc2.1) hc2.2.2.2 hR.1
  have hrun := va_runIN (e := e) (below := below) (meth := meth) (locs := locs) (cells := cu) (slots := su) (g := F0 m pc ls ((As.reverse ++ .ref a :: st).map (trV ad))) (As := As.map (trV ad)) (b := ad a) (rest := st.map (trV ad)) ⟨C.1, C.2.1, C.2.2.2.1, C.2.2.2.2.1, ht⟩ hM ⟨cb, hnm, ht _ hin⟩ ⟨PW_blind, fun U hU hW => ⟨rfl, PW_of C X hU hW⟩⟩ rfl (by rw [List.length_map]; exact hna) L.1 (by show (As.reverse ++ .ref a :: st).map (trV ad) = _; rw [List.map_append, List.map_reverse]; rfl) (lv_room (by rw [sum_cat]; exact hcat)) hd hR.2
  exact ga_back C X L ex hrun hw k
theorem g_objInit {pc' : Nat} {idx a : Nat} (h1 : Cond.methodLink y.cls idx objectInit ∈ gt) (h2 : Cond.instanceMethod objectInit ∈ gt) (h3 : Cond.code objectInit ⟨#[0xb1]⟩ 1 none ∈ gt) (hd : decode cc pc = .ok (.invokespecial idx, 3)) (hf : 1 ≤ R.frames) (hl : (st.map fun v => v.category).sum + 12 ≤ R.locals) (k : G y cc nL ret R sc Q cu su pc' vs st hp n) (e : pc + 3 = pc' := by rfl) : G y cc nL ret R sc Q cu su pc vs (.ref a :: st) hp n := by
  subst e
  intro p l e s m args below meth c D dA A tF b Z ad H locs ls C X L ex
  have ht := C.2.2.2.2.2.1
  exact W.objInit C.1 C.2.1 C.2.2.2.2.1 (ht _ h1) (ht _ h2) (ht _ h3) rfl (L.1.trans C.2.2.2.1.symm) rfl hd hf (by show 2 * 0 + _ + 12 ≤ _; rw [sum_cat]; omega) (k p l e s m args below meth c D dA A tF b Z ad H locs ls C X L ex)
end GC
end
section
section GA
variable {y : MethodName} {cc : ByteArray} {nL : Nat} {ret : Option FieldType} {R : Room} {sc : SC} {Q : Option Value → AH → Nat → Prop} {cu su pc : Nat} {vs st : List Value} {hp : AH} {n : Nat}
theorem Dy_ext {D : va_G} {dA : Nat → ClassId} {A : Nat → Prop} {tF b : Nat} {s : State} {ad ad' : Nat → Nat} {H H1 : Heap} {locs : List Loc} {hp hp' : AH} {n n' : Nat} (X : Dy D dA A tF b s ad H locs hp n) (hag : agr n n' ad ad') (hn : n' ≤ 1000000) (hP : va_P D vwCl (wl dA ad' hp' n') H1) (hD : va_D A (wl dA ad' hp' n')) (hS : va_S A s.heap H1 locs) : Dy D dA A tF b s ad' H1 locs hp' n' :=
  ⟨hP, hD, hS, by rw [hag xF (Or.inr hn)]; exact X.2.2.2.1, by rw [hag xS (Or.inr (by show n' ≤ 1000001; omega))]; exact X.2.2.2.2.1, hn⟩
theorem g_new {pc' : Nat} {idx ci : Nat} {q : vw_C} {fs : List Value} (hq : CLS ci q) (h1 : Cond.classLink y.cls idx q.1 ∈ gt) (h2 : Cond.instantiable q.1 q.2.2 ∈ gt) (h3 : Cond.initialized q.1 ∈ gt) (hfs : ∀ j, j < q.2.2 → ∀ ty, parseFieldDescriptor (q.2.1 j).2.2.1 = some ty → defaultValue ty = vp_V fs j) (hnr : ∀ ad, fs.map (trV ad) = fs) (hc : cu + 1 ≤ R.cells) (hs : su + q.2.2 ≤ R.slots) (hwf : wfH n hp) (hvs : ∀ v ∈ vs, wfv n v) (hst : ∀ v ∈ st, wfv n v) (hn : n < 1000000) (hd : decode cc pc = .ok (.new idx, 3))
    (k : G y cc nL ret R sc Q (cu + 1) (su + q.2.2) pc' vs (.ref n :: st) (va_up hp n (ob ci fs)) (n + 1)) (e : pc + 3 = pc' := by rfl) : G y cc nL ret R sc Q cu su pc vs st hp n := by
  subst e
  intro p l e s m args below meth c D dA A tF b Z ad H locs ls C X L ex
  obtain ⟨ty0, hty0⟩ := hq.2.2.1
  have ht := C.2.2.2.2.2.1
  refine va_new C.1 C.2.1 ht hq.2.1 ty0 hty0 C.2.2.2.2.1 (ht _ h1) (ht _ h2) (ht _ h3) C.2.2.2.2.2.2.2.2.1 X.1 X.2.1 X.2.2.1 C.2.2.2.2.2.2.2.2.2.2.2.1 hq.1 (fun j hj => hfs j hj _ (hty0 j hj)) hc hs hd (fun q9 H1 hP hD hS => ?_)
  have hpu := wl_push (q := q9) (dA := dA) (ad := ad) (e := ob ci fs) hn hwf
  have he : trE dA (va_up ad n q9) (ob ci fs) = .inr (ci, fs) := by
    show Sum.inr (ci, fs.map (trV (va_up ad n q9))) = _
    rw [hnr]
  rw [he] at hpu
  rw [hpu] at hP hD
  have hag : agr n (n + 1) ad (va_up ad n q9) := agr.up
  have K := k p l e s m args below meth c D dA A tF b Z (va_up ad n q9) H1 locs ls C (Dy_ext X hag hn hP hD hS) (LV_agr L hag hn hvs) (fun v2 hp2 n2 ad2 H2 locs2 ls2 pc2 q1 q2 q3 q4 q5 => ex v2 hp2 n2 ad2 H2 locs2 ls2 pc2 q1 q2 (by omega) (hag.tr q4 (by omega) q3) q5)
  have e5 : (Value.ref n :: st).map (trV (va_up ad n q9)) = .ref q9 :: st.map (trV ad) := by
    show Value.ref (va_up ad n q9 n) :: st.map (trV (va_up ad n q9)) = _
    rw [va_up_self, List.map_congr_left (fun v hv => trV_agr hag hn (hst v hv))]
  rw [e5] at K
  exact K
theorem dA_of {D : va_G} {cl : List vw_C} {tys : List (ClassId × FieldType)} {s : State} {c1 c2 : ClassId} {ty : FieldType} {t : Nat} (hK : va_K D cl tys s) (h1 : tys[t]? = some (c1, ty)) (hK2 : va_K D cl (tys ++ [(c2, ty)]) s) (hty : va_RA s c1 ty → s.vm.findClass ("[" ++ ty.toString) = some c1) (hty2 : va_RA s c2 ty → s.vm.findClass ("[" ++ ty.toString) = some c2) : c2 = c1 := by
  have a1 := hty (hK.2 t _ h1).2
  have a2 := hty2 (hK2.2 tys.length (c2, ty) (by simp)).2
  exact Option.some.inj (a2.symm.trans a1)
theorem g_newa {pc' : Nat} {atype : ArrayType} {ty : FieldType} {t N : Nat} {z : Int32} {a0 : vp_A} (hw : Cond.arrayClass (newarray.typeOf atype) ∈ gt) (hty : newarray.typeOf atype = ty) (ht : ∀ dA : Nat → ClassId, (tyL dA)[t]? = some (dA t, ty)) (hra : ∀ (s : State) (c : ClassId), va_RA s c ty → s.vm.findClass ("[" ++ ty.toString) = some c) (ha0 : ∀ cA : ClassId, vp_cell cA a0 = arrV cA N (fun _ => defaultValue ty)) (hnr : ∀ ad, trA ad a0 = a0) (hz : ¬ z < 0) (hN : z.toNatClampNeg = N) (hby : N * componentBytes ty ≤ 536870912) (hc : cu + 1 ≤ R.cells) (hs : su + N ≤ R.slots) (hwf : wfH n hp) (hvs : ∀ v ∈ vs, wfv n v) (hst : ∀ v ∈ st, wfv n v) (hn : n < 1000000) (hd : decode cc pc = .ok (.newarray atype, 2))
    (k : G y cc nL ret R sc Q (cu + 1) (su + N) pc' vs (.ref n :: st) (va_up hp n (.inl (t, a0))) (n + 1)) (e : pc + 2 = pc' := by rfl) : G y cc nL ret R sc Q cu su pc vs (.int z :: st) hp n := by
  subst e
  intro p l e s m args below meth c D dA A tF b Z ad H locs ls C X L ex
  have htt := C.2.2.2.2.2.1
  have hK := C.2.2.2.2.2.2.2.2.1
  refine va_newa C.1 C.2.1 (htt _ hw) hty hK X.1 X.2.1 X.2.2.1 C.2.2.2.2.2.2.2.2.2.2.2.1 ha0 hz hN hby hc hs hd (fun q9 cA H1 hK2 hP hD hS => ?_)
  have ecA : cA = dA t := dA_of hK (ht dA) hK2 (hra s _) (hra s _)
  subst ecA
  have hpu := wl_push (q := q9) (dA := dA) (ad := ad) (e := .inl (t, a0)) hn hwf
  have he : trE dA (va_up ad n q9) (.inl (t, a0)) = .inl (dA t, a0) := by
    show Sum.inl (dA t, trA (va_up ad n q9) a0) = _
    rw [hnr]
  rw [he] at hpu
  rw [hpu] at hP hD
  have hag : agr n (n + 1) ad (va_up ad n q9) := agr.up
  have K := k p l e s m args below meth c D dA A tF b Z (va_up ad n q9) H1 locs ls C (Dy_ext X hag hn hP hD hS) (LV_agr L hag hn hvs) (fun v2 hp2 n2 ad2 H2 locs2 ls2 pc2 q1 q2 q3 q4 q5 => ex v2 hp2 n2 ad2 H2 locs2 ls2 pc2 q1 q2 (by omega) (hag.tr q4 (by omega) q3) q5)
  have e5 : (Value.ref n :: st).map (trV (va_up ad n q9)) = .ref q9 :: st.map (trV ad) := by
    show Value.ref (va_up ad n q9 n) :: st.map (trV (va_up ad n q9)) = _
    rw [va_up_self, List.map_congr_left (fun v hv => trV_agr hag hn (hst v hv))]
  rw [e5] at K
  exact K
theorem g_newI {pc' : Nat} {N : Nat} {z : Int32} (hw : Cond.arrayClass .int ∈ gt) (hz : ¬ z < 0) (hN : z.toNatClampNeg = N) (hby : N * componentBytes .int ≤ 536870912) (hc : cu + 1 ≤ R.cells) (hs : su + N ≤ R.slots) (hwf : wfH n hp) (hvs : ∀ v ∈ vs, wfv n v) (hst : ∀ v ∈ st, wfv n v) (hn : n < 1000000) (hd : decode cc pc = .ok (.newarray .int, 2))
    (k : G y cc nL ret R sc Q (cu + 1) (su + N) pc' vs (.ref n :: st) (va_up hp n (aI N (fun _ => 0))) (n + 1)) (e : pc + 2 = pc' := by rfl) : G y cc nL ret R sc Q cu su pc vs (.int z :: st) hp n :=
  g_newa (atype := .int) (t := 0) (a0 := (N, .inl (fun _ => 0))) hw rfl (fun _ => rfl) (fun _ _ h => h) (fun _ => rfl) (fun _ => rfl) hz hN hby hc hs hwf hvs hst hn hd k e
theorem g_newJ {pc' : Nat} {N : Nat} {z : Int32} (hw : Cond.arrayClass .long ∈ gt) (hz : ¬ z < 0) (hN : z.toNatClampNeg = N) (hby : N * componentBytes .long ≤ 536870912) (hc : cu + 1 ≤ R.cells) (hs : su + N ≤ R.slots) (hwf : wfH n hp) (hvs : ∀ v ∈ vs, wfv n v) (hst : ∀ v ∈ st, wfv n v) (hn : n < 1000000) (hd : decode cc pc = .ok (.newarray .long, 2))
    (k : G y cc nL ret R sc Q (cu + 1) (su + N) pc' vs (.ref n :: st) (va_up hp n (aJ N (fun _ => 0))) (n + 1)) (e : pc + 2 = pc' := by rfl) : G y cc nL ret R sc Q cu su pc vs (.int z :: st) hp n :=
  g_newa (atype := .long) (t := 1) (a0 := (N, .inr (.inl (fun _ => 0)))) hw rfl (fun _ => rfl) (fun _ _ h => h) (fun _ => rfl) (fun _ => rfl) hz hN hby hc hs hwf hvs hst hn hd k e
theorem g_newZ {pc' : Nat} {N : Nat} {z : Int32} (hw : Cond.arrayClass .boolean ∈ gt) (hz : ¬ z < 0) (hN : z.toNatClampNeg = N) (hby : N * componentBytes .boolean ≤ 536870912) (hc : cu + 1 ≤ R.cells) (hs : su + N ≤ R.slots) (hwf : wfH n hp) (hvs : ∀ v ∈ vs, wfv n v) (hst : ∀ v ∈ st, wfv n v) (hn : n < 1000000) (hd : decode cc pc = .ok (.newarray .boolean, 2))
    (k : G y cc nL ret R sc Q (cu + 1) (su + N) pc' vs (.ref n :: st) (va_up hp n (aZ N (fun _ => 0))) (n + 1)) (e : pc + 2 = pc' := by rfl) : G y cc nL ret R sc Q cu su pc vs (.int z :: st) hp n :=
  g_newa (atype := .boolean) (t := 2) (a0 := (N, .inl (fun _ => 0))) hw rfl (fun _ => rfl) (fun _ _ h => h) (fun _ => rfl) (fun _ => rfl) hz hN hby hc hs hwf hvs hst hn hd k e
theorem g_newR {pc' : Nat} {idx N : Nat} {z : Int32} (hw : Cond.classLink y.cls idx "FiveDice$Row" ∈ gt) (hz : ¬ z < 0) (hN : z.toNatClampNeg = N) (hby : N * 4 ≤ 536870912) (hc : cu + 1 ≤ R.cells) (hs : su + N ≤ R.slots) (hwf : wfH n hp) (hvs : ∀ v ∈ vs, wfv n v) (hst : ∀ v ∈ st, wfv n v) (hn : n < 1000000) (hd : decode cc pc = .ok (.anewarray idx, 3))
    (k : G y cc nL ret R sc Q (cu + 1) (su + N) pc' vs (.ref n :: st) (va_up hp n (aR N (fun _ => none))) (n + 1)) (e : pc + 3 = pc' := by rfl) : G y cc nL ret R sc Q cu su pc vs (.int z :: st) hp n := by
  subst e
  intro p l e s m args below meth c D dA A tF b Z ad H locs ls C X L ex
  have htt := C.2.2.2.2.2.1
  have hK := C.2.2.2.2.2.2.2.2.1
  refine va_newq C.1 C.2.1 C.2.2.2.2.1 (htt _ hw) C.2.2.2.2.2.2.2.2.2.1.2.1 hK X.1 X.2.1 X.2.2.1 C.2.2.2.2.2.2.2.2.2.2.2.1 hz hN hby hc hs hd (fun q9 cA H1 hK2 hP hD hS => ?_)
  have hra : ∀ (c : ClassId), va_RA s c (.object "FiveDice$Row") → s.vm.findClass ("[" ++ (FieldType.object "FiveDice$Row").toString) = some c := fun c h => by
    obtain ⟨_, _, _, _, _, h4⟩ := h
    exact h4
  have ecA : cA = dA 3 := dA_of (t := 3) hK rfl hK2 (hra _) (hra _)
  subst ecA
  have hpu := wl_push (q := q9) (dA := dA) (ad := ad) (e := aR N (fun _ => none)) hn hwf
  have he : trE dA (va_up ad n q9) (aR N (fun _ => none)) = .inl (dA 3, N, .inr (.inr (.inr (.inr (fun _ => none))))) := rfl
  rw [he] at hpu
  rw [hpu] at hP hD
  have hag : agr n (n + 1) ad (va_up ad n q9) := agr.up
  have K := k p l e s m args below meth c D dA A tF b Z (va_up ad n q9) H1 locs ls C (Dy_ext X hag hn hP hD hS) (LV_agr L hag hn hvs) (fun v2 hp2 n2 ad2 H2 locs2 ls2 pc2 q1 q2 q3 q4 q5 => ex v2 hp2 n2 ad2 H2 locs2 ls2 pc2 q1 q2 (by omega) (hag.tr q4 (by omega) q3) q5)
  have e5 : (Value.ref n :: st).map (trV (va_up ad n q9)) = .ref q9 :: st.map (trV ad) := by
    show Value.ref (va_up ad n q9 n) :: st.map (trV (va_up ad n q9)) = _
    rw [va_up_self, List.map_congr_left (fun v hv => trV_agr hag hn (hst v hv))]
  rw [e5] at K
  exact K
theorem va_up_map (ad : Nat → Nat) (f : Nat → Option Nat) (j v : Nat) : va_up (fun i => (f i).map ad) j (some (ad v)) = fun i => (va_up f j (some v) i).map ad := by
  funext i
  unfold va_up
  by_cases h : i = j
  · simp [h]
  · simp [h]
theorem g_aastR {pc' : Nat} {a N j v : Nat} {fs : List Value} {f : Nat → Option Nat} {i : Int32} (hd : decode cc pc = .ok (.aastore, 1)) (ha : a < n) (he : hp a = aR N f) (hv : v < n) (hev : hp v = ob 3 fs) (hi : IX i j N) (k : G y cc nL ret R sc Q cu su pc' vs st (va_up hp a (aR N (va_up f j (some v)))) n) (e : pc + 1 = pc' := by rfl) : G y cc nL ret R sc Q cu su pc vs (.ref v :: .int i :: .ref a :: st) hp n := by
  subst e
  intro p l e s m args below meth c D dA A tF b Z ad H locs ls C X L ex
  obtain ⟨h1, h2⟩ := hi
  subst h2
  have hc := wl_get (dA := dA) (ad := ad) (hp := hp) ha
  rw [he] at hc
  have hcv := wl_get (dA := dA) (ad := ad) (hp := hp) hv
  rw [hev] at hcv
  refine va_astq (r := (RX3, TX3, 4)) C.1 C.2.1 C.2.2.2.2.2.2.2.2.1 X.1 X.2.1 X.2.2.1 a 3 v 3 hc rfl hcv rfl h1 hd (fun H1 locs1 hP hD hS => ?_)
  rw [va_up_map] at hP hD
  have hs := wl_set (dA := dA) (ad := ad) (hp := hp) ha (aR N (va_up f i.toNatClampNeg (some v)))
  have hP2 : va_P D vwCl (wl dA ad (va_up hp a (aR N (va_up f i.toNatClampNeg (some v)))) n) H1 := hs ▸ hP
  have hD2 : va_D A (wl dA ad (va_up hp a (aR N (va_up f i.toNatClampNeg (some v)))) n) := hs ▸ hD
  exact k p l e s m args below meth c D dA A tF b Z ad H1 locs1 ls C ⟨hP2, hD2, hS, X.2.2.2⟩ L ex
theorem g_copyl {pc' : Nat} {idx a0 a1 n0 n1 sj dj nj : Nat} {f g : Nat → Int64} {sp dp nn : Int32} (h1 : Cond.methodLink y.cls idx arraycopyName ∈ gt) (h2 : Cond.native arraycopyName ∈ gt) (h3 : Cond.static arraycopyName ∈ gt) (h4 : Cond.initialized "java/lang/System" ∈ gt) (ha0 : a0 < n) (he0 : hp a0 = aJ n0 f) (ha1 : a1 < n) (he1 : hp a1 = aJ n1 g) (hs : ¬ sp < 0 ∧ sp.toNatClampNeg = sj) (hdp : ¬ dp < 0 ∧ dp.toNatClampNeg = dj) (hnn : ¬ nn < 0 ∧ nn.toNatClampNeg = nj) (hb0 : sj + nj ≤ n0) (hb1 : dj + nj ≤ n1) (hf : 1 ≤ R.frames) (hl : (st.map fun v => v.category).sum + (nativeFrameWords "java/lang/System" "arraycopy" 5 + 11) ≤ R.locals) (hd : decode cc pc = .ok (.invokestatic idx, 3))
    (k : G y cc nL ret R sc Q cu su pc' vs st (va_up hp a1 (aJ n1 (va_cpy f g sj dj nj))) n) (e : pc + 3 = pc' := by rfl) : G y cc nL ret R sc Q cu su pc vs (.int nn :: .int dp :: .ref a1 :: .int sp :: .ref a0 :: st) hp n := by
  subst e
  intro p l e s m args below meth c D dA A tF b Z ad H locs ls C X L ex
  obtain ⟨hs1, rfl⟩ := hs
  obtain ⟨hd1, rfl⟩ := hdp
  obtain ⟨hn1, rfl⟩ := hnn
  have ht := C.2.2.2.2.2.1
  have hc0 := wl_get (dA := dA) (ad := ad) (hp := hp) ha0
  rw [he0] at hc0
  have hc1 := wl_get (dA := dA) (ad := ad) (hp := hp) ha1
  rw [he1] at hc1
  refine va_copyl C.1 C.2.1 (C.2.2.2.1.trans L.1.symm) C.2.2.2.2.1 (ht _ h1) (ht _ h2) (ht _ h3) (ht _ h4) C.2.2.2.2.2.2.2.2.1 X.1 X.2.1 X.2.2.1 a0 a1 1 1 (ty := .long) hc0 hc1 rfl rfl rfl hs1 hd1 hn1 hb0 hb1 (fun _ _ => rfl) hf (by rw [sum_cat]; exact hl) hd (fun H1 locs1 hP hD hS => ?_)
  have hs := wl_set (dA := dA) (ad := ad) (hp := hp) ha1 (aJ n1 (va_cpy f g sp.toNatClampNeg dp.toNatClampNeg nn.toNatClampNeg))
  have hP2 : va_P D vwCl (wl dA ad (va_up hp a1 (aJ n1 (va_cpy f g sp.toNatClampNeg dp.toNatClampNeg nn.toNatClampNeg))) n) H1 := hs ▸ hP
  have hD2 : va_D A (wl dA ad (va_up hp a1 (aJ n1 (va_cpy f g sp.toNatClampNeg dp.toNatClampNeg nn.toNatClampNeg))) n) := hs ▸ hD
  exact k p l e s m args below meth c D dA A tF b Z ad H1 locs1 ls C ⟨hP2, hD2, hS, X.2.2.2⟩ L ex
/-- new long[3][462] -/
theorem g_mna {pc' : Nat} {idx : Nat} (hw : Cond.classLink y.cls idx "[[J" ∈ gt) (hw2 : Cond.arrayClass .long ∈ gt) (hc : cu + 4 ≤ R.cells) (hs : su + 1389 ≤ R.slots) (hwf : wfH n hp) (hvs : ∀ v ∈ vs, wfv n v) (hst : ∀ v ∈ st, wfv n v) (hn : n + 4 ≤ 1000000) (hd : decode cc pc = .ok (.multianewarray idx 2, 4))
    (k : G y cc nL ret R sc Q (cu + 4) (su + 1389) pc' vs (.ref n :: st) (va_up (va_up (va_up (va_up hp n (aG 3 (fun i => if i < 3 then some (n + 1 + i) else none))) (n + 1) (aJ 462 (fun _ => 0))) (n + 2) (aJ 462 (fun _ => 0))) (n + 3) (aJ 462 (fun _ => 0))) (n + 4)) (e : pc + 4 = pc' := by rfl) : G y cc nL ret R sc Q cu su pc vs (.int 462 :: .int 3 :: st) hp n := by
  subst e
  intro p l e s m args below meth c D dA A tF b Z ad H locs ls C X L ex
  have htt := C.2.2.2.2.2.1
  have hK := C.2.2.2.2.2.2.2.2.1
  have hcy : s.vm.findClass (FieldType.array .long).toString = some (dA 1) := (hK.2 1 _ rfl).2
  have hP0 : va_P D vwCl (wl dA ad hp n ++ va_pl [] (fun _ => .inr (0, []))) H := by
    rw [show va_pl [] (fun _ => (.inr (0, []) : va_E)) = [] from rfl, List.append_nil]
    exact X.1
  have hD0 : va_D A (wl dA ad hp n ++ va_pl [] (fun _ => .inr (0, []))) := by
    rw [show va_pl [] (fun _ => (.inr (0, []) : va_E)) = [] from rfl, List.append_nil]
    exact X.2.1
  refine va_mna (ty := .long) (cy := dA 1) (z := (462, .inr (.inl (fun _ => 0)))) (N' := 3) (K' := 462) C.1 C.2.1 C.2.2.2.2.1 (htt _ hw) C.2.2.2.2.2.2.2.2.2.1.2.2 (htt _ hw2) hcy hK hP0 hD0 X.2.2.1 C.2.2.2.2.2.2.2.2.2.2.2.1 (by decide) (by decide) rfl rfl (by decide) (by decide) (by decide) rfl rfl hc hs (fun c9 => ?_) hd (fun q9 r cA H1 hinj hnl hK2 hP hD hS => ?_)
  · show _ = arrV c9 462 (fun _ => Value.long 0)
    rw [← arrV_new]
    rfl
  have ecA : cA = dA 4 := dA_of (t := 4) hK rfl hK2 (fun h => h) (fun h => h)
  subst ecA
  generalize hadd : va_up (va_up (va_up (va_up ad n q9) (n + 1) (r 0)) (n + 2) (r 1)) (n + 3) (r 2) = ad'
  generalize hhp : va_up (va_up (va_up (va_up hp n (aG 3 (fun i => if i < 3 then some (n + 1 + i) else none))) (n + 1) (aJ 462 (fun _ => 0))) (n + 2) (aJ 462 (fun _ => 0))) (n + 3) (aJ 462 (fun _ => 0)) = hp' at k
  have hag : agr n (n + 4) ad ad' := fun i hi => by
    rw [← hadd]
    unfold va_up
    rw [if_neg (by omega), if_neg (by omega), if_neg (by omega), if_neg (by omega)]
  have a0 : ad' n = q9 := by rw [← hadd]; simp [va_up]
  have a1 : ad' (n + 1) = r 0 := by rw [← hadd]; simp [va_up]
  have a2 : ad' (n + 2) = r 1 := by rw [← hadd]; simp [va_up]
  have a3 : ad' (n + 3) = r 2 := by rw [← hadd]; simp [va_up]
  have b0 : hp' n = aG 3 (fun i => if i < 3 then some (n + 1 + i) else none) := by rw [← hhp]; simp [va_up]
  have b1 : hp' (n + 1) = aJ 462 (fun _ => 0) := by rw [← hhp]; simp [va_up]
  have b2 : hp' (n + 2) = aJ 462 (fun _ => 0) := by rw [← hhp]; simp [va_up]
  have b3 : hp' (n + 3) = aJ 462 (fun _ => 0) := by rw [← hhp]; simp [va_up]
  have hlo : ∀ i, i < n → hp' i = hp i := fun i hi => by
    rw [← hhp]
    unfold va_up
    rw [if_neg (by omega), if_neg (by omega), if_neg (by omega), if_neg (by omega)]
  have hwl : wl dA ad' hp' (n + 4) = wl dA ad hp n ++ [(q9, trE dA ad' (hp' n)), (r 0, trE dA ad' (hp' (n + 1))), (r 1, trE dA ad' (hp' (n + 2))), (r 2, trE dA ad' (hp' (n + 3)))] := by
    have h0 : wl dA ad' hp' n = wl dA ad hp n := wl_agr hag hn hwf hlo
    rw [← h0]
    unfold wl
    rw [show n + 4 = n + 1 + 1 + 1 + 1 from rfl, List.range_succ, List.range_succ, List.range_succ, List.range_succ]
    simp [a0, a1, a2, a3]
  have e0 : trE dA ad' (hp' n) = .inl (dA 4, 3, .inr (.inr (.inr (.inr (fun i => if i < 3 then some (r i) else none))))) := by
    rw [b0]
    show Sum.inl (dA 4, (3, Sum.inr (Sum.inr (Sum.inr (Sum.inr (fun j => (if j < 3 then some (n + 1 + j) else none).map ad')))))) = _
    have hf : (fun j => (if j < 3 then some (n + 1 + j) else none).map ad') = (fun i => if i < 3 then some (r i) else none) := funext fun j => by
      match j with
      | 0 => simp [a1]
      | 1 => simp [a2]
      | 2 => simp [a3]
      | j + 3 =>
        have h9 : ¬ j + 3 < 3 := by omega
        simp [h9]
    rw [hf]
  have hls : wl dA ad' hp' (n + 4) = (wl dA ad hp n ++ [(q9, .inl (dA 4, 3, .inr (.inr (.inr (.inr (fun i => if i < 3 then some (r i) else none))))))]) ++ va_pl ([] ++ (List.range 3).map r) (vr_up (fun _ => .inr (0, [])) ((List.range 3).map r) (.inl (dA 1, 462, .inr (.inl (fun _ => 0))))) := by
    rw [hwl, e0, b1, b2, b3]
    have hr3 : (List.range 3).map r = [r 0, r 1, r 2] := rfl
    rw [hr3, List.nil_append]
    unfold va_pl
    simp [vr_up, trE, trA]
  rw [← hls] at hP hD
  have K := k p l e s m args below meth c D dA A tF b Z ad' H1 locs ls C (Dy_ext X hag hn hP hD hS) (LV_agr L hag hn hvs) (fun v2 hp2 n2 ad2 H2 locs2 ls2 pc2 q1 q2 q3 q4 q5 => ex v2 hp2 n2 ad2 H2 locs2 ls2 pc2 q1 q2 (by omega) (hag.tr q4 (by omega) q3) q5)
  have e5 : (Value.ref n :: st).map (trV ad') = .ref q9 :: st.map (trV ad) := by
    show Value.ref (ad' n) :: st.map (trV ad') = _
    rw [a0, List.map_congr_left (fun v hv => trV_agr hag hn (hst v hv))]
  rw [e5] at K
  exact K
end GA
end
section
theorem in_gt {w : Cond} (i : Nat) (h : lw_tbl[i]? = some w) (hg : goodWord w = true) : w ∈ gt := List.mem_filter.mpr ⟨List.mem_of_getElem? h, hg⟩
theorem in_nw {w : Cond} (i : Nat) (h : lw_tbl[i]? = some w) (hg : isNest w = true) : w ∈ nwl := List.mem_filter.mpr ⟨List.mem_of_getElem? h, hg⟩
theorem oi_X7_1 : Cond.methodLink RX7 1 objectInit ∈ gt := in_gt 69 (by decide +kernel) rfl
-- class X7 7 FiveDice$Tally
theorem cw_X7_9 : CWN RX7 9 yX4_init cX4_init 1 none 0 := ⟨⟨"FiveDice", in_nw 74 (by decide +kernel) rfl⟩, in_gt 52 (by decide +kernel) rfl, in_gt 76 (by decide +kernel) rfl, by decide +kernel, by decide +kernel, by decide +kernel, by decide +kernel⟩
theorem fl_X7_10 : FL RX7 10 7 0 := ⟨_, cls7, by decide, in_gt 255 (by decide +kernel) rfl⟩
-- class X7 16 FiveDice$Row
theorem fl_X7_18 : FL RX7 18 7 1 := ⟨_, cls7, by decide, in_gt 256 (by decide +kernel) rfl⟩
-- class X7 22 FiveDice$Game
theorem cw_X7_24 : CWN RX7 24 yX1_init cX1_init 1 none 0 := ⟨⟨"FiveDice", in_nw 87 (by decide +kernel) rfl⟩, in_gt 53 (by decide +kernel) rfl, in_gt 89 (by decide +kernel) rfl, by decide +kernel, by decide +kernel, by decide +kernel, by decide +kernel⟩
theorem fl_X7_25 : FL RX7 25 7 2 := ⟨_, cls7, by decide, in_gt 257 (by decide +kernel) rfl⟩
-- class X7 29 FiveDice$Worths
theorem cw_X7_31 : CW RX7 31 yX6_init cX6_init 2 none 1 := ⟨in_gt 169 (by decide +kernel) rfl, in_gt 55 (by decide +kernel) rfl, in_gt 171 (by decide +kernel) rfl, by decide +kernel, by decide +kernel, by decide +kernel, by decide +kernel⟩
theorem fl_X7_34 : FL RX7 34 7 3 := ⟨_, cls7, by decide, in_gt 258 (by decide +kernel) rfl⟩
-- class X7 38 FiveDice$Chances
theorem cw_X7_40 : CW RX7 40 yX0_init cX0_init 2 none 1 := ⟨in_gt 205 (by decide +kernel) rfl, in_gt 57 (by decide +kernel) rfl, in_gt 207 (by decide +kernel) rfl, by decide +kernel, by decide +kernel, by decide +kernel, by decide +kernel⟩
theorem fl_X7_41 : FL RX7 41 7 4 := ⟨_, cls7, by decide, in_gt 259 (by decide +kernel) rfl⟩
theorem fl_X7_45 : FL RX7 45 7 5 := ⟨_, cls7, by decide, in_gt 260 (by decide +kernel) rfl⟩
theorem fl_X7_49 : FL RX7 49 7 6 := ⟨_, cls7, by decide, in_gt 261 (by decide +kernel) rfl⟩
theorem fl_X7_52 : FL RX7 52 7 7 := ⟨_, cls7, by decide, in_gt 262 (by decide +kernel) rfl⟩
theorem fl_X7_55 : FL RX7 55 7 8 := ⟨_, cls7, by decide, in_gt 263 (by decide +kernel) rfl⟩
theorem fl_X7_58 : FL RX7 58 7 9 := ⟨_, cls7, by decide, in_gt 264 (by decide +kernel) rfl⟩
theorem fl_X7_62 : FL RX7 62 7 10 := ⟨_, cls7, by decide, in_gt 265 (by decide +kernel) rfl⟩
theorem fl_X7_65 : FL RX7 65 7 11 := ⟨_, cls7, by decide, in_gt 266 (by decide +kernel) rfl⟩
theorem fl_X7_68 : FL RX7 68 7 12 := ⟨_, cls7, by decide, in_gt 267 (by decide +kernel) rfl⟩
theorem fl_X7_72 : FL RX7 72 7 13 := ⟨_, cls7, by decide, in_gt 268 (by decide +kernel) rfl⟩
theorem fl_X7_75 : FL RX7 75 7 14 := ⟨_, cls7, by decide, in_gt 269 (by decide +kernel) rfl⟩
theorem fl_X7_78 : FL RX7 78 7 15 := ⟨_, cls7, by decide, in_gt 270 (by decide +kernel) rfl⟩
theorem fl_X7_81 : FL RX7 81 7 16 := ⟨_, cls7, by decide, in_gt 271 (by decide +kernel) rfl⟩
theorem fl_X7_84 : FL RX7 84 7 17 := ⟨_, cls7, by decide, in_gt 272 (by decide +kernel) rfl⟩
theorem cw_X7_87 : CWN RX7 87 yX3_init cX3_init 1 none 0 := ⟨⟨"FiveDice", in_nw 237 (by decide +kernel) rfl⟩, in_gt 58 (by decide +kernel) rfl, in_gt 239 (by decide +kernel) rfl, by decide +kernel, by decide +kernel, by decide +kernel, by decide +kernel⟩
theorem cw_X7_88 : CW RX7 88 yX3_become cX3_become 4 none 3 := ⟨in_gt 318 (by decide +kernel) rfl, in_gt 58 (by decide +kernel) rfl, in_gt 321 (by decide +kernel) rfl, by decide +kernel, by decide +kernel, by decide +kernel, by decide +kernel⟩
theorem cw_X7_92 : CW RX7 92 yX7_isLarge cX7_isLarge 6 (some .boolean) 0 := ⟨in_gt 326 (by decide +kernel) rfl, in_gt 51 (by decide +kernel) rfl, in_gt 329 (by decide +kernel) rfl, by decide +kernel, by decide +kernel, by decide +kernel, by decide +kernel⟩
theorem cw_X7_96 : CW RX7 96 yX1_prepare cX1_prepare 6 none 4 := ⟨in_gt 331 (by decide +kernel) rfl, in_gt 53 (by decide +kernel) rfl, in_gt 334 (by decide +kernel) rfl, by decide +kernel, by decide +kernel, by decide +kernel, by decide +kernel⟩
theorem cw_X7_100 : CW RX7 100 yX1_writePoints cX1_writePoints 6 none 2 := ⟨in_gt 354 (by decide +kernel) rfl, in_gt 53 (by decide +kernel) rfl, in_gt 357 (by decide +kernel) rfl, by decide +kernel, by decide +kernel, by decide +kernel, by decide +kernel⟩
theorem cw_X7_104 : CW RX7 104 yX6_reckonAll cX6_reckonAll 3 none 0 := ⟨in_gt 394 (by decide +kernel) rfl, in_gt 55 (by decide +kernel) rfl, in_gt 397 (by decide +kernel) rfl, by decide +kernel, by decide +kernel, by decide +kernel, by decide +kernel⟩
theorem cw_X7_107 : CW RX7 107 yX0_forget cX0_forget 1 none 0 := ⟨in_gt 462 (by decide +kernel) rfl, in_gt 57 (by decide +kernel) rfl, in_gt 465 (by decide +kernel) rfl, by decide +kernel, by decide +kernel, by decide +kernel, by decide +kernel⟩
theorem cw_X7_110 : CW RX7 110 yX7_comeToTurn cX7_comeToTurn 2 none 0 := ⟨in_gt 466 (by decide +kernel) rfl, in_gt 51 (by decide +kernel) rfl, in_gt 469 (by decide +kernel) rfl, by decide +kernel, by decide +kernel, by decide +kernel, by decide +kernel⟩
theorem fn_X7_113 : FN RX7 113 1 0 := ⟨_, "FiveDice", cls1, by decide, in_nw 138 (by decide +kernel) rfl⟩
theorem cw_X7_117 : CW RX7 117 yX2_joined cX2_joined 8 (some .int) 3 := ⟨in_gt 484 (by decide +kernel) rfl, in_gt 54 (by decide +kernel) rfl, in_gt 487 (by decide +kernel) rfl, by decide +kernel, by decide +kernel, by decide +kernel, by decide +kernel⟩
theorem cw_X7_123 : CW RX7 123 yX7_comeToHeap cX7_comeToHeap 4 (some .int) 1 := ⟨in_gt 488 (by decide +kernel) rfl, in_gt 51 (by decide +kernel) rfl, in_gt 491 (by decide +kernel) rfl, by decide +kernel, by decide +kernel, by decide +kernel, by decide +kernel⟩
theorem ki_X7_127 : Cond.constant RX7 127 (1103515245) ∈ gt := in_gt 520 (by decide +kernel) rfl
theorem ki_X7_128 : Cond.constant RX7 128 (2147483647) ∈ gt := in_gt 521 (by decide +kernel) rfl
theorem cw_X7_129 : CW RX7 129 yX2_withDie cX2_withDie 3 (some .int) 2 := ⟨in_gt 522 (by decide +kernel) rfl, in_gt 54 (by decide +kernel) rfl, in_gt 353 (by decide +kernel) rfl, by decide +kernel, by decide +kernel, by decide +kernel, by decide +kernel⟩
theorem cw_X7_133 : CW RX7 133 yX7_mayHold cX7_mayHold 1 (some .boolean) 0 := ⟨in_gt 527 (by decide +kernel) rfl, in_gt 51 (by decide +kernel) rfl, in_gt 530 (by decide +kernel) rfl, by decide +kernel, by decide +kernel, by decide +kernel, by decide +kernel⟩
theorem cw_X7_136 : CW RX7 136 yX2_partOf cX2_partOf 4 (some .int) 2 := ⟨in_gt 535 (by decide +kernel) rfl, in_gt 54 (by decide +kernel) rfl, in_gt 538 (by decide +kernel) rfl, by decide +kernel, by decide +kernel, by decide +kernel, by decide +kernel⟩
theorem cw_X7_139 : CW RX7 139 yX7_stand cX7_stand 2 (some .long) 0 := ⟨in_gt 492 (by decide +kernel) rfl, in_gt 51 (by decide +kernel) rfl, in_gt 495 (by decide +kernel) rfl, by decide +kernel, by decide +kernel, by decide +kernel, by decide +kernel⟩
theorem fn_X7_143 : FN RX7 143 2 1 := ⟨_, "FiveDice", cls2, by decide, in_nw 101 (by decide +kernel) rfl⟩
theorem cw_X7_147 : CW RX7 147 yX7_isRow cX7_isRow 2 (some .boolean) 1 := ⟨in_gt 551 (by decide +kernel) rfl, in_gt 51 (by decide +kernel) rfl, in_gt 554 (by decide +kernel) rfl, by decide +kernel, by decide +kernel, by decide +kernel, by decide +kernel⟩
theorem cw_X7_151 : CW RX7 151 yX7_hasHeap cX7_hasHeap 1 (some .boolean) 0 := ⟨in_gt 531 (by decide +kernel) rfl, in_gt 51 (by decide +kernel) rfl, in_gt 534 (by decide +kernel) rfl, by decide +kernel, by decide +kernel, by decide +kernel, by decide +kernel⟩
theorem cw_X7_154 : CW RX7 154 yX7_isFilled cX7_isFilled 2 (some .boolean) 1 := ⟨in_gt 555 (by decide +kernel) rfl, in_gt 51 (by decide +kernel) rfl, in_gt 558 (by decide +kernel) rfl, by decide +kernel, by decide +kernel, by decide +kernel, by decide +kernel⟩
theorem cw_X7_157 : CW RX7 157 yX1_pointsAt cX1_pointsAt 3 (some .int) 2 := ⟨in_gt 559 (by decide +kernel) rfl, in_gt 53 (by decide +kernel) rfl, in_gt 562 (by decide +kernel) rfl, by decide +kernel, by decide +kernel, by decide +kernel, by decide +kernel⟩
theorem fn_X7_160 : FN RX7 160 3 3 := ⟨_, "FiveDice", cls3, by decide, in_nw 245 (by decide +kernel) rfl⟩
theorem fn_X7_163 : FN RX7 163 1 2 := ⟨_, "FiveDice", cls1, by decide, in_nw 144 (by decide +kernel) rfl⟩
theorem cw_X7_167 : CW RX7 167 yX7_unitPower cX7_unitPower 2 (some .int) 0 := ⟨in_gt 512 (by decide +kernel) rfl, in_gt 51 (by decide +kernel) rfl, in_gt 515 (by decide +kernel) rfl, by decide +kernel, by decide +kernel, by decide +kernel, by decide +kernel⟩
theorem kl_X7_171 : Cond.constantLong RX7 171 (-4) ∈ gt := in_gt 567 (by decide +kernel) rfl
theorem cw_X7_173 : CW RX7 173 yX7_worthHere cX7_worthHere 1 (some .long) 0 := ⟨in_gt 496 (by decide +kernel) rfl, in_gt 51 (by decide +kernel) rfl, in_gt 499 (by decide +kernel) rfl, by decide +kernel, by decide +kernel, by decide +kernel, by decide +kernel⟩
theorem kl_X7_176 : Cond.constantLong RX7 176 (-3) ∈ gt := in_gt 576 (by decide +kernel) rfl
theorem fn_X7_178 : FN RX7 178 6 1 := ⟨_, "FiveDice", cls6, by decide, in_nw 193 (by decide +kernel) rfl⟩
theorem cw_X7_182 : CW RX7 182 yX5_valueOfHold cX5_valueOfHold 3 (some .long) 2 := ⟨in_gt 504 (by decide +kernel) rfl, in_gt 56 (by decide +kernel) rfl, in_gt 507 (by decide +kernel) rfl, by decide +kernel, by decide +kernel, by decide +kernel, by decide +kernel⟩
theorem fn_X7_188 : FN RX7 188 2 0 := ⟨_, "FiveDice", cls2, by decide, in_nw 99 (by decide +kernel) rfl⟩
theorem cw_X7_191 : CW RX7 191 yX5_bestHoldOf cX5_bestHoldOf 6 (some .int) 2 := ⟨in_gt 581 (by decide +kernel) rfl, in_gt 56 (by decide +kernel) rfl, in_gt 584 (by decide +kernel) rfl, by decide +kernel, by decide +kernel, by decide +kernel, by decide +kernel⟩
theorem cw_X7_194 : CW RX7 194 yX6_bestRowFor cX6_bestRowFor 10 (some .int) 2 := ⟨in_gt 590 (by decide +kernel) rfl, in_gt 55 (by decide +kernel) rfl, in_gt 593 (by decide +kernel) rfl, by decide +kernel, by decide +kernel, by decide +kernel, by decide +kernel⟩
theorem cw_X7_197 : CW RX7 197 yX0_beforeTurn cX0_beforeTurn 3 (some .long) 2 := ⟨in_gt 600 (by decide +kernel) rfl, in_gt 57 (by decide +kernel) rfl, in_gt 603 (by decide +kernel) rfl, by decide +kernel, by decide +kernel, by decide +kernel, by decide +kernel⟩
theorem cw_X7_200 : CW RX7 200 yX0_inTurn cX0_inTurn 4 (some (.object "FiveDice$Turn")) 3 := ⟨in_gt 642 (by decide +kernel) rfl, in_gt 57 (by decide +kernel) rfl, in_gt 645 (by decide +kernel) rfl, by decide +kernel, by decide +kernel, by decide +kernel, by decide +kernel⟩
theorem cw_X7_203 : CW RX7 203 yX7_valueIn cX7_valueIn 2 (some .long) 1 := ⟨in_gt 500 (by decide +kernel) rfl, in_gt 51 (by decide +kernel) rfl, in_gt 503 (by decide +kernel) rfl, by decide +kernel, by decide +kernel, by decide +kernel, by decide +kernel⟩
theorem cw_X7_207 : CW RX7 207 yX4_read cX4_read 7 (some .boolean) 3 := ⟨in_gt 659 (by decide +kernel) rfl, in_gt 52 (by decide +kernel) rfl, in_gt 365 (by decide +kernel) rfl, by decide +kernel, by decide +kernel, by decide +kernel, by decide +kernel⟩
theorem cw_X7_211 : CW RX7 211 yX3_pointsOf cX3_pointsOf 2 (some .int) 1 := ⟨in_gt 660 (by decide +kernel) rfl, in_gt 58 (by decide +kernel) rfl, in_gt 372 (by decide +kernel) rfl, by decide +kernel, by decide +kernel, by decide +kernel, by decide +kernel⟩
theorem cw_X7_215 : CW RX7 215 yX4_orders cX4_orders 4 (some .int) 0 := ⟨in_gt 665 (by decide +kernel) rfl, in_gt 52 (by decide +kernel) rfl, in_gt 668 (by decide +kernel) rfl, by decide +kernel, by decide +kernel, by decide +kernel, by decide +kernel⟩
theorem cw_X7_218 : CW RX7 218 yJ6_bitCount_0f7a4 cJ6_bitCount_0f7a4 1 (some .int) 1 := ⟨in_gt 679 (by decide +kernel) rfl, in_gt 62 (by decide +kernel) rfl, in_gt 431 (by decide +kernel) rfl, by decide +kernel, by decide +kernel, by decide +kernel, by decide +kernel⟩
theorem kl_X7_223 : Cond.constantLong RX7 223 (1000000000000000) ∈ gt := in_gt 330 (by decide +kernel) rfl
theorem cw_X7_225 : CW RX7 225 yX1_freeRows cX1_freeRows 2 (some .int) 1 := ⟨in_gt 470 (by decide +kernel) rfl, in_gt 53 (by decide +kernel) rfl, in_gt 428 (by decide +kernel) rfl, by decide +kernel, by decide +kernel, by decide +kernel, by decide +kernel⟩
theorem cw_X7_228 : CW RX7 228 yX6_lookAt cX6_lookAt 2 none 1 := ⟨in_gt 471 (by decide +kernel) rfl, in_gt 55 (by decide +kernel) rfl, in_gt 474 (by decide +kernel) rfl, by decide +kernel, by decide +kernel, by decide +kernel, by decide +kernel⟩
theorem fn_X7_232 : FN RX7 232 6 2 := ⟨_, "FiveDice", cls6, by decide, in_nw 195 (by decide +kernel) rfl⟩
theorem cw_X7_235 : CW RX7 235 yX5_valueOfHeap cX5_valueOfHeap 3 (some .long) 2 := ⟨in_gt 508 (by decide +kernel) rfl, in_gt 56 (by decide +kernel) rfl, in_gt 511 (by decide +kernel) rfl, by decide +kernel, by decide +kernel, by decide +kernel, by decide +kernel⟩
theorem oi_X0_3 : Cond.methodLink RX0 3 objectInit ∈ gt := in_gt 208 (by decide +kernel) rfl
theorem fl_X0_9 : FL RX0 9 0 2 := ⟨_, cls0, by decide, in_gt 213 (by decide +kernel) rfl⟩
theorem fl_X0_15 : FL RX0 15 0 3 := ⟨_, cls0, by decide, in_gt 214 (by decide +kernel) rfl⟩
theorem fl_X0_18 : FL RX0 18 0 4 := ⟨_, cls0, by decide, in_gt 215 (by decide +kernel) rfl⟩
theorem fl_X0_21 : FL RX0 21 0 5 := ⟨_, cls0, by decide, in_gt 216 (by decide +kernel) rfl⟩
theorem fl_X0_25 : FL RX0 25 0 6 := ⟨_, cls0, by decide, in_gt 217 (by decide +kernel) rfl⟩
theorem fl_X0_28 : FL RX0 28 0 7 := ⟨_, cls0, by decide, in_gt 218 (by decide +kernel) rfl⟩
theorem fl_X0_32 : FL RX0 32 0 0 := ⟨_, cls0, by decide, in_gt 211 (by decide +kernel) rfl⟩
-- class X0 36 FiveDice$Turn
theorem cw_X0_38 : CW RX0 38 yX5_init cX5_init 2 none 1 := ⟨in_gt 210 (by decide +kernel) rfl, in_gt 56 (by decide +kernel) rfl, in_gt 177 (by decide +kernel) rfl, by decide +kernel, by decide +kernel, by decide +kernel, by decide +kernel⟩
theorem fl_X0_41 : FL RX0 41 0 1 := ⟨_, cls0, by decide, in_gt 212 (by decide +kernel) rfl⟩
theorem cw_X0_45 : CW RX0 45 yX0_makeReady cX0_makeReady 2 none 0 := ⟨in_gt 604 (by decide +kernel) rfl, in_gt 57 (by decide +kernel) rfl, in_gt 607 (by decide +kernel) rfl, by decide +kernel, by decide +kernel, by decide +kernel, by decide +kernel⟩
theorem cw_X0_48 : CW RX0 48 yX0_ofSheet cX0_ofSheet 5 (some .long) 3 := ⟨in_gt 628 (by decide +kernel) rfl, in_gt 57 (by decide +kernel) rfl, in_gt 631 (by decide +kernel) rfl, by decide +kernel, by decide +kernel, by decide +kernel, by decide +kernel⟩
theorem cw_X0_52 : CW RX0 52 yX0_layGround cX0_layGround 11 none 3 := ⟨in_gt 633 (by decide +kernel) rfl, in_gt 57 (by decide +kernel) rfl, in_gt 636 (by decide +kernel) rfl, by decide +kernel, by decide +kernel, by decide +kernel, by decide +kernel⟩
theorem cw_X0_56 : CW RX0 56 yX5_climb cX5_climb 3 none 1 := ⟨in_gt 646 (by decide +kernel) rfl, in_gt 56 (by decide +kernel) rfl, in_gt 445 (by decide +kernel) rfl, by decide +kernel, by decide +kernel, by decide +kernel, by decide +kernel⟩
theorem cw_X0_60 : CW RX0 60 yX0_measureSheets cX0_measureSheets 10 (some .int) 0 := ⟨in_gt 608 (by decide +kernel) rfl, in_gt 57 (by decide +kernel) rfl, in_gt 611 (by decide +kernel) rfl, by decide +kernel, by decide +kernel, by decide +kernel, by decide +kernel⟩
theorem mm_X0_64 : Cond.methodLink RX0 64 Lib.Math.max.name ∈ gt := in_gt 625 (by decide +kernel) rfl
theorem kl_X0_70 : Cond.constantLong RX0 70 (-1) ∈ gt := in_gt 626 (by decide +kernel) rfl
theorem cw_X0_72 : CW RX0 72 yJ7_fill_bad5a cJ7_fill_bad5a 6 none 4 := ⟨in_gt 627 (by decide +kernel) rfl, in_gt 61 (by decide +kernel) rfl, in_gt 413 (by decide +kernel) rfl, by decide +kernel, by decide +kernel, by decide +kernel, by decide +kernel⟩
theorem cw_X0_78 : CW RX0 78 yX1_fullSheet cX1_fullSheet 1 (some .int) 0 := ⟨in_gt 612 (by decide +kernel) rfl, in_gt 53 (by decide +kernel) rfl, in_gt 401 (by decide +kernel) rfl, by decide +kernel, by decide +kernel, by decide +kernel, by decide +kernel⟩
theorem fn_X0_83 : FN RX0 83 1 5 := ⟨_, "FiveDice", cls1, by decide, in_nw 152 (by decide +kernel) rfl⟩
theorem cw_X0_87 : CW RX0 87 yX0_leastOfRow cX0_leastOfRow 5 (some .int) 1 := ⟨in_gt 613 (by decide +kernel) rfl, in_gt 57 (by decide +kernel) rfl, in_gt 616 (by decide +kernel) rfl, by decide +kernel, by decide +kernel, by decide +kernel, by decide +kernel⟩
theorem cw_X0_91 : CW RX0 91 yX0_mostOfRow cX0_mostOfRow 5 (some .int) 1 := ⟨in_gt 621 (by decide +kernel) rfl, in_gt 57 (by decide +kernel) rfl, in_gt 624 (by decide +kernel) rfl, by decide +kernel, by decide +kernel, by decide +kernel, by decide +kernel⟩
theorem fn_X0_94 : FN RX0 94 1 0 := ⟨_, "FiveDice", cls1, by decide, in_nw 139 (by decide +kernel) rfl⟩
theorem cw_X0_98 : CW RX0 98 yX2_wholeCount cX2_wholeCount 1 (some .int) 0 := ⟨in_gt 617 (by decide +kernel) rfl, in_gt 54 (by decide +kernel) rfl, in_gt 361 (by decide +kernel) rfl, by decide +kernel, by decide +kernel, by decide +kernel, by decide +kernel⟩
theorem fn_X0_103 : FN RX0 103 1 1 := ⟨_, "FiveDice", cls1, by decide, in_nw 142 (by decide +kernel) rfl⟩
theorem mm_X0_106 : Cond.methodLink RX0 106 Lib.Math.min.name ∈ gt := in_gt 618 (by decide +kernel) rfl
theorem cw_X0_109 : CW RX0 109 yX1_unitBefore cX1_unitBefore 2 (some .long) 1 := ⟨in_gt 632 (by decide +kernel) rfl, in_gt 53 (by decide +kernel) rfl, in_gt 424 (by decide +kernel) rfl, by decide +kernel, by decide +kernel, by decide +kernel, by decide +kernel⟩
theorem cw_X0_113 : CW RX0 113 yX5_valueBefore cX5_valueBefore 2 (some .long) 0 := ⟨in_gt 641 (by decide +kernel) rfl, in_gt 56 (by decide +kernel) rfl, in_gt 441 (by decide +kernel) rfl, by decide +kernel, by decide +kernel, by decide +kernel, by decide +kernel⟩
theorem cw_X0_117 : CW RX0 117 yX1_isFree cX1_isFree 3 (some .boolean) 2 := ⟨in_gt 637 (by decide +kernel) rfl, in_gt 53 (by decide +kernel) rfl, in_gt 420 (by decide +kernel) rfl, by decide +kernel, by decide +kernel, by decide +kernel, by decide +kernel⟩
theorem mm_X0_121 : Cond.methodLink RX0 121 Lib.MathLoose.max_long.x ∈ gt := in_gt 638 (by decide +kernel) rfl
theorem cw_X0_124 : CW RX0 124 yX5_ground cX5_ground 1 (some (.array .long)) 0 := ⟨in_gt 639 (by decide +kernel) rfl, in_gt 56 (by decide +kernel) rfl, in_gt 410 (by decide +kernel) rfl, by decide +kernel, by decide +kernel, by decide +kernel, by decide +kernel⟩
theorem fn_X0_128 : FN RX0 128 2 7 := ⟨_, "FiveDice", cls2, by decide, in_nw 117 (by decide +kernel) rfl⟩
theorem ac_X0_131 : Cond.methodLink RX0 131 arraycopyName ∈ gt := in_gt 640 (by decide +kernel) rfl
theorem oi_X1_3 : Cond.methodLink RX1 3 objectInit ∈ gt := in_gt 90 (by decide +kernel) rfl
-- class X1 9 FiveDice$Heaps
theorem cw_X1_11 : CWN RX1 11 yX2_init cX2_init 1 none 0 := ⟨⟨"FiveDice", in_nw 93 (by decide +kernel) rfl⟩, in_gt 54 (by decide +kernel) rfl, in_gt 95 (by decide +kernel) rfl, by decide +kernel, by decide +kernel, by decide +kernel, by decide +kernel⟩
theorem fl_X1_12 : FL RX1 12 1 0 := ⟨_, cls1, by decide, in_gt 135 (by decide +kernel) rfl⟩
theorem fl_X1_18 : FL RX1 18 1 1 := ⟨_, cls1, by decide, in_gt 140 (by decide +kernel) rfl⟩
theorem fl_X1_22 : FL RX1 22 1 2 := ⟨_, cls1, by decide, in_gt 143 (by decide +kernel) rfl⟩
theorem fl_X1_26 : FL RX1 26 1 3 := ⟨_, cls1, by decide, in_gt 145 (by decide +kernel) rfl⟩
theorem fl_X1_29 : FL RX1 29 1 4 := ⟨_, cls1, by decide, in_gt 147 (by decide +kernel) rfl⟩
theorem fl_X1_33 : FL RX1 33 1 5 := ⟨_, cls1, by decide, in_gt 150 (by decide +kernel) rfl⟩
theorem cw_X1_36 : CW RX1 36 yX2_build cX2_build 5 none 2 := ⟨in_gt 335 (by decide +kernel) rfl, in_gt 54 (by decide +kernel) rfl, in_gt 338 (by decide +kernel) rfl, by decide +kernel, by decide +kernel, by decide +kernel, by decide +kernel⟩
theorem cw_X1_40 : CW RX1 40 yX2_wholeCount cX2_wholeCount 1 (some .int) 0 := ⟨in_gt 358 (by decide +kernel) rfl, in_gt 54 (by decide +kernel) rfl, in_gt 361 (by decide +kernel) rfl, by decide +kernel, by decide +kernel, by decide +kernel, by decide +kernel⟩
theorem fn_X1_44 : FN RX1 44 2 0 := ⟨_, "FiveDice", cls2, by decide, in_nw 98 (by decide +kernel) rfl⟩
theorem fn_X1_47 : FN RX1 47 2 7 := ⟨_, "FiveDice", cls2, by decide, in_nw 114 (by decide +kernel) rfl⟩
theorem fn_X1_50 : FN RX1 50 2 4 := ⟨_, "FiveDice", cls2, by decide, in_nw 107 (by decide +kernel) rfl⟩
theorem fn_X1_53 : FN RX1 53 2 5 := ⟨_, "FiveDice", cls2, by decide, in_nw 109 (by decide +kernel) rfl⟩
theorem cw_X1_56 : CW RX1 56 yX4_read cX4_read 7 (some .boolean) 3 := ⟨in_gt 362 (by decide +kernel) rfl, in_gt 52 (by decide +kernel) rfl, in_gt 365 (by decide +kernel) rfl, by decide +kernel, by decide +kernel, by decide +kernel, by decide +kernel⟩
theorem cw_X1_62 : CW RX1 62 yX3_pointsOf cX3_pointsOf 2 (some .int) 1 := ⟨in_gt 369 (by decide +kernel) rfl, in_gt 58 (by decide +kernel) rfl, in_gt 372 (by decide +kernel) rfl, by decide +kernel, by decide +kernel, by decide +kernel, by decide +kernel⟩
theorem cw_X1_68 : CW RX1 68 yJ6_bitCount_0f7a4 cJ6_bitCount_0f7a4 1 (some .int) 1 := ⟨in_gt 429 (by decide +kernel) rfl, in_gt 62 (by decide +kernel) rfl, in_gt 431 (by decide +kernel) rfl, by decide +kernel, by decide +kernel, by decide +kernel, by decide +kernel⟩
theorem cw_X1_74 : CW RX1 74 yX1_freeRows cX1_freeRows 2 (some .int) 1 := ⟨in_gt 425 (by decide +kernel) rfl, in_gt 53 (by decide +kernel) rfl, in_gt 428 (by decide +kernel) rfl, by decide +kernel, by decide +kernel, by decide +kernel, by decide +kernel⟩
theorem oi_X2_3 : Cond.methodLink RX2 3 objectInit ∈ gt := in_gt 96 (by decide +kernel) rfl
theorem fl_X2_9 : FL RX2 9 2 0 := ⟨_, cls2, by decide, in_gt 97 (by decide +kernel) rfl⟩
theorem fl_X2_15 : FL RX2 15 2 1 := ⟨_, cls2, by decide, in_gt 100 (by decide +kernel) rfl⟩
theorem fl_X2_18 : FL RX2 18 2 2 := ⟨_, cls2, by decide, in_gt 103 (by decide +kernel) rfl⟩
theorem fl_X2_21 : FL RX2 21 2 3 := ⟨_, cls2, by decide, in_gt 104 (by decide +kernel) rfl⟩
theorem fl_X2_24 : FL RX2 24 2 4 := ⟨_, cls2, by decide, in_gt 106 (by decide +kernel) rfl⟩
theorem fl_X2_28 : FL RX2 28 2 5 := ⟨_, cls2, by decide, in_gt 108 (by decide +kernel) rfl⟩
theorem fl_X2_31 : FL RX2 31 2 6 := ⟨_, cls2, by decide, in_gt 111 (by decide +kernel) rfl⟩
theorem fl_X2_34 : FL RX2 34 2 7 := ⟨_, cls2, by decide, in_gt 113 (by decide +kernel) rfl⟩
theorem cw_X2_37 : CW RX2 37 yX2_addLargestDie cX2_addLargestDie 5 none 2 := ⟨in_gt 339 (by decide +kernel) rfl, in_gt 54 (by decide +kernel) rfl, in_gt 342 (by decide +kernel) rfl, by decide +kernel, by decide +kernel, by decide +kernel, by decide +kernel⟩
theorem cw_X2_41 : CW RX2 41 yX2_addSmallerDie cX2_addSmallerDie 7 none 2 := ⟨in_gt 346 (by decide +kernel) rfl, in_gt 54 (by decide +kernel) rfl, in_gt 349 (by decide +kernel) rfl, by decide +kernel, by decide +kernel, by decide +kernel, by decide +kernel⟩
theorem mm_X2_44 : Cond.methodLink RX2 44 Lib.Math.max.name ∈ gt := in_gt 343 (by decide +kernel) rfl
theorem cw_X2_50 : CW RX2 50 yX2_withDie cX2_withDie 3 (some .int) 2 := ⟨in_gt 350 (by decide +kernel) rfl, in_gt 54 (by decide +kernel) rfl, in_gt 353 (by decide +kernel) rfl, by decide +kernel, by decide +kernel, by decide +kernel, by decide +kernel⟩
theorem cw_X2_53 : CW RX2 53 yX2_figuresOf cX2_figuresOf 4 (some .int) 1 := ⟨in_gt 539 (by decide +kernel) rfl, in_gt 54 (by decide +kernel) rfl, in_gt 541 (by decide +kernel) rfl, by decide +kernel, by decide +kernel, by decide +kernel, by decide +kernel⟩
theorem cw_X2_57 : CW RX2 57 yX2_joined cX2_joined 8 (some .int) 3 := ⟨in_gt 542 (by decide +kernel) rfl, in_gt 54 (by decide +kernel) rfl, in_gt 487 (by decide +kernel) rfl, by decide +kernel, by decide +kernel, by decide +kernel, by decide +kernel⟩
theorem cw_X2_61 : CW RX2 61 yX2_holdsAll cX2_holdsAll 6 (some .boolean) 2 := ⟨in_gt 543 (by decide +kernel) rfl, in_gt 54 (by decide +kernel) rfl, in_gt 546 (by decide +kernel) rfl, by decide +kernel, by decide +kernel, by decide +kernel, by decide +kernel⟩
theorem oi_X3_1 : Cond.methodLink RX3 1 objectInit ∈ gt := in_gt 240 (by decide +kernel) rfl
theorem fl_X3_7 : FL RX3 7 3 0 := ⟨_, cls3, by decide, in_gt 241 (by decide +kernel) rfl⟩
theorem fl_X3_13 : FL RX3 13 3 1 := ⟨_, cls3, by decide, in_gt 242 (by decide +kernel) rfl⟩
theorem fl_X3_16 : FL RX3 16 3 2 := ⟨_, cls3, by decide, in_gt 243 (by decide +kernel) rfl⟩
theorem fl_X3_19 : FL RX3 19 3 3 := ⟨_, cls3, by decide, in_gt 244 (by decide +kernel) rfl⟩
theorem cw_X3_22 : CW RX3 22 yX4_showing cX4_showing 2 (some .int) 1 := ⟨in_gt 373 (by decide +kernel) rfl, in_gt 52 (by decide +kernel) rfl, in_gt 376 (by decide +kernel) rfl, by decide +kernel, by decide +kernel, by decide +kernel, by decide +kernel⟩
theorem cw_X3_28 : CW RX3 28 yX4_mostAlike cX4_mostAlike 3 (some .int) 0 := ⟨in_gt 377 (by decide +kernel) rfl, in_gt 52 (by decide +kernel) rfl, in_gt 380 (by decide +kernel) rfl, by decide +kernel, by decide +kernel, by decide +kernel, by decide +kernel⟩
theorem cw_X3_32 : CW RX3 32 yX4_total cX4_total 3 (some .int) 0 := ⟨in_gt 382 (by decide +kernel) rfl, in_gt 52 (by decide +kernel) rfl, in_gt 385 (by decide +kernel) rfl, by decide +kernel, by decide +kernel, by decide +kernel, by decide +kernel⟩
theorem cw_X3_35 : CW RX3 35 yX4_longestRun cX4_longestRun 4 (some .int) 0 := ⟨in_gt 386 (by decide +kernel) rfl, in_gt 52 (by decide +kernel) rfl, in_gt 389 (by decide +kernel) rfl, by decide +kernel, by decide +kernel, by decide +kernel, by decide +kernel⟩
theorem cw_X3_38 : CW RX3 38 yX4_sidesShownBy cX4_sidesShownBy 4 (some .int) 1 := ⟨in_gt 390 (by decide +kernel) rfl, in_gt 52 (by decide +kernel) rfl, in_gt 393 (by decide +kernel) rfl, by decide +kernel, by decide +kernel, by decide +kernel, by decide +kernel⟩
theorem oi_X4_3 : Cond.methodLink RX4 3 objectInit ∈ gt := in_gt 77 (by decide +kernel) rfl
theorem fl_X4_9 : FL RX4 9 4 0 := ⟨_, cls4, by decide, in_gt 78 (by decide +kernel) rfl⟩
theorem cw_X4_15 : CW RX4 15 yJ7_fill_53178 cJ7_fill_53178 4 none 2 := ⟨in_gt 366 (by decide +kernel) rfl, in_gt 61 (by decide +kernel) rfl, in_gt 368 (by decide +kernel) rfl, by decide +kernel, by decide +kernel, by decide +kernel, by decide +kernel⟩
theorem mm_X4_21 : Cond.methodLink RX4 21 Lib.Math.max.name ∈ gt := in_gt 381 (by decide +kernel) rfl
theorem gs_X4_27 : Cond.fieldLink RX4 27 "FiveDice$Tally" "FACTORIAL" "[I" ∈ gt := in_gt 669 (by decide +kernel) rfl
theorem oi_X5_3 : Cond.methodLink RX5 3 objectInit ∈ gt := in_gt 178 (by decide +kernel) rfl
-- class X5 9 "[[J"
theorem fl_X5_11 : FL RX5 11 5 1 := ⟨_, cls5, by decide, in_gt 182 (by decide +kernel) rfl⟩
theorem fl_X5_16 : FL RX5 16 5 2 := ⟨_, cls5, by decide, in_gt 183 (by decide +kernel) rfl⟩
theorem fl_X5_19 : FL RX5 19 5 0 := ⟨_, cls5, by decide, in_gt 181 (by decide +kernel) rfl⟩
theorem fn_X5_23 : FN RX5 23 1 0 := ⟨_, "FiveDice", cls1, by decide, in_nw 137 (by decide +kernel) rfl⟩
theorem cw_X5_29 : CW RX5 29 yX2_holdsAll cX2_holdsAll 6 (some .boolean) 2 := ⟨in_gt 585 (by decide +kernel) rfl, in_gt 54 (by decide +kernel) rfl, in_gt 546 (by decide +kernel) rfl, by decide +kernel, by decide +kernel, by decide +kernel, by decide +kernel⟩
theorem cw_X5_35 : CW RX5 35 yX5_throwOthers cX5_throwOthers 9 none 2 := ⟨in_gt 446 (by decide +kernel) rfl, in_gt 56 (by decide +kernel) rfl, in_gt 449 (by decide +kernel) rfl, by decide +kernel, by decide +kernel, by decide +kernel, by decide +kernel⟩
theorem cw_X5_39 : CW RX5 39 yX5_bringToUnit cX5_bringToUnit 4 none 1 := ⟨in_gt 454 (by decide +kernel) rfl, in_gt 56 (by decide +kernel) rfl, in_gt 457 (by decide +kernel) rfl, by decide +kernel, by decide +kernel, by decide +kernel, by decide +kernel⟩
theorem cw_X5_43 : CW RX5 43 yX5_chooseHolds cX5_chooseHolds 8 none 2 := ⟨in_gt 458 (by decide +kernel) rfl, in_gt 56 (by decide +kernel) rfl, in_gt 461 (by decide +kernel) rfl, by decide +kernel, by decide +kernel, by decide +kernel, by decide +kernel⟩
theorem fn_X5_46 : FN RX5 46 1 4 := ⟨_, "FiveDice", cls1, by decide, in_nw 149 (by decide +kernel) rfl⟩
theorem cw_X5_50 : CW RX5 50 yX5_climb cX5_climb 3 none 1 := ⟨in_gt 442 (by decide +kernel) rfl, in_gt 56 (by decide +kernel) rfl, in_gt 445 (by decide +kernel) rfl, by decide +kernel, by decide +kernel, by decide +kernel, by decide +kernel⟩
theorem fn_X5_54 : FN RX5 54 2 7 := ⟨_, "FiveDice", cls2, by decide, in_nw 116 (by decide +kernel) rfl⟩
theorem cw_X5_57 : CW RX5 57 yX2_wholeCount cX2_wholeCount 1 (some .int) 0 := ⟨in_gt 450 (by decide +kernel) rfl, in_gt 54 (by decide +kernel) rfl, in_gt 361 (by decide +kernel) rfl, by decide +kernel, by decide +kernel, by decide +kernel, by decide +kernel⟩
theorem ac_X5_61 : Cond.methodLink RX5 61 arraycopyName ∈ gt := in_gt 451 (by decide +kernel) rfl
theorem fn_X5_67 : FN RX5 67 2 5 := ⟨_, "FiveDice", cls2, by decide, in_nw 110 (by decide +kernel) rfl⟩
theorem fn_X5_70 : FN RX5 70 2 3 := ⟨_, "FiveDice", cls2, by decide, in_nw 105 (by decide +kernel) rfl⟩
theorem fn_X5_74 : FN RX5 74 2 6 := ⟨_, "FiveDice", cls2, by decide, in_nw 112 (by decide +kernel) rfl⟩
theorem fn_X5_77 : FN RX5 77 1 3 := ⟨_, "FiveDice", cls1, by decide, in_nw 146 (by decide +kernel) rfl⟩
theorem fn_X5_81 : FN RX5 81 2 1 := ⟨_, "FiveDice", cls2, by decide, in_nw 102 (by decide +kernel) rfl⟩
theorem oi_X6_3 : Cond.methodLink RX6 3 objectInit ∈ gt := in_gt 172 (by decide +kernel) rfl
theorem fl_X6_9 : FL RX6 9 6 2 := ⟨_, cls6, by decide, in_gt 194 (by decide +kernel) rfl⟩
theorem fl_X6_15 : FL RX6 15 6 0 := ⟨_, cls6, by decide, in_gt 191 (by decide +kernel) rfl⟩
-- class X6 19 FiveDice$Turn
theorem cw_X6_21 : CW RX6 21 yX5_init cX5_init 2 none 1 := ⟨in_gt 175 (by decide +kernel) rfl, in_gt 56 (by decide +kernel) rfl, in_gt 177 (by decide +kernel) rfl, by decide +kernel, by decide +kernel, by decide +kernel, by decide +kernel⟩
theorem fl_X6_24 : FL RX6 24 6 1 := ⟨_, cls6, by decide, in_gt 192 (by decide +kernel) rfl⟩
theorem cw_X6_28 : CW RX6 28 yX1_fullSheet cX1_fullSheet 1 (some .int) 0 := ⟨in_gt 398 (by decide +kernel) rfl, in_gt 53 (by decide +kernel) rfl, in_gt 401 (by decide +kernel) rfl, by decide +kernel, by decide +kernel, by decide +kernel, by decide +kernel⟩
theorem cw_X6_34 : CW RX6 34 yX6_layGround cX6_layGround 14 none 1 := ⟨in_gt 402 (by decide +kernel) rfl, in_gt 55 (by decide +kernel) rfl, in_gt 405 (by decide +kernel) rfl, by decide +kernel, by decide +kernel, by decide +kernel, by decide +kernel⟩
theorem cw_X6_38 : CW RX6 38 yX5_valueBefore cX5_valueBefore 2 (some .long) 0 := ⟨in_gt 438 (by decide +kernel) rfl, in_gt 56 (by decide +kernel) rfl, in_gt 441 (by decide +kernel) rfl, by decide +kernel, by decide +kernel, by decide +kernel, by decide +kernel⟩
theorem fn_X6_42 : FN RX6 42 1 4 := ⟨_, "FiveDice", cls1, by decide, in_nw 148 (by decide +kernel) rfl⟩
theorem cw_X6_46 : CW RX6 46 yX5_climb cX5_climb 3 none 1 := ⟨in_gt 475 (by decide +kernel) rfl, in_gt 56 (by decide +kernel) rfl, in_gt 445 (by decide +kernel) rfl, by decide +kernel, by decide +kernel, by decide +kernel, by decide +kernel⟩
theorem kl_X6_49 : Cond.constantLong RX6 49 (-1) ∈ gt := in_gt 594 (by decide +kernel) rfl
theorem fn_X6_51 : FN RX6 51 1 5 := ⟨_, "FiveDice", cls1, by decide, in_nw 151 (by decide +kernel) rfl⟩
theorem cw_X6_54 : CW RX6 54 yX1_isFree cX1_isFree 3 (some .boolean) 2 := ⟨in_gt 417 (by decide +kernel) rfl, in_gt 53 (by decide +kernel) rfl, in_gt 420 (by decide +kernel) rfl, by decide +kernel, by decide +kernel, by decide +kernel, by decide +kernel⟩
theorem cw_X6_58 : CW RX6 58 yX1_pointsAt cX1_pointsAt 3 (some .int) 2 := ⟨in_gt 595 (by decide +kernel) rfl, in_gt 53 (by decide +kernel) rfl, in_gt 562 (by decide +kernel) rfl, by decide +kernel, by decide +kernel, by decide +kernel, by decide +kernel⟩
theorem cw_X6_62 : CW RX6 62 yX1_unitBefore cX1_unitBefore 2 (some .long) 1 := ⟨in_gt 421 (by decide +kernel) rfl, in_gt 53 (by decide +kernel) rfl, in_gt 424 (by decide +kernel) rfl, by decide +kernel, by decide +kernel, by decide +kernel, by decide +kernel⟩
theorem fn_X6_66 : FN RX6 66 1 0 := ⟨_, "FiveDice", cls1, by decide, in_nw 136 (by decide +kernel) rfl⟩
theorem cw_X6_70 : CW RX6 70 yX2_wholeCount cX2_wholeCount 1 (some .int) 0 := ⟨in_gt 406 (by decide +kernel) rfl, in_gt 54 (by decide +kernel) rfl, in_gt 361 (by decide +kernel) rfl, by decide +kernel, by decide +kernel, by decide +kernel, by decide +kernel⟩
theorem fn_X6_75 : FN RX6 75 2 7 := ⟨_, "FiveDice", cls2, by decide, in_nw 115 (by decide +kernel) rfl⟩
theorem cw_X6_78 : CW RX6 78 yX5_ground cX5_ground 1 (some (.array .long)) 0 := ⟨in_gt 407 (by decide +kernel) rfl, in_gt 56 (by decide +kernel) rfl, in_gt 410 (by decide +kernel) rfl, by decide +kernel, by decide +kernel, by decide +kernel, by decide +kernel⟩
theorem cw_X6_82 : CW RX6 82 yJ7_fill_bad5a cJ7_fill_bad5a 6 none 4 := ⟨in_gt 411 (by decide +kernel) rfl, in_gt 61 (by decide +kernel) rfl, in_gt 413 (by decide +kernel) rfl, by decide +kernel, by decide +kernel, by decide +kernel, by decide +kernel⟩
theorem fn_X6_88 : FN RX6 88 1 1 := ⟨_, "FiveDice", cls1, by decide, in_nw 141 (by decide +kernel) rfl⟩
theorem mm_X6_92 : Cond.methodLink RX6 92 Lib.MathLoose.max_long.x ∈ gt := in_gt 435 (by decide +kernel) rfl
-- class L 7 FiveDice
theorem cw_L_9 : CW RL 9 yX7_init cX7_init 2 none 0 := ⟨in_gt 66 (by decide +kernel) rfl, in_gt 51 (by decide +kernel) rfl, in_gt 68 (by decide +kernel) rfl, by decide +kernel, by decide +kernel, by decide +kernel, by decide +kernel⟩
-- class L 10 FiveDiceModel
theorem cw_L_12 : CW RL 12 yX8_init cX8_init 2 none 0 := ⟨in_gt 682 (by decide +kernel) rfl, in_gt 59 (by decide +kernel) rfl, in_gt 684 (by decide +kernel) rfl, by decide +kernel, by decide +kernel, by decide +kernel, by decide +kernel⟩
theorem cw_L_13 : CW RL 13 yX7_dice cX7_dice 4 (some .int) 3 := ⟨in_gt 310 (by decide +kernel) rfl, in_gt 51 (by decide +kernel) rfl, in_gt 313 (by decide +kernel) rfl, by decide +kernel, by decide +kernel, by decide +kernel, by decide +kernel⟩
theorem cw_L_17 : CW RL 17 yX8_dice cX8_dice 4 (some .int) 3 := ⟨in_gt 785 (by decide +kernel) rfl, in_gt 59 (by decide +kernel) rfl, in_gt 788 (by decide +kernel) rfl, by decide +kernel, by decide +kernel, by decide +kernel, by decide +kernel⟩
theorem cw_L_18 : CW RL 18 yX7_row cX7_row 4 (some .int) 3 := ⟨in_gt 314 (by decide +kernel) rfl, in_gt 51 (by decide +kernel) rfl, in_gt 317 (by decide +kernel) rfl, by decide +kernel, by decide +kernel, by decide +kernel, by decide +kernel⟩
theorem cw_L_21 : CW RL 21 yX8_row cX8_row 4 (some .int) 3 := ⟨in_gt 792 (by decide +kernel) rfl, in_gt 59 (by decide +kernel) rfl, in_gt 795 (by decide +kernel) rfl, by decide +kernel, by decide +kernel, by decide +kernel, by decide +kernel⟩
theorem cw_L_22 : CW RL 22 yX7_begin cX7_begin 1 (some .int) 0 := ⟨in_gt 322 (by decide +kernel) rfl, in_gt 51 (by decide +kernel) rfl, in_gt 325 (by decide +kernel) rfl, by decide +kernel, by decide +kernel, by decide +kernel, by decide +kernel⟩
theorem cw_L_26 : CW RL 26 yX8_begin cX8_begin 3 (some .int) 0 := ⟨in_gt 796 (by decide +kernel) rfl, in_gt 59 (by decide +kernel) rfl, in_gt 799 (by decide +kernel) rfl, by decide +kernel, by decide +kernel, by decide +kernel, by decide +kernel⟩
theorem cw_L_27 : CW RL 27 yX7_end cX7_end 1 (some .int) 0 := ⟨in_gt 476 (by decide +kernel) rfl, in_gt 51 (by decide +kernel) rfl, in_gt 479 (by decide +kernel) rfl, by decide +kernel, by decide +kernel, by decide +kernel, by decide +kernel⟩
theorem cw_L_30 : CW RL 30 yX8_end cX8_end 2 (some .int) 0 := ⟨in_gt 850 (by decide +kernel) rfl, in_gt 59 (by decide +kernel) rfl, in_gt 853 (by decide +kernel) rfl, by decide +kernel, by decide +kernel, by decide +kernel, by decide +kernel⟩
theorem cw_L_31 : CW RL 31 yX7_fall cX7_fall 3 (some .int) 1 := ⟨in_gt 480 (by decide +kernel) rfl, in_gt 51 (by decide +kernel) rfl, in_gt 483 (by decide +kernel) rfl, by decide +kernel, by decide +kernel, by decide +kernel, by decide +kernel⟩
theorem cw_L_35 : CW RL 35 yX8_fall cX8_fall 5 (some .int) 1 := ⟨in_gt 854 (by decide +kernel) rfl, in_gt 59 (by decide +kernel) rfl, in_gt 857 (by decide +kernel) rfl, by decide +kernel, by decide +kernel, by decide +kernel, by decide +kernel⟩
theorem cw_L_36 : CW RL 36 yX7_draw cX7_draw 5 (some .int) 1 := ⟨in_gt 516 (by decide +kernel) rfl, in_gt 51 (by decide +kernel) rfl, in_gt 519 (by decide +kernel) rfl, by decide +kernel, by decide +kernel, by decide +kernel, by decide +kernel⟩
theorem cw_L_39 : CW RL 39 yX8_draw cX8_draw 4 (some .int) 1 := ⟨in_gt 886 (by decide +kernel) rfl, in_gt 59 (by decide +kernel) rfl, in_gt 889 (by decide +kernel) rfl, by decide +kernel, by decide +kernel, by decide +kernel, by decide +kernel⟩
theorem cw_L_40 : CW RL 40 yX7_hold cX7_hold 5 (some .int) 1 := ⟨in_gt 523 (by decide +kernel) rfl, in_gt 51 (by decide +kernel) rfl, in_gt 526 (by decide +kernel) rfl, by decide +kernel, by decide +kernel, by decide +kernel, by decide +kernel⟩
theorem cw_L_43 : CW RL 43 yX8_hold cX8_hold 5 (some .int) 1 := ⟨in_gt 892 (by decide +kernel) rfl, in_gt 59 (by decide +kernel) rfl, in_gt 895 (by decide +kernel) rfl, by decide +kernel, by decide +kernel, by decide +kernel, by decide +kernel⟩
theorem cw_L_44 : CW RL 44 yX7_fill cX7_fill 5 (some .int) 1 := ⟨in_gt 547 (by decide +kernel) rfl, in_gt 51 (by decide +kernel) rfl, in_gt 550 (by decide +kernel) rfl, by decide +kernel, by decide +kernel, by decide +kernel, by decide +kernel⟩
theorem cw_L_47 : CW RL 47 yX8_fill cX8_fill 5 (some .int) 1 := ⟨in_gt 908 (by decide +kernel) rfl, in_gt 59 (by decide +kernel) rfl, in_gt 911 (by decide +kernel) rfl, by decide +kernel, by decide +kernel, by decide +kernel, by decide +kernel⟩
theorem cw_L_48 : CW RL 48 yX7_unit cX7_unit 1 (some .long) 0 := ⟨in_gt 563 (by decide +kernel) rfl, in_gt 51 (by decide +kernel) rfl, in_gt 566 (by decide +kernel) rfl, by decide +kernel, by decide +kernel, by decide +kernel, by decide +kernel⟩
theorem cw_L_52 : CW RL 52 yX8_unit cX8_unit 1 (some .long) 0 := ⟨in_gt 912 (by decide +kernel) rfl, in_gt 59 (by decide +kernel) rfl, in_gt 915 (by decide +kernel) rfl, by decide +kernel, by decide +kernel, by decide +kernel, by decide +kernel⟩
theorem cw_L_53 : CW RL 53 yX7_worth cX7_worth 1 (some .long) 0 := ⟨in_gt 568 (by decide +kernel) rfl, in_gt 51 (by decide +kernel) rfl, in_gt 571 (by decide +kernel) rfl, by decide +kernel, by decide +kernel, by decide +kernel, by decide +kernel⟩
theorem cw_L_56 : CW RL 56 yX8_worth cX8_worth 1 (some .long) 0 := ⟨in_gt 917 (by decide +kernel) rfl, in_gt 59 (by decide +kernel) rfl, in_gt 920 (by decide +kernel) rfl, by decide +kernel, by decide +kernel, by decide +kernel, by decide +kernel⟩
theorem cw_L_57 : CW RL 57 yX7_worthOf cX7_worthOf 3 (some .long) 1 := ⟨in_gt 572 (by decide +kernel) rfl, in_gt 51 (by decide +kernel) rfl, in_gt 575 (by decide +kernel) rfl, by decide +kernel, by decide +kernel, by decide +kernel, by decide +kernel⟩
theorem cw_L_61 : CW RL 61 yX8_worthOf cX8_worthOf 3 (some .long) 1 := ⟨in_gt 921 (by decide +kernel) rfl, in_gt 59 (by decide +kernel) rfl, in_gt 924 (by decide +kernel) rfl, by decide +kernel, by decide +kernel, by decide +kernel, by decide +kernel⟩
theorem cw_L_62 : CW RL 62 yX7_bestHold cX7_bestHold 1 (some .int) 0 := ⟨in_gt 577 (by decide +kernel) rfl, in_gt 51 (by decide +kernel) rfl, in_gt 580 (by decide +kernel) rfl, by decide +kernel, by decide +kernel, by decide +kernel, by decide +kernel⟩
theorem cw_L_65 : CW RL 65 yX8_bestHold cX8_bestHold 3 (some .int) 0 := ⟨in_gt 926 (by decide +kernel) rfl, in_gt 59 (by decide +kernel) rfl, in_gt 929 (by decide +kernel) rfl, by decide +kernel, by decide +kernel, by decide +kernel, by decide +kernel⟩
theorem cw_L_66 : CW RL 66 yX7_bestRow cX7_bestRow 1 (some .int) 0 := ⟨in_gt 586 (by decide +kernel) rfl, in_gt 51 (by decide +kernel) rfl, in_gt 589 (by decide +kernel) rfl, by decide +kernel, by decide +kernel, by decide +kernel, by decide +kernel⟩
theorem cw_L_69 : CW RL 69 yX8_bestRow cX8_bestRow 3 (some .int) 0 := ⟨in_gt 934 (by decide +kernel) rfl, in_gt 59 (by decide +kernel) rfl, in_gt 937 (by decide +kernel) rfl, by decide +kernel, by decide +kernel, by decide +kernel, by decide +kernel⟩
theorem cw_L_70 : CW RL 70 yX7_chance cX7_chance 4 (some .long) 1 := ⟨in_gt 596 (by decide +kernel) rfl, in_gt 51 (by decide +kernel) rfl, in_gt 599 (by decide +kernel) rfl, by decide +kernel, by decide +kernel, by decide +kernel, by decide +kernel⟩
theorem cw_L_73 : CW RL 73 yX8_chance cX8_chance 6 (some .long) 1 := ⟨in_gt 938 (by decide +kernel) rfl, in_gt 59 (by decide +kernel) rfl, in_gt 941 (by decide +kernel) rfl, by decide +kernel, by decide +kernel, by decide +kernel, by decide +kernel⟩
theorem cw_L_74 : CW RL 74 yX7_luck cX7_luck 1 (some .long) 0 := ⟨in_gt 647 (by decide +kernel) rfl, in_gt 51 (by decide +kernel) rfl, in_gt 650 (by decide +kernel) rfl, by decide +kernel, by decide +kernel, by decide +kernel, by decide +kernel⟩
theorem cw_L_77 : CW RL 77 yX8_luck cX8_luck 1 (some .long) 0 := ⟨in_gt 958 (by decide +kernel) rfl, in_gt 59 (by decide +kernel) rfl, in_gt 961 (by decide +kernel) rfl, by decide +kernel, by decide +kernel, by decide +kernel, by decide +kernel⟩
theorem cw_L_78 : CW RL 78 yX7_slip cX7_slip 1 (some .long) 0 := ⟨in_gt 651 (by decide +kernel) rfl, in_gt 51 (by decide +kernel) rfl, in_gt 654 (by decide +kernel) rfl, by decide +kernel, by decide +kernel, by decide +kernel, by decide +kernel⟩
theorem cw_L_81 : CW RL 81 yX8_slip cX8_slip 1 (some .long) 0 := ⟨in_gt 962 (by decide +kernel) rfl, in_gt 59 (by decide +kernel) rfl, in_gt 965 (by decide +kernel) rfl, by decide +kernel, by decide +kernel, by decide +kernel, by decide +kernel⟩
theorem cw_L_82 : CW RL 82 yX7_points cX7_points 3 (some .int) 2 := ⟨in_gt 655 (by decide +kernel) rfl, in_gt 51 (by decide +kernel) rfl, in_gt 658 (by decide +kernel) rfl, by decide +kernel, by decide +kernel, by decide +kernel, by decide +kernel⟩
theorem cw_L_86 : CW RL 86 yX8_points cX8_points 4 (some .int) 2 := ⟨in_gt 966 (by decide +kernel) rfl, in_gt 59 (by decide +kernel) rfl, in_gt 969 (by decide +kernel) rfl, by decide +kernel, by decide +kernel, by decide +kernel, by decide +kernel⟩
theorem cw_L_87 : CW RL 87 yX7_ways cX7_ways 2 (some .int) 1 := ⟨in_gt 661 (by decide +kernel) rfl, in_gt 51 (by decide +kernel) rfl, in_gt 664 (by decide +kernel) rfl, by decide +kernel, by decide +kernel, by decide +kernel, by decide +kernel⟩
theorem cw_L_90 : CW RL 90 yX8_ways cX8_ways 7 (some .int) 1 := ⟨in_gt 970 (by decide +kernel) rfl, in_gt 59 (by decide +kernel) rfl, in_gt 973 (by decide +kernel) rfl, by decide +kernel, by decide +kernel, by decide +kernel, by decide +kernel⟩
theorem cw_L_91 : CW RL 91 yX7_filled cX7_filled 2 (some .int) 1 := ⟨in_gt 671 (by decide +kernel) rfl, in_gt 51 (by decide +kernel) rfl, in_gt 674 (by decide +kernel) rfl, by decide +kernel, by decide +kernel, by decide +kernel, by decide +kernel⟩
theorem cw_L_94 : CW RL 94 yX8_filled cX8_filled 2 (some .int) 1 := ⟨in_gt 974 (by decide +kernel) rfl, in_gt 59 (by decide +kernel) rfl, in_gt 977 (by decide +kernel) rfl, by decide +kernel, by decide +kernel, by decide +kernel, by decide +kernel⟩
theorem cw_L_95 : CW RL 95 yX7_count cX7_count 2 (some .int) 1 := ⟨in_gt 675 (by decide +kernel) rfl, in_gt 51 (by decide +kernel) rfl, in_gt 678 (by decide +kernel) rfl, by decide +kernel, by decide +kernel, by decide +kernel, by decide +kernel⟩
theorem cw_L_98 : CW RL 98 yX8_count cX8_count 3 (some .int) 1 := ⟨in_gt 978 (by decide +kernel) rfl, in_gt 59 (by decide +kernel) rfl, in_gt 981 (by decide +kernel) rfl, by decide +kernel, by decide +kernel, by decide +kernel, by decide +kernel⟩
theorem oi_X8_1 : Cond.methodLink RX8 1 objectInit ∈ gt := in_gt 685 (by decide +kernel) rfl
theorem fl_X8_7 : FL RX8 7 8 0 := ⟨_, cls8, by decide, in_gt 687 (by decide +kernel) rfl⟩
theorem fl_X8_13 : FL RX8 13 8 1 := ⟨_, cls8, by decide, in_gt 688 (by decide +kernel) rfl⟩
theorem fl_X8_16 : FL RX8 16 8 2 := ⟨_, cls8, by decide, in_gt 689 (by decide +kernel) rfl⟩
theorem fl_X8_19 : FL RX8 19 8 4 := ⟨_, cls8, by decide, in_gt 691 (by decide +kernel) rfl⟩
theorem fl_X8_23 : FL RX8 23 8 5 := ⟨_, cls8, by decide, in_gt 692 (by decide +kernel) rfl⟩
theorem fl_X8_26 : FL RX8 26 8 6 := ⟨_, cls8, by decide, in_gt 693 (by decide +kernel) rfl⟩
theorem fl_X8_29 : FL RX8 29 8 9 := ⟨_, cls8, by decide, in_gt 696 (by decide +kernel) rfl⟩
theorem fl_X8_32 : FL RX8 32 8 10 := ⟨_, cls8, by decide, in_gt 697 (by decide +kernel) rfl⟩
theorem fl_X8_35 : FL RX8 35 8 11 := ⟨_, cls8, by decide, in_gt 698 (by decide +kernel) rfl⟩
theorem fl_X8_38 : FL RX8 38 8 12 := ⟨_, cls8, by decide, in_gt 699 (by decide +kernel) rfl⟩
theorem fl_X8_41 : FL RX8 41 8 13 := ⟨_, cls8, by decide, in_gt 700 (by decide +kernel) rfl⟩
theorem fl_X8_44 : FL RX8 44 8 16 := ⟨_, cls8, by decide, in_gt 703 (by decide +kernel) rfl⟩
theorem fl_X8_47 : FL RX8 47 8 24 := ⟨_, cls8, by decide, in_gt 711 (by decide +kernel) rfl⟩
theorem fl_X8_51 : FL RX8 51 8 25 := ⟨_, cls8, by decide, in_gt 712 (by decide +kernel) rfl⟩
theorem fl_X8_54 : FL RX8 54 8 26 := ⟨_, cls8, by decide, in_gt 713 (by decide +kernel) rfl⟩
theorem fl_X8_57 : FL RX8 57 8 27 := ⟨_, cls8, by decide, in_gt 714 (by decide +kernel) rfl⟩
theorem ki_X8_60 : Cond.constant RX8 60 (128256) ∈ gt := in_gt 686 (by decide +kernel) rfl
theorem fl_X8_61 : FL RX8 61 8 28 := ⟨_, cls8, by decide, in_gt 715 (by decide +kernel) rfl⟩
theorem fl_X8_64 : FL RX8 64 8 29 := ⟨_, cls8, by decide, in_gt 716 (by decide +kernel) rfl⟩
theorem fl_X8_68 : FL RX8 68 8 30 := ⟨_, cls8, by decide, in_gt 717 (by decide +kernel) rfl⟩
theorem fl_X8_71 : FL RX8 71 8 8 := ⟨_, cls8, by decide, in_gt 695 (by decide +kernel) rfl⟩
theorem cw_X8_74 : CW RX8 74 yX8_placeOf cX8_placeOf 6 (some .int) 2 := ⟨in_gt 813 (by decide +kernel) rfl, in_gt 59 (by decide +kernel) rfl, in_gt 816 (by decide +kernel) rfl, by decide +kernel, by decide +kernel, by decide +kernel, by decide +kernel⟩
theorem cw_X8_78 : CW RX8 78 yX8_in cX8_in 3 (some .boolean) 3 := ⟨in_gt 789 (by decide +kernel) rfl, in_gt 59 (by decide +kernel) rfl, in_gt 791 (by decide +kernel) rfl, by decide +kernel, by decide +kernel, by decide +kernel, by decide +kernel⟩
theorem fl_X8_82 : FL RX8 82 8 7 := ⟨_, cls8, by decide, in_gt 694 (by decide +kernel) rfl⟩
theorem fl_X8_86 : FL RX8 86 8 3 := ⟨_, cls8, by decide, in_gt 690 (by decide +kernel) rfl⟩
theorem fl_X8_89 : FL RX8 89 8 23 := ⟨_, cls8, by decide, in_gt 710 (by decide +kernel) rfl⟩
theorem cw_X8_93 : CW RX8 93 yX8_power cX8_power 7 (some .long) 2 := ⟨in_gt 800 (by decide +kernel) rfl, in_gt 59 (by decide +kernel) rfl, in_gt 803 (by decide +kernel) rfl, by decide +kernel, by decide +kernel, by decide +kernel, by decide +kernel⟩
theorem kl_X8_97 : Cond.constantLong RX8 97 (1000000000000000) ∈ gt := in_gt 808 (by decide +kernel) rfl
theorem cw_X8_99 : CW RX8 99 yX8_findThrown cX8_findThrown 4 none 1 := ⟨in_gt 842 (by decide +kernel) rfl, in_gt 59 (by decide +kernel) rfl, in_gt 845 (by decide +kernel) rfl, by decide +kernel, by decide +kernel, by decide +kernel, by decide +kernel⟩
theorem cw_X8_103 : CW RX8 103 yX8_isPart cX8_isPart 5 (some .boolean) 2 := ⟨in_gt 846 (by decide +kernel) rfl, in_gt 59 (by decide +kernel) rfl, in_gt 849 (by decide +kernel) rfl, by decide +kernel, by decide +kernel, by decide +kernel, by decide +kernel⟩
theorem cw_X8_107 : CW RX8 107 yX8_open cX8_open 4 (some .int) 1 := ⟨in_gt 829 (by decide +kernel) rfl, in_gt 59 (by decide +kernel) rfl, in_gt 832 (by decide +kernel) rfl, by decide +kernel, by decide +kernel, by decide +kernel, by decide +kernel⟩
theorem cw_X8_111 : CW RX8 111 yX8_unitOf cX8_unitOf 2 (some .long) 1 := ⟨in_gt 833 (by decide +kernel) rfl, in_gt 59 (by decide +kernel) rfl, in_gt 836 (by decide +kernel) rfl, by decide +kernel, by decide +kernel, by decide +kernel, by decide +kernel⟩
theorem kl_X8_115 : Cond.constantLong RX8 115 (-1) ∈ gt := in_gt 837 (by decide +kernel) rfl
theorem fl_X8_117 : FL RX8 117 8 31 := ⟨_, cls8, by decide, in_gt 718 (by decide +kernel) rfl⟩
theorem cw_X8_120 : CW RX8 120 yX8_bestRowOf cX8_bestRowOf 10 (some .long) 2 := ⟨in_gt 825 (by decide +kernel) rfl, in_gt 59 (by decide +kernel) rfl, in_gt 828 (by decide +kernel) rfl, by decide +kernel, by decide +kernel, by decide +kernel, by decide +kernel⟩
theorem cw_X8_124 : CW RX8 124 yX8_findTurn cX8_findTurn 8 none 0 := ⟨in_gt 838 (by decide +kernel) rfl, in_gt 59 (by decide +kernel) rfl, in_gt 841 (by decide +kernel) rfl, by decide +kernel, by decide +kernel, by decide +kernel, by decide +kernel⟩
theorem cw_X8_127 : CW RX8 127 yX8_isLarge cX8_isLarge 4 (some .boolean) 0 := ⟨in_gt 804 (by decide +kernel) rfl, in_gt 59 (by decide +kernel) rfl, in_gt 807 (by decide +kernel) rfl, by decide +kernel, by decide +kernel, by decide +kernel, by decide +kernel⟩
theorem cw_X8_131 : CW RX8 131 yX8_findHeaps cX8_findHeaps 7 none 0 := ⟨in_gt 809 (by decide +kernel) rfl, in_gt 59 (by decide +kernel) rfl, in_gt 812 (by decide +kernel) rfl, by decide +kernel, by decide +kernel, by decide +kernel, by decide +kernel⟩
theorem cw_X8_134 : CW RX8 134 yX8_pointsIn cX8_pointsIn 11 (some .int) 2 := ⟨in_gt 817 (by decide +kernel) rfl, in_gt 59 (by decide +kernel) rfl, in_gt 820 (by decide +kernel) rfl, by decide +kernel, by decide +kernel, by decide +kernel, by decide +kernel⟩
theorem cw_X8_138 : CW RX8 138 yX8_findWorths cX8_findWorths 3 none 1 := ⟨in_gt 821 (by decide +kernel) rfl, in_gt 59 (by decide +kernel) rfl, in_gt 824 (by decide +kernel) rfl, by decide +kernel, by decide +kernel, by decide +kernel, by decide +kernel⟩
theorem fl_X8_141 : FL RX8 141 8 14 := ⟨_, cls8, by decide, in_gt 701 (by decide +kernel) rfl⟩
theorem fl_X8_144 : FL RX8 144 8 15 := ⟨_, cls8, by decide, in_gt 702 (by decide +kernel) rfl⟩
theorem fl_X8_147 : FL RX8 147 8 17 := ⟨_, cls8, by decide, in_gt 704 (by decide +kernel) rfl⟩
theorem fl_X8_150 : FL RX8 150 8 18 := ⟨_, cls8, by decide, in_gt 705 (by decide +kernel) rfl⟩
theorem fl_X8_153 : FL RX8 153 8 19 := ⟨_, cls8, by decide, in_gt 706 (by decide +kernel) rfl⟩
theorem fl_X8_156 : FL RX8 156 8 20 := ⟨_, cls8, by decide, in_gt 707 (by decide +kernel) rfl⟩
theorem fl_X8_159 : FL RX8 159 8 21 := ⟨_, cls8, by decide, in_gt 708 (by decide +kernel) rfl⟩
theorem fl_X8_162 : FL RX8 162 8 22 := ⟨_, cls8, by decide, in_gt 709 (by decide +kernel) rfl⟩
theorem cw_X8_165 : CW RX8 165 yX8_holdWorth cX8_holdWorth 2 (some .long) 1 := ⟨in_gt 878 (by decide +kernel) rfl, in_gt 59 (by decide +kernel) rfl, in_gt 881 (by decide +kernel) rfl, by decide +kernel, by decide +kernel, by decide +kernel, by decide +kernel⟩
theorem cw_X8_168 : CW RX8 168 yX8_worthHere cX8_worthHere 1 (some .long) 0 := ⟨in_gt 874 (by decide +kernel) rfl, in_gt 59 (by decide +kernel) rfl, in_gt 877 (by decide +kernel) rfl, by decide +kernel, by decide +kernel, by decide +kernel, by decide +kernel⟩
theorem cw_X8_172 : CW RX8 172 yX8_unitHere cX8_unitHere 1 (some .long) 0 := ⟨in_gt 882 (by decide +kernel) rfl, in_gt 59 (by decide +kernel) rfl, in_gt 885 (by decide +kernel) rfl, by decide +kernel, by decide +kernel, by decide +kernel, by decide +kernel⟩
theorem cw_X8_175 : CW RX8 175 yX8_isOver cX8_isOver 1 (some .boolean) 0 := ⟨in_gt 862 (by decide +kernel) rfl, in_gt 59 (by decide +kernel) rfl, in_gt 865 (by decide +kernel) rfl, by decide +kernel, by decide +kernel, by decide +kernel, by decide +kernel⟩
theorem cw_X8_178 : CW RX8 178 yX8_stand cX8_stand 3 (some .long) 0 := ⟨in_gt 870 (by decide +kernel) rfl, in_gt 59 (by decide +kernel) rfl, in_gt 873 (by decide +kernel) rfl, by decide +kernel, by decide +kernel, by decide +kernel, by decide +kernel⟩
theorem cw_X8_181 : CW RX8 181 yX8_mayFall cX8_mayFall 1 (some .boolean) 0 := ⟨in_gt 858 (by decide +kernel) rfl, in_gt 59 (by decide +kernel) rfl, in_gt 861 (by decide +kernel) rfl, by decide +kernel, by decide +kernel, by decide +kernel, by decide +kernel⟩
theorem cw_X8_184 : CW RX8 184 yX8_came cX8_came 4 (some .int) 1 := ⟨in_gt 866 (by decide +kernel) rfl, in_gt 59 (by decide +kernel) rfl, in_gt 869 (by decide +kernel) rfl, by decide +kernel, by decide +kernel, by decide +kernel, by decide +kernel⟩
theorem ki_X8_187 : Cond.constant RX8 187 (1103515245) ∈ gt := in_gt 890 (by decide +kernel) rfl
theorem ki_X8_188 : Cond.constant RX8 188 (2147483647) ∈ gt := in_gt 891 (by decide +kernel) rfl
theorem cw_X8_189 : CW RX8 189 yX8_heapOf cX8_heapOf 5 (some .int) 1 := ⟨in_gt 904 (by decide +kernel) rfl, in_gt 59 (by decide +kernel) rfl, in_gt 907 (by decide +kernel) rfl, by decide +kernel, by decide +kernel, by decide +kernel, by decide +kernel⟩
theorem cw_X8_192 : CW RX8 192 yX8_mayHold cX8_mayHold 1 (some .boolean) 0 := ⟨in_gt 896 (by decide +kernel) rfl, in_gt 59 (by decide +kernel) rfl, in_gt 899 (by decide +kernel) rfl, by decide +kernel, by decide +kernel, by decide +kernel, by decide +kernel⟩
theorem cw_X8_195 : CW RX8 195 yX8_heldOf cX8_heldOf 3 (some .int) 1 := ⟨in_gt 900 (by decide +kernel) rfl, in_gt 59 (by decide +kernel) rfl, in_gt 903 (by decide +kernel) rfl, by decide +kernel, by decide +kernel, by decide +kernel, by decide +kernel⟩
theorem kl_X8_198 : Cond.constantLong RX8 198 (-4) ∈ gt := in_gt 916 (by decide +kernel) rfl
theorem kl_X8_200 : Cond.constantLong RX8 200 (-3) ∈ gt := in_gt 925 (by decide +kernel) rfl
theorem cw_X8_202 : CW RX8 202 yX8_isBetter cX8_isBetter 7 (some .boolean) 2 := ⟨in_gt 930 (by decide +kernel) rfl, in_gt 59 (by decide +kernel) rfl, in_gt 933 (by decide +kernel) rfl, by decide +kernel, by decide +kernel, by decide +kernel, by decide +kernel⟩
theorem cw_X8_205 : CW RX8 205 yX8_wants cX8_wants 3 (some .int) 2 := ⟨in_gt 942 (by decide +kernel) rfl, in_gt 59 (by decide +kernel) rfl, in_gt 945 (by decide +kernel) rfl, by decide +kernel, by decide +kernel, by decide +kernel, by decide +kernel⟩
theorem cw_X8_208 : CW RX8 208 yX8_ask cX8_ask 5 none 2 := ⟨in_gt 946 (by decide +kernel) rfl, in_gt 59 (by decide +kernel) rfl, in_gt 949 (by decide +kernel) rfl, by decide +kernel, by decide +kernel, by decide +kernel, by decide +kernel⟩
theorem cw_X8_212 : CW RX8 212 yX8_chanceOf cX8_chanceOf 4 (some .long) 3 := ⟨in_gt 950 (by decide +kernel) rfl, in_gt 59 (by decide +kernel) rfl, in_gt 953 (by decide +kernel) rfl, by decide +kernel, by decide +kernel, by decide +kernel, by decide +kernel⟩
theorem cw_X8_216 : CW RX8 216 yX8_findChanceTurn cX8_findChanceTurn 9 none 2 := ⟨in_gt 954 (by decide +kernel) rfl, in_gt 59 (by decide +kernel) rfl, in_gt 957 (by decide +kernel) rfl, by decide +kernel, by decide +kernel, by decide +kernel, by decide +kernel⟩
theorem cw_J7_13 : CW RJ7 13 yJ7_rangeCheck_23922 cJ7_rangeCheck_23922 3 none 3 := ⟨in_gt 414 (by decide +kernel) rfl, in_gt 61 (by decide +kernel) rfl, in_gt 416 (by decide +kernel) rfl, by decide +kernel, by decide +kernel, by decide +kernel, by decide +kernel⟩
theorem ki_J6_265 : Cond.constant RJ6 265 (1431655765) ∈ gt := in_gt 432 (by decide +kernel) rfl
theorem ki_J6_266 : Cond.constant RJ6 266 (858993459) ∈ gt := in_gt 433 (by decide +kernel) rfl
theorem ki_J6_267 : Cond.constant RJ6 267 (252645135) ∈ gt := in_gt 434 (by decide +kernel) rfl
theorem ft_0_0 : FT 0 0 (.object "FiveDice$Game") true := fun q h => by cases h; exact ⟨by decide +kernel, rfl⟩
theorem ft_0_1 : FT 0 1 (.object "FiveDice$Turn") true := fun q h => by cases h; exact ⟨by decide +kernel, rfl⟩
theorem ft_0_2 : FT 0 2 (.array .int) true := fun q h => by cases h; exact ⟨by decide +kernel, rfl⟩
theorem ft_0_3 : FT 0 3 (.array .int) true := fun q h => by cases h; exact ⟨by decide +kernel, rfl⟩
theorem ft_0_4 : FT 0 4 (.array .int) true := fun q h => by cases h; exact ⟨by decide +kernel, rfl⟩
theorem ft_0_5 : FT 0 5 (.array .long) true := fun q h => by cases h; exact ⟨by decide +kernel, rfl⟩
theorem ft_0_6 : FT 0 6 (.array .long) false := fun q h => by cases h; exact ⟨by decide +kernel, rfl⟩
theorem ft_0_7 : FT 0 7 .boolean false := fun q h => by cases h; exact ⟨by decide +kernel, rfl⟩
theorem ft_1_0 : FT 1 0 (.object "FiveDice$Heaps") true := fun q h => by cases h; exact ⟨by decide +kernel, rfl⟩
theorem ft_1_1 : FT 1 1 (.array .int) true := fun q h => by cases h; exact ⟨by decide +kernel, rfl⟩
theorem ft_1_2 : FT 1 2 (.array .long) true := fun q h => by cases h; exact ⟨by decide +kernel, rfl⟩
theorem ft_1_3 : FT 1 3 (.array .long) true := fun q h => by cases h; exact ⟨by decide +kernel, rfl⟩
theorem ft_1_4 : FT 1 4 .int false := fun q h => by cases h; exact ⟨by decide +kernel, rfl⟩
theorem ft_1_5 : FT 1 5 .int false := fun q h => by cases h; exact ⟨by decide +kernel, rfl⟩
theorem ft_2_0 : FT 2 0 (.array .int) true := fun q h => by cases h; exact ⟨by decide +kernel, rfl⟩
theorem ft_2_1 : FT 2 1 (.array .int) true := fun q h => by cases h; exact ⟨by decide +kernel, rfl⟩
theorem ft_2_2 : FT 2 2 (.array .int) true := fun q h => by cases h; exact ⟨by decide +kernel, rfl⟩
theorem ft_2_3 : FT 2 3 (.array .int) true := fun q h => by cases h; exact ⟨by decide +kernel, rfl⟩
theorem ft_2_4 : FT 2 4 .int false := fun q h => by cases h; exact ⟨by decide +kernel, rfl⟩
theorem ft_2_5 : FT 2 5 .int false := fun q h => by cases h; exact ⟨by decide +kernel, rfl⟩
theorem ft_2_6 : FT 2 6 .int false := fun q h => by cases h; exact ⟨by decide +kernel, rfl⟩
theorem ft_2_7 : FT 2 7 .int false := fun q h => by cases h; exact ⟨by decide +kernel, rfl⟩
theorem ft_3_0 : FT 3 0 .int false := fun q h => by cases h; exact ⟨by decide +kernel, rfl⟩
theorem ft_3_1 : FT 3 1 .int false := fun q h => by cases h; exact ⟨by decide +kernel, rfl⟩
theorem ft_3_2 : FT 3 2 .int false := fun q h => by cases h; exact ⟨by decide +kernel, rfl⟩
theorem ft_3_3 : FT 3 3 .int false := fun q h => by cases h; exact ⟨by decide +kernel, rfl⟩
theorem ft_4_0 : FT 4 0 (.array .int) true := fun q h => by cases h; exact ⟨by decide +kernel, rfl⟩
theorem ft_5_0 : FT 5 0 (.object "FiveDice$Game") true := fun q h => by cases h; exact ⟨by decide +kernel, rfl⟩
theorem ft_5_1 : FT 5 1 (.array (.array .long)) true := fun q h => by cases h; exact ⟨by decide +kernel, rfl⟩
theorem ft_5_2 : FT 5 2 (.array (.array .long)) true := fun q h => by cases h; exact ⟨by decide +kernel, rfl⟩
theorem ft_6_0 : FT 6 0 (.object "FiveDice$Game") true := fun q h => by cases h; exact ⟨by decide +kernel, rfl⟩
theorem ft_6_1 : FT 6 1 (.object "FiveDice$Turn") true := fun q h => by cases h; exact ⟨by decide +kernel, rfl⟩
theorem ft_6_2 : FT 6 2 (.array .long) true := fun q h => by cases h; exact ⟨by decide +kernel, rfl⟩
theorem ft_7_0 : FT 7 0 (.object "FiveDice$Tally") true := fun q h => by cases h; exact ⟨by decide +kernel, rfl⟩
theorem ft_7_1 : FT 7 1 (.array (.object "FiveDice$Row")) true := fun q h => by cases h; exact ⟨by decide +kernel, rfl⟩
theorem ft_7_2 : FT 7 2 (.object "FiveDice$Game") true := fun q h => by cases h; exact ⟨by decide +kernel, rfl⟩
theorem ft_7_3 : FT 7 3 (.object "FiveDice$Worths") true := fun q h => by cases h; exact ⟨by decide +kernel, rfl⟩
theorem ft_7_4 : FT 7 4 (.object "FiveDice$Chances") true := fun q h => by cases h; exact ⟨by decide +kernel, rfl⟩
theorem ft_7_5 : FT 7 5 .int false := fun q h => by cases h; exact ⟨by decide +kernel, rfl⟩
theorem ft_7_6 : FT 7 6 .int false := fun q h => by cases h; exact ⟨by decide +kernel, rfl⟩
theorem ft_7_7 : FT 7 7 .int false := fun q h => by cases h; exact ⟨by decide +kernel, rfl⟩
theorem ft_7_8 : FT 7 8 .int false := fun q h => by cases h; exact ⟨by decide +kernel, rfl⟩
theorem ft_7_9 : FT 7 9 .boolean false := fun q h => by cases h; exact ⟨by decide +kernel, rfl⟩
theorem ft_7_10 : FT 7 10 .int false := fun q h => by cases h; exact ⟨by decide +kernel, rfl⟩
theorem ft_7_11 : FT 7 11 .int false := fun q h => by cases h; exact ⟨by decide +kernel, rfl⟩
theorem ft_7_12 : FT 7 12 .long false := fun q h => by cases h; exact ⟨by decide +kernel, rfl⟩
theorem ft_7_13 : FT 7 13 .long false := fun q h => by cases h; exact ⟨by decide +kernel, rfl⟩
theorem ft_7_14 : FT 7 14 .boolean false := fun q h => by cases h; exact ⟨by decide +kernel, rfl⟩
theorem ft_7_15 : FT 7 15 .int false := fun q h => by cases h; exact ⟨by decide +kernel, rfl⟩
theorem ft_7_16 : FT 7 16 .int false := fun q h => by cases h; exact ⟨by decide +kernel, rfl⟩
theorem ft_7_17 : FT 7 17 .int false := fun q h => by cases h; exact ⟨by decide +kernel, rfl⟩
theorem ft_8_0 : FT 8 0 .int false := fun q h => by cases h; exact ⟨by decide +kernel, rfl⟩
theorem ft_8_1 : FT 8 1 .int false := fun q h => by cases h; exact ⟨by decide +kernel, rfl⟩
theorem ft_8_2 : FT 8 2 .int false := fun q h => by cases h; exact ⟨by decide +kernel, rfl⟩
theorem ft_8_3 : FT 8 3 .int false := fun q h => by cases h; exact ⟨by decide +kernel, rfl⟩
theorem ft_8_4 : FT 8 4 (.array .int) true := fun q h => by cases h; exact ⟨by decide +kernel, rfl⟩
theorem ft_8_5 : FT 8 5 (.array .int) true := fun q h => by cases h; exact ⟨by decide +kernel, rfl⟩
theorem ft_8_6 : FT 8 6 (.array .int) true := fun q h => by cases h; exact ⟨by decide +kernel, rfl⟩
theorem ft_8_7 : FT 8 7 .boolean false := fun q h => by cases h; exact ⟨by decide +kernel, rfl⟩
theorem ft_8_8 : FT 8 8 .int false := fun q h => by cases h; exact ⟨by decide +kernel, rfl⟩
theorem ft_8_9 : FT 8 9 (.array .int) true := fun q h => by cases h; exact ⟨by decide +kernel, rfl⟩
theorem ft_8_10 : FT 8 10 (.array .int) true := fun q h => by cases h; exact ⟨by decide +kernel, rfl⟩
theorem ft_8_11 : FT 8 11 (.array .int) true := fun q h => by cases h; exact ⟨by decide +kernel, rfl⟩
theorem ft_8_12 : FT 8 12 (.array .int) true := fun q h => by cases h; exact ⟨by decide +kernel, rfl⟩
theorem ft_8_13 : FT 8 13 (.array .int) true := fun q h => by cases h; exact ⟨by decide +kernel, rfl⟩
theorem ft_8_14 : FT 8 14 .int false := fun q h => by cases h; exact ⟨by decide +kernel, rfl⟩
theorem ft_8_15 : FT 8 15 .int false := fun q h => by cases h; exact ⟨by decide +kernel, rfl⟩
theorem ft_8_16 : FT 8 16 (.array .int) true := fun q h => by cases h; exact ⟨by decide +kernel, rfl⟩
theorem ft_8_17 : FT 8 17 .boolean false := fun q h => by cases h; exact ⟨by decide +kernel, rfl⟩
theorem ft_8_18 : FT 8 18 .boolean false := fun q h => by cases h; exact ⟨by decide +kernel, rfl⟩
theorem ft_8_19 : FT 8 19 .int false := fun q h => by cases h; exact ⟨by decide +kernel, rfl⟩
theorem ft_8_20 : FT 8 20 .int false := fun q h => by cases h; exact ⟨by decide +kernel, rfl⟩
theorem ft_8_21 : FT 8 21 .long false := fun q h => by cases h; exact ⟨by decide +kernel, rfl⟩
theorem ft_8_22 : FT 8 22 .long false := fun q h => by cases h; exact ⟨by decide +kernel, rfl⟩
theorem ft_8_23 : FT 8 23 .long false := fun q h => by cases h; exact ⟨by decide +kernel, rfl⟩
theorem ft_8_24 : FT 8 24 (.array .long) true := fun q h => by cases h; exact ⟨by decide +kernel, rfl⟩
theorem ft_8_25 : FT 8 25 (.array .long) true := fun q h => by cases h; exact ⟨by decide +kernel, rfl⟩
theorem ft_8_26 : FT 8 26 (.array .long) true := fun q h => by cases h; exact ⟨by decide +kernel, rfl⟩
theorem ft_8_27 : FT 8 27 (.array .long) true := fun q h => by cases h; exact ⟨by decide +kernel, rfl⟩
theorem ft_8_28 : FT 8 28 (.array .long) true := fun q h => by cases h; exact ⟨by decide +kernel, rfl⟩
theorem ft_8_29 : FT 8 29 (.array .boolean) true := fun q h => by cases h; exact ⟨by decide +kernel, rfl⟩
theorem ft_8_30 : FT 8 30 (.array .int) true := fun q h => by cases h; exact ⟨by decide +kernel, rfl⟩
theorem ft_8_31 : FT 8 31 .int false := fun q h => by cases h; exact ⟨by decide +kernel, rfl⟩
theorem sm_J6_bitCount_0f7a4 : Cond.static yJ6_bitCount_0f7a4 ∈ gt := in_gt 430 (by decide +kernel) rfl
theorem sm_J7_fill_53178 : Cond.static yJ7_fill_53178 ∈ gt := in_gt 367 (by decide +kernel) rfl
theorem sm_J7_fill_bad5a : Cond.static yJ7_fill_bad5a ∈ gt := in_gt 412 (by decide +kernel) rfl
theorem sm_J7_rangeCheck_23922 : Cond.static yJ7_rangeCheck_23922 ∈ gt := in_gt 415 (by decide +kernel) rfl
theorem im_X0_beforeTurn : Cond.instanceMethod yX0_beforeTurn ∈ gt := in_gt 601 (by decide +kernel) rfl
theorem se_X0_beforeTurn : Cond.selects yX0_beforeTurn.cls yX0_beforeTurn yX0_beforeTurn ∈ gt := in_gt 602 (by decide +kernel) rfl
theorem im_X0_forget : Cond.instanceMethod yX0_forget ∈ gt := in_gt 463 (by decide +kernel) rfl
theorem se_X0_forget : Cond.selects yX0_forget.cls yX0_forget yX0_forget ∈ gt := in_gt 464 (by decide +kernel) rfl
theorem im_X0_inTurn : Cond.instanceMethod yX0_inTurn ∈ gt := in_gt 643 (by decide +kernel) rfl
theorem se_X0_inTurn : Cond.selects yX0_inTurn.cls yX0_inTurn yX0_inTurn ∈ gt := in_gt 644 (by decide +kernel) rfl
theorem im_X0_init : Cond.instanceMethod yX0_init ∈ gt := in_gt 206 (by decide +kernel) rfl
theorem im_X0_layGround : Cond.instanceMethod yX0_layGround ∈ gt := in_gt 635 (by decide +kernel) rfl
theorem se_X0_layGround : Cond.selects yX0_layGround.cls yX0_layGround yX0_layGround ∈ gt := in_gt 22 (by decide +kernel) rfl
theorem im_X0_leastOfRow : Cond.instanceMethod yX0_leastOfRow ∈ gt := in_gt 615 (by decide +kernel) rfl
theorem se_X0_leastOfRow : Cond.selects yX0_leastOfRow.cls yX0_leastOfRow yX0_leastOfRow ∈ gt := in_gt 19 (by decide +kernel) rfl
theorem im_X0_makeReady : Cond.instanceMethod yX0_makeReady ∈ gt := in_gt 606 (by decide +kernel) rfl
theorem se_X0_makeReady : Cond.selects yX0_makeReady.cls yX0_makeReady yX0_makeReady ∈ gt := in_gt 17 (by decide +kernel) rfl
theorem im_X0_measureSheets : Cond.instanceMethod yX0_measureSheets ∈ gt := in_gt 610 (by decide +kernel) rfl
theorem se_X0_measureSheets : Cond.selects yX0_measureSheets.cls yX0_measureSheets yX0_measureSheets ∈ gt := in_gt 18 (by decide +kernel) rfl
theorem im_X0_mostOfRow : Cond.instanceMethod yX0_mostOfRow ∈ gt := in_gt 623 (by decide +kernel) rfl
theorem se_X0_mostOfRow : Cond.selects yX0_mostOfRow.cls yX0_mostOfRow yX0_mostOfRow ∈ gt := in_gt 20 (by decide +kernel) rfl
theorem im_X0_ofSheet : Cond.instanceMethod yX0_ofSheet ∈ gt := in_gt 630 (by decide +kernel) rfl
theorem se_X0_ofSheet : Cond.selects yX0_ofSheet.cls yX0_ofSheet yX0_ofSheet ∈ gt := in_gt 21 (by decide +kernel) rfl
theorem im_X1_freeRows : Cond.instanceMethod yX1_freeRows ∈ gt := in_gt 426 (by decide +kernel) rfl
theorem se_X1_freeRows : Cond.selects yX1_freeRows.cls yX1_freeRows yX1_freeRows ∈ gt := in_gt 427 (by decide +kernel) rfl
theorem im_X1_fullSheet : Cond.instanceMethod yX1_fullSheet ∈ gt := in_gt 399 (by decide +kernel) rfl
theorem se_X1_fullSheet : Cond.selects yX1_fullSheet.cls yX1_fullSheet yX1_fullSheet ∈ gt := in_gt 400 (by decide +kernel) rfl
theorem im_X1_init : Cond.instanceMethod yX1_init ∈ gt := in_gt 88 (by decide +kernel) rfl
theorem im_X1_isFree : Cond.instanceMethod yX1_isFree ∈ gt := in_gt 418 (by decide +kernel) rfl
theorem se_X1_isFree : Cond.selects yX1_isFree.cls yX1_isFree yX1_isFree ∈ gt := in_gt 419 (by decide +kernel) rfl
theorem im_X1_pointsAt : Cond.instanceMethod yX1_pointsAt ∈ gt := in_gt 560 (by decide +kernel) rfl
theorem se_X1_pointsAt : Cond.selects yX1_pointsAt.cls yX1_pointsAt yX1_pointsAt ∈ gt := in_gt 561 (by decide +kernel) rfl
theorem im_X1_prepare : Cond.instanceMethod yX1_prepare ∈ gt := in_gt 332 (by decide +kernel) rfl
theorem se_X1_prepare : Cond.selects yX1_prepare.cls yX1_prepare yX1_prepare ∈ gt := in_gt 333 (by decide +kernel) rfl
theorem im_X1_unitBefore : Cond.instanceMethod yX1_unitBefore ∈ gt := in_gt 422 (by decide +kernel) rfl
theorem se_X1_unitBefore : Cond.selects yX1_unitBefore.cls yX1_unitBefore yX1_unitBefore ∈ gt := in_gt 423 (by decide +kernel) rfl
theorem im_X1_writePoints : Cond.instanceMethod yX1_writePoints ∈ gt := in_gt 355 (by decide +kernel) rfl
theorem se_X1_writePoints : Cond.selects yX1_writePoints.cls yX1_writePoints yX1_writePoints ∈ gt := in_gt 356 (by decide +kernel) rfl
theorem im_X2_addLargestDie : Cond.instanceMethod yX2_addLargestDie ∈ gt := in_gt 341 (by decide +kernel) rfl
theorem se_X2_addLargestDie : Cond.selects yX2_addLargestDie.cls yX2_addLargestDie yX2_addLargestDie ∈ gt := in_gt 1 (by decide +kernel) rfl
theorem im_X2_addSmallerDie : Cond.instanceMethod yX2_addSmallerDie ∈ gt := in_gt 348 (by decide +kernel) rfl
theorem se_X2_addSmallerDie : Cond.selects yX2_addSmallerDie.cls yX2_addSmallerDie yX2_addSmallerDie ∈ gt := in_gt 2 (by decide +kernel) rfl
theorem im_X2_build : Cond.instanceMethod yX2_build ∈ gt := in_gt 336 (by decide +kernel) rfl
theorem se_X2_build : Cond.selects yX2_build.cls yX2_build yX2_build ∈ gt := in_gt 337 (by decide +kernel) rfl
theorem sm_X2_figuresOf : Cond.static yX2_figuresOf ∈ gt := in_gt 540 (by decide +kernel) rfl
theorem im_X2_holdsAll : Cond.instanceMethod yX2_holdsAll ∈ gt := in_gt 544 (by decide +kernel) rfl
theorem se_X2_holdsAll : Cond.selects yX2_holdsAll.cls yX2_holdsAll yX2_holdsAll ∈ gt := in_gt 545 (by decide +kernel) rfl
theorem im_X2_init : Cond.instanceMethod yX2_init ∈ gt := in_gt 94 (by decide +kernel) rfl
theorem im_X2_joined : Cond.instanceMethod yX2_joined ∈ gt := in_gt 485 (by decide +kernel) rfl
theorem se_X2_joined : Cond.selects yX2_joined.cls yX2_joined yX2_joined ∈ gt := in_gt 486 (by decide +kernel) rfl
theorem im_X2_partOf : Cond.instanceMethod yX2_partOf ∈ gt := in_gt 536 (by decide +kernel) rfl
theorem se_X2_partOf : Cond.selects yX2_partOf.cls yX2_partOf yX2_partOf ∈ gt := in_gt 537 (by decide +kernel) rfl
theorem im_X2_wholeCount : Cond.instanceMethod yX2_wholeCount ∈ gt := in_gt 359 (by decide +kernel) rfl
theorem se_X2_wholeCount : Cond.selects yX2_wholeCount.cls yX2_wholeCount yX2_wholeCount ∈ gt := in_gt 360 (by decide +kernel) rfl
theorem im_X2_withDie : Cond.instanceMethod yX2_withDie ∈ gt := in_gt 351 (by decide +kernel) rfl
theorem se_X2_withDie : Cond.selects yX2_withDie.cls yX2_withDie yX2_withDie ∈ gt := in_gt 352 (by decide +kernel) rfl
theorem im_X3_become : Cond.instanceMethod yX3_become ∈ gt := in_gt 319 (by decide +kernel) rfl
theorem se_X3_become : Cond.selects yX3_become.cls yX3_become yX3_become ∈ gt := in_gt 320 (by decide +kernel) rfl
theorem im_X3_init : Cond.instanceMethod yX3_init ∈ gt := in_gt 238 (by decide +kernel) rfl
theorem im_X3_pointsOf : Cond.instanceMethod yX3_pointsOf ∈ gt := in_gt 370 (by decide +kernel) rfl
theorem se_X3_pointsOf : Cond.selects yX3_pointsOf.cls yX3_pointsOf yX3_pointsOf ∈ gt := in_gt 371 (by decide +kernel) rfl
theorem im_X4_init : Cond.instanceMethod yX4_init ∈ gt := in_gt 75 (by decide +kernel) rfl
theorem im_X4_longestRun : Cond.instanceMethod yX4_longestRun ∈ gt := in_gt 387 (by decide +kernel) rfl
theorem se_X4_longestRun : Cond.selects yX4_longestRun.cls yX4_longestRun yX4_longestRun ∈ gt := in_gt 388 (by decide +kernel) rfl
theorem im_X4_mostAlike : Cond.instanceMethod yX4_mostAlike ∈ gt := in_gt 378 (by decide +kernel) rfl
theorem se_X4_mostAlike : Cond.selects yX4_mostAlike.cls yX4_mostAlike yX4_mostAlike ∈ gt := in_gt 379 (by decide +kernel) rfl
theorem im_X4_orders : Cond.instanceMethod yX4_orders ∈ gt := in_gt 666 (by decide +kernel) rfl
theorem se_X4_orders : Cond.selects yX4_orders.cls yX4_orders yX4_orders ∈ gt := in_gt 667 (by decide +kernel) rfl
theorem im_X4_read : Cond.instanceMethod yX4_read ∈ gt := in_gt 363 (by decide +kernel) rfl
theorem se_X4_read : Cond.selects yX4_read.cls yX4_read yX4_read ∈ gt := in_gt 364 (by decide +kernel) rfl
theorem im_X4_showing : Cond.instanceMethod yX4_showing ∈ gt := in_gt 374 (by decide +kernel) rfl
theorem se_X4_showing : Cond.selects yX4_showing.cls yX4_showing yX4_showing ∈ gt := in_gt 375 (by decide +kernel) rfl
theorem im_X4_sidesShownBy : Cond.instanceMethod yX4_sidesShownBy ∈ gt := in_gt 391 (by decide +kernel) rfl
theorem se_X4_sidesShownBy : Cond.selects yX4_sidesShownBy.cls yX4_sidesShownBy yX4_sidesShownBy ∈ gt := in_gt 392 (by decide +kernel) rfl
theorem im_X4_total : Cond.instanceMethod yX4_total ∈ gt := in_gt 383 (by decide +kernel) rfl
theorem se_X4_total : Cond.selects yX4_total.cls yX4_total yX4_total ∈ gt := in_gt 384 (by decide +kernel) rfl
theorem im_X5_bestHoldOf : Cond.instanceMethod yX5_bestHoldOf ∈ gt := in_gt 582 (by decide +kernel) rfl
theorem se_X5_bestHoldOf : Cond.selects yX5_bestHoldOf.cls yX5_bestHoldOf yX5_bestHoldOf ∈ gt := in_gt 583 (by decide +kernel) rfl
theorem im_X5_bringToUnit : Cond.instanceMethod yX5_bringToUnit ∈ gt := in_gt 456 (by decide +kernel) rfl
theorem se_X5_bringToUnit : Cond.selects yX5_bringToUnit.cls yX5_bringToUnit yX5_bringToUnit ∈ gt := in_gt 5 (by decide +kernel) rfl
theorem im_X5_chooseHolds : Cond.instanceMethod yX5_chooseHolds ∈ gt := in_gt 460 (by decide +kernel) rfl
theorem se_X5_chooseHolds : Cond.selects yX5_chooseHolds.cls yX5_chooseHolds yX5_chooseHolds ∈ gt := in_gt 6 (by decide +kernel) rfl
theorem im_X5_climb : Cond.instanceMethod yX5_climb ∈ gt := in_gt 443 (by decide +kernel) rfl
theorem se_X5_climb : Cond.selects yX5_climb.cls yX5_climb yX5_climb ∈ gt := in_gt 444 (by decide +kernel) rfl
theorem im_X5_ground : Cond.instanceMethod yX5_ground ∈ gt := in_gt 408 (by decide +kernel) rfl
theorem se_X5_ground : Cond.selects yX5_ground.cls yX5_ground yX5_ground ∈ gt := in_gt 409 (by decide +kernel) rfl
theorem im_X5_init : Cond.instanceMethod yX5_init ∈ gt := in_gt 176 (by decide +kernel) rfl
theorem im_X5_throwOthers : Cond.instanceMethod yX5_throwOthers ∈ gt := in_gt 448 (by decide +kernel) rfl
theorem se_X5_throwOthers : Cond.selects yX5_throwOthers.cls yX5_throwOthers yX5_throwOthers ∈ gt := in_gt 4 (by decide +kernel) rfl
theorem im_X5_valueBefore : Cond.instanceMethod yX5_valueBefore ∈ gt := in_gt 439 (by decide +kernel) rfl
theorem se_X5_valueBefore : Cond.selects yX5_valueBefore.cls yX5_valueBefore yX5_valueBefore ∈ gt := in_gt 440 (by decide +kernel) rfl
theorem im_X5_valueOfHeap : Cond.instanceMethod yX5_valueOfHeap ∈ gt := in_gt 509 (by decide +kernel) rfl
theorem se_X5_valueOfHeap : Cond.selects yX5_valueOfHeap.cls yX5_valueOfHeap yX5_valueOfHeap ∈ gt := in_gt 510 (by decide +kernel) rfl
theorem im_X5_valueOfHold : Cond.instanceMethod yX5_valueOfHold ∈ gt := in_gt 505 (by decide +kernel) rfl
theorem se_X5_valueOfHold : Cond.selects yX5_valueOfHold.cls yX5_valueOfHold yX5_valueOfHold ∈ gt := in_gt 506 (by decide +kernel) rfl
theorem im_X6_bestRowFor : Cond.instanceMethod yX6_bestRowFor ∈ gt := in_gt 591 (by decide +kernel) rfl
theorem se_X6_bestRowFor : Cond.selects yX6_bestRowFor.cls yX6_bestRowFor yX6_bestRowFor ∈ gt := in_gt 592 (by decide +kernel) rfl
theorem im_X6_init : Cond.instanceMethod yX6_init ∈ gt := in_gt 170 (by decide +kernel) rfl
theorem im_X6_layGround : Cond.instanceMethod yX6_layGround ∈ gt := in_gt 404 (by decide +kernel) rfl
theorem se_X6_layGround : Cond.selects yX6_layGround.cls yX6_layGround yX6_layGround ∈ gt := in_gt 3 (by decide +kernel) rfl
theorem im_X6_lookAt : Cond.instanceMethod yX6_lookAt ∈ gt := in_gt 472 (by decide +kernel) rfl
theorem se_X6_lookAt : Cond.selects yX6_lookAt.cls yX6_lookAt yX6_lookAt ∈ gt := in_gt 473 (by decide +kernel) rfl
theorem im_X6_reckonAll : Cond.instanceMethod yX6_reckonAll ∈ gt := in_gt 395 (by decide +kernel) rfl
theorem se_X6_reckonAll : Cond.selects yX6_reckonAll.cls yX6_reckonAll yX6_reckonAll ∈ gt := in_gt 396 (by decide +kernel) rfl
theorem im_X7_begin : Cond.instanceMethod yX7_begin ∈ gt := in_gt 323 (by decide +kernel) rfl
theorem se_X7_begin : Cond.selects yX7_begin.cls yX7_begin yX7_begin ∈ gt := in_gt 324 (by decide +kernel) rfl
theorem im_X7_bestHold : Cond.instanceMethod yX7_bestHold ∈ gt := in_gt 578 (by decide +kernel) rfl
theorem se_X7_bestHold : Cond.selects yX7_bestHold.cls yX7_bestHold yX7_bestHold ∈ gt := in_gt 579 (by decide +kernel) rfl
theorem im_X7_bestRow : Cond.instanceMethod yX7_bestRow ∈ gt := in_gt 587 (by decide +kernel) rfl
theorem se_X7_bestRow : Cond.selects yX7_bestRow.cls yX7_bestRow yX7_bestRow ∈ gt := in_gt 588 (by decide +kernel) rfl
theorem im_X7_chance : Cond.instanceMethod yX7_chance ∈ gt := in_gt 597 (by decide +kernel) rfl
theorem se_X7_chance : Cond.selects yX7_chance.cls yX7_chance yX7_chance ∈ gt := in_gt 598 (by decide +kernel) rfl
theorem im_X7_comeToHeap : Cond.instanceMethod yX7_comeToHeap ∈ gt := in_gt 490 (by decide +kernel) rfl
theorem se_X7_comeToHeap : Cond.selects yX7_comeToHeap.cls yX7_comeToHeap yX7_comeToHeap ∈ gt := in_gt 8 (by decide +kernel) rfl
theorem im_X7_comeToTurn : Cond.instanceMethod yX7_comeToTurn ∈ gt := in_gt 468 (by decide +kernel) rfl
theorem se_X7_comeToTurn : Cond.selects yX7_comeToTurn.cls yX7_comeToTurn yX7_comeToTurn ∈ gt := in_gt 7 (by decide +kernel) rfl
theorem im_X7_count : Cond.instanceMethod yX7_count ∈ gt := in_gt 676 (by decide +kernel) rfl
theorem se_X7_count : Cond.selects yX7_count.cls yX7_count yX7_count ∈ gt := in_gt 677 (by decide +kernel) rfl
theorem im_X7_dice : Cond.instanceMethod yX7_dice ∈ gt := in_gt 311 (by decide +kernel) rfl
theorem se_X7_dice : Cond.selects yX7_dice.cls yX7_dice yX7_dice ∈ gt := in_gt 312 (by decide +kernel) rfl
theorem im_X7_draw : Cond.instanceMethod yX7_draw ∈ gt := in_gt 517 (by decide +kernel) rfl
theorem se_X7_draw : Cond.selects yX7_draw.cls yX7_draw yX7_draw ∈ gt := in_gt 518 (by decide +kernel) rfl
theorem im_X7_end : Cond.instanceMethod yX7_end ∈ gt := in_gt 477 (by decide +kernel) rfl
theorem se_X7_end : Cond.selects yX7_end.cls yX7_end yX7_end ∈ gt := in_gt 478 (by decide +kernel) rfl
theorem im_X7_fall : Cond.instanceMethod yX7_fall ∈ gt := in_gt 481 (by decide +kernel) rfl
theorem se_X7_fall : Cond.selects yX7_fall.cls yX7_fall yX7_fall ∈ gt := in_gt 482 (by decide +kernel) rfl
theorem im_X7_fill : Cond.instanceMethod yX7_fill ∈ gt := in_gt 548 (by decide +kernel) rfl
theorem se_X7_fill : Cond.selects yX7_fill.cls yX7_fill yX7_fill ∈ gt := in_gt 549 (by decide +kernel) rfl
theorem im_X7_filled : Cond.instanceMethod yX7_filled ∈ gt := in_gt 672 (by decide +kernel) rfl
theorem se_X7_filled : Cond.selects yX7_filled.cls yX7_filled yX7_filled ∈ gt := in_gt 673 (by decide +kernel) rfl
theorem im_X7_hasHeap : Cond.instanceMethod yX7_hasHeap ∈ gt := in_gt 533 (by decide +kernel) rfl
theorem se_X7_hasHeap : Cond.selects yX7_hasHeap.cls yX7_hasHeap yX7_hasHeap ∈ gt := in_gt 14 (by decide +kernel) rfl
theorem im_X7_hold : Cond.instanceMethod yX7_hold ∈ gt := in_gt 524 (by decide +kernel) rfl
theorem se_X7_hold : Cond.selects yX7_hold.cls yX7_hold yX7_hold ∈ gt := in_gt 525 (by decide +kernel) rfl
theorem im_X7_init : Cond.instanceMethod yX7_init ∈ gt := in_gt 67 (by decide +kernel) rfl
theorem im_X7_isFilled : Cond.instanceMethod yX7_isFilled ∈ gt := in_gt 557 (by decide +kernel) rfl
theorem se_X7_isFilled : Cond.selects yX7_isFilled.cls yX7_isFilled yX7_isFilled ∈ gt := in_gt 16 (by decide +kernel) rfl
theorem im_X7_isLarge : Cond.instanceMethod yX7_isLarge ∈ gt := in_gt 328 (by decide +kernel) rfl
theorem se_X7_isLarge : Cond.selects yX7_isLarge.cls yX7_isLarge yX7_isLarge ∈ gt := in_gt 0 (by decide +kernel) rfl
theorem im_X7_isRow : Cond.instanceMethod yX7_isRow ∈ gt := in_gt 553 (by decide +kernel) rfl
theorem se_X7_isRow : Cond.selects yX7_isRow.cls yX7_isRow yX7_isRow ∈ gt := in_gt 15 (by decide +kernel) rfl
theorem im_X7_luck : Cond.instanceMethod yX7_luck ∈ gt := in_gt 648 (by decide +kernel) rfl
theorem se_X7_luck : Cond.selects yX7_luck.cls yX7_luck yX7_luck ∈ gt := in_gt 649 (by decide +kernel) rfl
theorem im_X7_mayHold : Cond.instanceMethod yX7_mayHold ∈ gt := in_gt 529 (by decide +kernel) rfl
theorem se_X7_mayHold : Cond.selects yX7_mayHold.cls yX7_mayHold yX7_mayHold ∈ gt := in_gt 13 (by decide +kernel) rfl
theorem im_X7_points : Cond.instanceMethod yX7_points ∈ gt := in_gt 656 (by decide +kernel) rfl
theorem se_X7_points : Cond.selects yX7_points.cls yX7_points yX7_points ∈ gt := in_gt 657 (by decide +kernel) rfl
theorem im_X7_row : Cond.instanceMethod yX7_row ∈ gt := in_gt 315 (by decide +kernel) rfl
theorem se_X7_row : Cond.selects yX7_row.cls yX7_row yX7_row ∈ gt := in_gt 316 (by decide +kernel) rfl
theorem im_X7_slip : Cond.instanceMethod yX7_slip ∈ gt := in_gt 652 (by decide +kernel) rfl
theorem se_X7_slip : Cond.selects yX7_slip.cls yX7_slip yX7_slip ∈ gt := in_gt 653 (by decide +kernel) rfl
theorem im_X7_stand : Cond.instanceMethod yX7_stand ∈ gt := in_gt 494 (by decide +kernel) rfl
theorem se_X7_stand : Cond.selects yX7_stand.cls yX7_stand yX7_stand ∈ gt := in_gt 9 (by decide +kernel) rfl
theorem im_X7_unit : Cond.instanceMethod yX7_unit ∈ gt := in_gt 564 (by decide +kernel) rfl
theorem se_X7_unit : Cond.selects yX7_unit.cls yX7_unit yX7_unit ∈ gt := in_gt 565 (by decide +kernel) rfl
theorem im_X7_unitPower : Cond.instanceMethod yX7_unitPower ∈ gt := in_gt 514 (by decide +kernel) rfl
theorem se_X7_unitPower : Cond.selects yX7_unitPower.cls yX7_unitPower yX7_unitPower ∈ gt := in_gt 12 (by decide +kernel) rfl
theorem im_X7_valueIn : Cond.instanceMethod yX7_valueIn ∈ gt := in_gt 502 (by decide +kernel) rfl
theorem se_X7_valueIn : Cond.selects yX7_valueIn.cls yX7_valueIn yX7_valueIn ∈ gt := in_gt 11 (by decide +kernel) rfl
theorem im_X7_ways : Cond.instanceMethod yX7_ways ∈ gt := in_gt 662 (by decide +kernel) rfl
theorem se_X7_ways : Cond.selects yX7_ways.cls yX7_ways yX7_ways ∈ gt := in_gt 663 (by decide +kernel) rfl
theorem im_X7_worth : Cond.instanceMethod yX7_worth ∈ gt := in_gt 569 (by decide +kernel) rfl
theorem se_X7_worth : Cond.selects yX7_worth.cls yX7_worth yX7_worth ∈ gt := in_gt 570 (by decide +kernel) rfl
theorem im_X7_worthHere : Cond.instanceMethod yX7_worthHere ∈ gt := in_gt 498 (by decide +kernel) rfl
theorem se_X7_worthHere : Cond.selects yX7_worthHere.cls yX7_worthHere yX7_worthHere ∈ gt := in_gt 10 (by decide +kernel) rfl
theorem im_X7_worthOf : Cond.instanceMethod yX7_worthOf ∈ gt := in_gt 573 (by decide +kernel) rfl
theorem se_X7_worthOf : Cond.selects yX7_worthOf.cls yX7_worthOf yX7_worthOf ∈ gt := in_gt 574 (by decide +kernel) rfl
theorem im_X8_ask : Cond.instanceMethod yX8_ask ∈ gt := in_gt 948 (by decide +kernel) rfl
theorem se_X8_ask : Cond.selects yX8_ask.cls yX8_ask yX8_ask ∈ gt := in_gt 47 (by decide +kernel) rfl
theorem im_X8_begin : Cond.instanceMethod yX8_begin ∈ gt := in_gt 797 (by decide +kernel) rfl
theorem se_X8_begin : Cond.selects yX8_begin.cls yX8_begin yX8_begin ∈ gt := in_gt 798 (by decide +kernel) rfl
theorem im_X8_bestHold : Cond.instanceMethod yX8_bestHold ∈ gt := in_gt 927 (by decide +kernel) rfl
theorem se_X8_bestHold : Cond.selects yX8_bestHold.cls yX8_bestHold yX8_bestHold ∈ gt := in_gt 928 (by decide +kernel) rfl
theorem im_X8_bestRow : Cond.instanceMethod yX8_bestRow ∈ gt := in_gt 935 (by decide +kernel) rfl
theorem se_X8_bestRow : Cond.selects yX8_bestRow.cls yX8_bestRow yX8_bestRow ∈ gt := in_gt 936 (by decide +kernel) rfl
theorem im_X8_bestRowOf : Cond.instanceMethod yX8_bestRowOf ∈ gt := in_gt 827 (by decide +kernel) rfl
theorem se_X8_bestRowOf : Cond.selects yX8_bestRowOf.cls yX8_bestRowOf yX8_bestRowOf ∈ gt := in_gt 29 (by decide +kernel) rfl
theorem im_X8_came : Cond.instanceMethod yX8_came ∈ gt := in_gt 868 (by decide +kernel) rfl
theorem se_X8_came : Cond.selects yX8_came.cls yX8_came yX8_came ∈ gt := in_gt 37 (by decide +kernel) rfl
theorem im_X8_chance : Cond.instanceMethod yX8_chance ∈ gt := in_gt 939 (by decide +kernel) rfl
theorem se_X8_chance : Cond.selects yX8_chance.cls yX8_chance yX8_chance ∈ gt := in_gt 940 (by decide +kernel) rfl
theorem im_X8_chanceOf : Cond.instanceMethod yX8_chanceOf ∈ gt := in_gt 952 (by decide +kernel) rfl
theorem se_X8_chanceOf : Cond.selects yX8_chanceOf.cls yX8_chanceOf yX8_chanceOf ∈ gt := in_gt 48 (by decide +kernel) rfl
theorem im_X8_count : Cond.instanceMethod yX8_count ∈ gt := in_gt 979 (by decide +kernel) rfl
theorem se_X8_count : Cond.selects yX8_count.cls yX8_count yX8_count ∈ gt := in_gt 980 (by decide +kernel) rfl
theorem im_X8_dice : Cond.instanceMethod yX8_dice ∈ gt := in_gt 786 (by decide +kernel) rfl
theorem se_X8_dice : Cond.selects yX8_dice.cls yX8_dice yX8_dice ∈ gt := in_gt 787 (by decide +kernel) rfl
theorem im_X8_draw : Cond.instanceMethod yX8_draw ∈ gt := in_gt 887 (by decide +kernel) rfl
theorem se_X8_draw : Cond.selects yX8_draw.cls yX8_draw yX8_draw ∈ gt := in_gt 888 (by decide +kernel) rfl
theorem im_X8_end : Cond.instanceMethod yX8_end ∈ gt := in_gt 851 (by decide +kernel) rfl
theorem se_X8_end : Cond.selects yX8_end.cls yX8_end yX8_end ∈ gt := in_gt 852 (by decide +kernel) rfl
theorem im_X8_fall : Cond.instanceMethod yX8_fall ∈ gt := in_gt 855 (by decide +kernel) rfl
theorem se_X8_fall : Cond.selects yX8_fall.cls yX8_fall yX8_fall ∈ gt := in_gt 856 (by decide +kernel) rfl
theorem im_X8_fill : Cond.instanceMethod yX8_fill ∈ gt := in_gt 909 (by decide +kernel) rfl
theorem se_X8_fill : Cond.selects yX8_fill.cls yX8_fill yX8_fill ∈ gt := in_gt 910 (by decide +kernel) rfl
theorem im_X8_filled : Cond.instanceMethod yX8_filled ∈ gt := in_gt 975 (by decide +kernel) rfl
theorem se_X8_filled : Cond.selects yX8_filled.cls yX8_filled yX8_filled ∈ gt := in_gt 976 (by decide +kernel) rfl
theorem im_X8_findChanceTurn : Cond.instanceMethod yX8_findChanceTurn ∈ gt := in_gt 956 (by decide +kernel) rfl
theorem se_X8_findChanceTurn : Cond.selects yX8_findChanceTurn.cls yX8_findChanceTurn yX8_findChanceTurn ∈ gt := in_gt 49 (by decide +kernel) rfl
theorem im_X8_findHeaps : Cond.instanceMethod yX8_findHeaps ∈ gt := in_gt 811 (by decide +kernel) rfl
theorem se_X8_findHeaps : Cond.selects yX8_findHeaps.cls yX8_findHeaps yX8_findHeaps ∈ gt := in_gt 25 (by decide +kernel) rfl
theorem im_X8_findThrown : Cond.instanceMethod yX8_findThrown ∈ gt := in_gt 844 (by decide +kernel) rfl
theorem se_X8_findThrown : Cond.selects yX8_findThrown.cls yX8_findThrown yX8_findThrown ∈ gt := in_gt 33 (by decide +kernel) rfl
theorem im_X8_findTurn : Cond.instanceMethod yX8_findTurn ∈ gt := in_gt 840 (by decide +kernel) rfl
theorem se_X8_findTurn : Cond.selects yX8_findTurn.cls yX8_findTurn yX8_findTurn ∈ gt := in_gt 32 (by decide +kernel) rfl
theorem im_X8_findWorths : Cond.instanceMethod yX8_findWorths ∈ gt := in_gt 823 (by decide +kernel) rfl
theorem se_X8_findWorths : Cond.selects yX8_findWorths.cls yX8_findWorths yX8_findWorths ∈ gt := in_gt 28 (by decide +kernel) rfl
theorem im_X8_heapOf : Cond.instanceMethod yX8_heapOf ∈ gt := in_gt 906 (by decide +kernel) rfl
theorem se_X8_heapOf : Cond.selects yX8_heapOf.cls yX8_heapOf yX8_heapOf ∈ gt := in_gt 44 (by decide +kernel) rfl
theorem im_X8_heldOf : Cond.instanceMethod yX8_heldOf ∈ gt := in_gt 902 (by decide +kernel) rfl
theorem se_X8_heldOf : Cond.selects yX8_heldOf.cls yX8_heldOf yX8_heldOf ∈ gt := in_gt 43 (by decide +kernel) rfl
theorem im_X8_hold : Cond.instanceMethod yX8_hold ∈ gt := in_gt 893 (by decide +kernel) rfl
theorem se_X8_hold : Cond.selects yX8_hold.cls yX8_hold yX8_hold ∈ gt := in_gt 894 (by decide +kernel) rfl
theorem im_X8_holdWorth : Cond.instanceMethod yX8_holdWorth ∈ gt := in_gt 880 (by decide +kernel) rfl
theorem se_X8_holdWorth : Cond.selects yX8_holdWorth.cls yX8_holdWorth yX8_holdWorth ∈ gt := in_gt 40 (by decide +kernel) rfl
theorem sm_X8_in : Cond.static yX8_in ∈ gt := in_gt 790 (by decide +kernel) rfl
theorem im_X8_init : Cond.instanceMethod yX8_init ∈ gt := in_gt 683 (by decide +kernel) rfl
theorem im_X8_isBetter : Cond.instanceMethod yX8_isBetter ∈ gt := in_gt 932 (by decide +kernel) rfl
theorem se_X8_isBetter : Cond.selects yX8_isBetter.cls yX8_isBetter yX8_isBetter ∈ gt := in_gt 45 (by decide +kernel) rfl
theorem im_X8_isLarge : Cond.instanceMethod yX8_isLarge ∈ gt := in_gt 806 (by decide +kernel) rfl
theorem se_X8_isLarge : Cond.selects yX8_isLarge.cls yX8_isLarge yX8_isLarge ∈ gt := in_gt 24 (by decide +kernel) rfl
theorem im_X8_isOver : Cond.instanceMethod yX8_isOver ∈ gt := in_gt 864 (by decide +kernel) rfl
theorem se_X8_isOver : Cond.selects yX8_isOver.cls yX8_isOver yX8_isOver ∈ gt := in_gt 36 (by decide +kernel) rfl
theorem im_X8_isPart : Cond.instanceMethod yX8_isPart ∈ gt := in_gt 848 (by decide +kernel) rfl
theorem se_X8_isPart : Cond.selects yX8_isPart.cls yX8_isPart yX8_isPart ∈ gt := in_gt 34 (by decide +kernel) rfl
theorem im_X8_luck : Cond.instanceMethod yX8_luck ∈ gt := in_gt 959 (by decide +kernel) rfl
theorem se_X8_luck : Cond.selects yX8_luck.cls yX8_luck yX8_luck ∈ gt := in_gt 960 (by decide +kernel) rfl
theorem im_X8_mayFall : Cond.instanceMethod yX8_mayFall ∈ gt := in_gt 860 (by decide +kernel) rfl
theorem se_X8_mayFall : Cond.selects yX8_mayFall.cls yX8_mayFall yX8_mayFall ∈ gt := in_gt 35 (by decide +kernel) rfl
theorem im_X8_mayHold : Cond.instanceMethod yX8_mayHold ∈ gt := in_gt 898 (by decide +kernel) rfl
theorem se_X8_mayHold : Cond.selects yX8_mayHold.cls yX8_mayHold yX8_mayHold ∈ gt := in_gt 42 (by decide +kernel) rfl
theorem im_X8_open : Cond.instanceMethod yX8_open ∈ gt := in_gt 831 (by decide +kernel) rfl
theorem se_X8_open : Cond.selects yX8_open.cls yX8_open yX8_open ∈ gt := in_gt 30 (by decide +kernel) rfl
theorem im_X8_placeOf : Cond.instanceMethod yX8_placeOf ∈ gt := in_gt 815 (by decide +kernel) rfl
theorem se_X8_placeOf : Cond.selects yX8_placeOf.cls yX8_placeOf yX8_placeOf ∈ gt := in_gt 26 (by decide +kernel) rfl
theorem im_X8_points : Cond.instanceMethod yX8_points ∈ gt := in_gt 967 (by decide +kernel) rfl
theorem se_X8_points : Cond.selects yX8_points.cls yX8_points yX8_points ∈ gt := in_gt 968 (by decide +kernel) rfl
theorem im_X8_pointsIn : Cond.instanceMethod yX8_pointsIn ∈ gt := in_gt 819 (by decide +kernel) rfl
theorem se_X8_pointsIn : Cond.selects yX8_pointsIn.cls yX8_pointsIn yX8_pointsIn ∈ gt := in_gt 27 (by decide +kernel) rfl
theorem im_X8_power : Cond.instanceMethod yX8_power ∈ gt := in_gt 802 (by decide +kernel) rfl
theorem se_X8_power : Cond.selects yX8_power.cls yX8_power yX8_power ∈ gt := in_gt 23 (by decide +kernel) rfl
theorem im_X8_row : Cond.instanceMethod yX8_row ∈ gt := in_gt 793 (by decide +kernel) rfl
theorem se_X8_row : Cond.selects yX8_row.cls yX8_row yX8_row ∈ gt := in_gt 794 (by decide +kernel) rfl
theorem im_X8_slip : Cond.instanceMethod yX8_slip ∈ gt := in_gt 963 (by decide +kernel) rfl
theorem se_X8_slip : Cond.selects yX8_slip.cls yX8_slip yX8_slip ∈ gt := in_gt 964 (by decide +kernel) rfl
theorem im_X8_stand : Cond.instanceMethod yX8_stand ∈ gt := in_gt 872 (by decide +kernel) rfl
theorem se_X8_stand : Cond.selects yX8_stand.cls yX8_stand yX8_stand ∈ gt := in_gt 38 (by decide +kernel) rfl
theorem im_X8_unit : Cond.instanceMethod yX8_unit ∈ gt := in_gt 913 (by decide +kernel) rfl
theorem se_X8_unit : Cond.selects yX8_unit.cls yX8_unit yX8_unit ∈ gt := in_gt 914 (by decide +kernel) rfl
theorem im_X8_unitHere : Cond.instanceMethod yX8_unitHere ∈ gt := in_gt 884 (by decide +kernel) rfl
theorem se_X8_unitHere : Cond.selects yX8_unitHere.cls yX8_unitHere yX8_unitHere ∈ gt := in_gt 41 (by decide +kernel) rfl
theorem im_X8_unitOf : Cond.instanceMethod yX8_unitOf ∈ gt := in_gt 835 (by decide +kernel) rfl
theorem se_X8_unitOf : Cond.selects yX8_unitOf.cls yX8_unitOf yX8_unitOf ∈ gt := in_gt 31 (by decide +kernel) rfl
theorem im_X8_wants : Cond.instanceMethod yX8_wants ∈ gt := in_gt 944 (by decide +kernel) rfl
theorem se_X8_wants : Cond.selects yX8_wants.cls yX8_wants yX8_wants ∈ gt := in_gt 46 (by decide +kernel) rfl
theorem im_X8_ways : Cond.instanceMethod yX8_ways ∈ gt := in_gt 971 (by decide +kernel) rfl
theorem se_X8_ways : Cond.selects yX8_ways.cls yX8_ways yX8_ways ∈ gt := in_gt 972 (by decide +kernel) rfl
theorem im_X8_worth : Cond.instanceMethod yX8_worth ∈ gt := in_gt 918 (by decide +kernel) rfl
theorem se_X8_worth : Cond.selects yX8_worth.cls yX8_worth yX8_worth ∈ gt := in_gt 919 (by decide +kernel) rfl
theorem im_X8_worthHere : Cond.instanceMethod yX8_worthHere ∈ gt := in_gt 876 (by decide +kernel) rfl
theorem se_X8_worthHere : Cond.selects yX8_worthHere.cls yX8_worthHere yX8_worthHere ∈ gt := in_gt 39 (by decide +kernel) rfl
theorem im_X8_worthOf : Cond.instanceMethod yX8_worthOf ∈ gt := in_gt 922 (by decide +kernel) rfl
theorem se_X8_worthOf : Cond.selects yX8_worthOf.cls yX8_worthOf yX8_worthOf ∈ gt := in_gt 923 (by decide +kernel) rfl
theorem w_mx1 : Cond.static Lib.Math.max.name ∈ gt := in_gt 344 (by decide +kernel) rfl
theorem w_mx2 : Cond.code Lib.Math.max.name Lib.Math.max.code 2 (some .int) ∈ gt := in_gt 345 (by decide +kernel) rfl
theorem w_mi1 : Cond.static Lib.Math.min.name ∈ gt := in_gt 619 (by decide +kernel) rfl
theorem w_mi2 : Cond.code Lib.Math.min.name Lib.Math.min.code 2 (some .int) ∈ gt := in_gt 620 (by decide +kernel) rfl
theorem w_ml1 : Cond.static Lib.MathLoose.max_long.x ∈ gt := in_gt 436 (by decide +kernel) rfl
theorem w_ml2 : Cond.code Lib.MathLoose.max_long.x Lib.MathLoose.max_long.code 4 (some .long) ∈ gt := in_gt 437 (by decide +kernel) rfl
theorem w_mth : Cond.initialized "java/lang/Math" ∈ gt := in_gt 60 (by decide +kernel) rfl
theorem w_oi2 : Cond.instanceMethod objectInit ∈ gt := in_gt 70 (by decide +kernel) rfl
theorem w_oi3 : Cond.code objectInit ⟨#[0xb1]⟩ 1 none ∈ gt := by decide +kernel
theorem w_ac2 : Cond.native arraycopyName ∈ gt := in_gt 453 (by decide +kernel) rfl
theorem w_ac3 : Cond.static arraycopyName ∈ gt := in_gt 452 (by decide +kernel) rfl
theorem w_ac4 : Cond.initialized "java/lang/System" ∈ gt := in_gt 63 (by decide +kernel) rfl
theorem w_aI : Cond.arrayClass .int ∈ gt := by decide +kernel
theorem w_aJ : Cond.arrayClass .long ∈ gt := by decide +kernel
theorem w_aZ : Cond.arrayClass .boolean ∈ gt := by decide +kernel
end
section
def tdT2 : List Nat := [0, 1, 2, 11, 12, 22, 111, 112, 122, 222, 1111, 1112, 1122, 1222, 2222, 11111, 11112, 11122, 11222, 12222, 22222]
def nxT2 : List (List Nat) := [[1, 2, 0, 0, 0, 0], [3, 4, 0, 0, 0, 0], [4, 5, 0, 0, 0, 0], [6, 7, 0, 0, 0, 0], [7, 8, 0, 0, 0, 0], [8, 9, 0, 0, 0, 0], [10, 11, 0, 0, 0, 0], [11, 12, 0, 0, 0, 0], [12, 13, 0, 0, 0, 0], [13, 14, 0, 0, 0, 0], [15, 16, 0, 0, 0, 0], [16, 17, 0, 0, 0, 0], [17, 18, 0, 0, 0, 0], [18, 19, 0, 0, 0, 0], [19, 20, 0, 0, 0, 0], [0, 0, 0, 0, 0, 0], [0, 0, 0, 0, 0, 0], [0, 0, 0, 0, 0, 0], [0, 0, 0, 0, 0, 0], [0, 0, 0, 0, 0, 0], [0, 0, 0, 0, 0, 0]]
def tdT3 : List Nat := [0, 1, 2, 3, 11, 12, 13, 22, 23, 33, 111, 112, 113, 122, 123, 133, 222, 223, 233, 333, 1111, 1112, 1113, 1122, 1123, 1133, 1222, 1223, 1233, 1333, 2222, 2223, 2233, 2333, 3333, 11111, 11112, 11113, 11122, 11123, 11133, 11222, 11223, 11233, 11333, 12222, 12223, 12233, 12333, 13333, 22222, 22223, 22233, 22333, 23333, 33333]
def nxT3 : List (List Nat) := [[1, 2, 3, 0, 0, 0], [4, 5, 6, 0, 0, 0], [5, 7, 8, 0, 0, 0], [6, 8, 9, 0, 0, 0], [10, 11, 12, 0, 0, 0], [11, 13, 14, 0, 0, 0], [12, 14, 15, 0, 0, 0], [13, 16, 17, 0, 0, 0], [14, 17, 18, 0, 0, 0], [15, 18, 19, 0, 0, 0], [20, 21, 22, 0, 0, 0], [21, 23, 24, 0, 0, 0], [22, 24, 25, 0, 0, 0], [23, 26, 27, 0, 0, 0], [24, 27, 28, 0, 0, 0], [25, 28, 29, 0, 0, 0], [26, 30, 31, 0, 0, 0], [27, 31, 32, 0, 0, 0], [28, 32, 33, 0, 0, 0], [29, 33, 34, 0, 0, 0], [35, 36, 37, 0, 0, 0], [36, 38, 39, 0, 0, 0], [37, 39, 40, 0, 0, 0], [38, 41, 42, 0, 0, 0], [39, 42, 43, 0, 0, 0], [40, 43, 44, 0, 0, 0], [41, 45, 46, 0, 0, 0], [42, 46, 47, 0, 0, 0], [43, 47, 48, 0, 0, 0], [44, 48, 49, 0, 0, 0], [45, 50, 51, 0, 0, 0], [46, 51, 52, 0, 0, 0], [47, 52, 53, 0, 0, 0], [48, 53, 54, 0, 0, 0], [49, 54, 55, 0, 0, 0], [0, 0, 0, 0, 0, 0], [0, 0, 0, 0, 0, 0], [0, 0, 0, 0, 0, 0], [0, 0, 0, 0, 0, 0], [0, 0, 0, 0, 0, 0], [0, 0, 0, 0, 0, 0], [0, 0, 0, 0, 0, 0], [0, 0, 0, 0, 0, 0], [0, 0, 0, 0, 0, 0], [0, 0, 0, 0, 0, 0], [0, 0, 0, 0, 0, 0], [0, 0, 0, 0, 0, 0], [0, 0, 0, 0, 0, 0], [0, 0, 0, 0, 0, 0], [0, 0, 0, 0, 0, 0], [0, 0, 0, 0, 0, 0], [0, 0, 0, 0, 0, 0], [0, 0, 0, 0, 0, 0], [0, 0, 0, 0, 0, 0], [0, 0, 0, 0, 0, 0], [0, 0, 0, 0, 0, 0]]
def tdT4 : List Nat := [0, 1, 2, 3, 4, 11, 12, 13, 14, 22, 23, 24, 33, 34, 44, 111, 112, 113, 114, 122, 123, 124, 133, 134, 144, 222, 223, 224, 233, 234, 244, 333, 334, 344, 444, 1111, 1112, 1113, 1114, 1122, 1123, 1124, 1133, 1134, 1144, 1222, 1223, 1224, 1233, 1234, 1244, 1333, 1334, 1344, 1444, 2222, 2223, 2224, 2233, 2234, 2244, 2333, 2334, 2344, 2444, 3333, 3334, 3344, 3444, 4444, 11111, 11112, 11113, 11114, 11122, 11123, 11124, 11133, 11134, 11144, 11222, 11223, 11224, 11233, 11234, 11244, 11333, 11334, 11344, 11444, 12222, 12223, 12224, 12233, 12234, 12244, 12333, 12334, 12344, 12444, 13333, 13334, 13344, 13444, 14444, 22222, 22223, 22224, 22233, 22234, 22244, 22333, 22334, 22344, 22444, 23333, 23334, 23344, 23444, 24444, 33333, 33334, 33344, 33444, 34444, 44444]
def nxT4 : List (List Nat) := [[1, 2, 3, 4, 0, 0], [5, 6, 7, 8, 0, 0], [6, 9, 10, 11, 0, 0], [7, 10, 12, 13, 0, 0], [8, 11, 13, 14, 0, 0], [15, 16, 17, 18, 0, 0], [16, 19, 20, 21, 0, 0], [17, 20, 22, 23, 0, 0], [18, 21, 23, 24, 0, 0], [19, 25, 26, 27, 0, 0], [20, 26, 28, 29, 0, 0], [21, 27, 29, 30, 0, 0], [22, 28, 31, 32, 0, 0], [23, 29, 32, 33, 0, 0], [24, 30, 33, 34, 0, 0], [35, 36, 37, 38, 0, 0], [36, 39, 40, 41, 0, 0], [37, 40, 42, 43, 0, 0], [38, 41, 43, 44, 0, 0], [39, 45, 46, 47, 0, 0], [40, 46, 48, 49, 0, 0], [41, 47, 49, 50, 0, 0], [42, 48, 51, 52, 0, 0], [43, 49, 52, 53, 0, 0], [44, 50, 53, 54, 0, 0], [45, 55, 56, 57, 0, 0], [46, 56, 58, 59, 0, 0], [47, 57, 59, 60, 0, 0], [48, 58, 61, 62, 0, 0], [49, 59, 62, 63, 0, 0], [50, 60, 63, 64, 0, 0], [51, 61, 65, 66, 0, 0], [52, 62, 66, 67, 0, 0], [53, 63, 67, 68, 0, 0], [54, 64, 68, 69, 0, 0], [70, 71, 72, 73, 0, 0], [71, 74, 75, 76, 0, 0], [72, 75, 77, 78, 0, 0], [73, 76, 78, 79, 0, 0], [74, 80, 81, 82, 0, 0], [75, 81, 83, 84, 0, 0], [76, 82, 84, 85, 0, 0], [77, 83, 86, 87, 0, 0], [78, 84, 87, 88, 0, 0], [79, 85, 88, 89, 0, 0], [80, 90, 91, 92, 0, 0], [81, 91, 93, 94, 0, 0], [82, 92, 94, 95, 0, 0], [83, 93, 96, 97, 0, 0], [84, 94, 97, 98, 0, 0], [85, 95, 98, 99, 0, 0], [86, 96, 100, 101, 0, 0], [87, 97, 101, 102, 0, 0], [88, 98, 102, 103, 0, 0], [89, 99, 103, 104, 0, 0], [90, 105, 106, 107, 0, 0], [91, 106, 108, 109, 0, 0], [92, 107, 109, 110, 0, 0], [93, 108, 111, 112, 0, 0], [94, 109, 112, 113, 0, 0], [95, 110, 113, 114, 0, 0], [96, 111, 115, 116, 0, 0], [97, 112, 116, 117, 0, 0], [98, 113, 117, 118, 0, 0], [99, 114, 118, 119, 0, 0], [100, 115, 120, 121, 0, 0], [101, 116, 121, 122, 0, 0], [102, 117, 122, 123, 0, 0], [103, 118, 123, 124, 0, 0], [104, 119, 124, 125, 0, 0], [0, 0, 0, 0, 0, 0], [0, 0, 0, 0, 0, 0], [0, 0, 0, 0, 0, 0], [0, 0, 0, 0, 0, 0], [0, 0, 0, 0, 0, 0], [0, 0, 0, 0, 0, 0], [0, 0, 0, 0, 0, 0], [0, 0, 0, 0, 0, 0], [0, 0, 0, 0, 0, 0], [0, 0, 0, 0, 0, 0], [0, 0, 0, 0, 0, 0], [0, 0, 0, 0, 0, 0], [0, 0, 0, 0, 0, 0], [0, 0, 0, 0, 0, 0], [0, 0, 0, 0, 0, 0], [0, 0, 0, 0, 0, 0], [0, 0, 0, 0, 0, 0], [0, 0, 0, 0, 0, 0], [0, 0, 0, 0, 0, 0], [0, 0, 0, 0, 0, 0], [0, 0, 0, 0, 0, 0], [0, 0, 0, 0, 0, 0], [0, 0, 0, 0, 0, 0], [0, 0, 0, 0, 0, 0], [0, 0, 0, 0, 0, 0], [0, 0, 0, 0, 0, 0], [0, 0, 0, 0, 0, 0], [0, 0, 0, 0, 0, 0], [0, 0, 0, 0, 0, 0], [0, 0, 0, 0, 0, 0], [0, 0, 0, 0, 0, 0], [0, 0, 0, 0, 0, 0], [0, 0, 0, 0, 0, 0], [0, 0, 0, 0, 0, 0], [0, 0, 0, 0, 0, 0], [0, 0, 0, 0, 0, 0], [0, 0, 0, 0, 0, 0], [0, 0, 0, 0, 0, 0], [0, 0, 0, 0, 0, 0], [0, 0, 0, 0, 0, 0], [0, 0, 0, 0, 0, 0], [0, 0, 0, 0, 0, 0], [0, 0, 0, 0, 0, 0], [0, 0, 0, 0, 0, 0], [0, 0, 0, 0, 0, 0], [0, 0, 0, 0, 0, 0], [0, 0, 0, 0, 0, 0], [0, 0, 0, 0, 0, 0], [0, 0, 0, 0, 0, 0], [0, 0, 0, 0, 0, 0], [0, 0, 0, 0, 0, 0], [0, 0, 0, 0, 0, 0], [0, 0, 0, 0, 0, 0], [0, 0, 0, 0, 0, 0], [0, 0, 0, 0, 0, 0], [0, 0, 0, 0, 0, 0]]
def tdT5 : List Nat := [0, 1, 2, 3, 4, 5, 11, 12, 13, 14, 15, 22, 23, 24, 25, 33, 34, 35, 44, 45, 55, 111, 112, 113, 114, 115, 122, 123, 124, 125, 133, 134, 135, 144, 145, 155, 222, 223, 224, 225, 233, 234, 235, 244, 245, 255, 333, 334, 335, 344, 345, 355, 444, 445, 455, 555, 1111, 1112, 1113, 1114, 1115, 1122, 1123, 1124, 1125, 1133, 1134, 1135, 1144, 1145, 1155, 1222, 1223, 1224, 1225, 1233, 1234, 1235, 1244, 1245, 1255, 1333, 1334, 1335, 1344, 1345, 1355, 1444, 1445, 1455, 1555, 2222, 2223, 2224, 2225, 2233, 2234, 2235, 2244, 2245, 2255, 2333, 2334, 2335, 2344, 2345, 2355, 2444, 2445, 2455, 2555, 3333, 3334, 3335, 3344, 3345, 3355, 3444, 3445, 3455, 3555, 4444, 4445, 4455, 4555, 5555, 11111, 11112, 11113, 11114, 11115, 11122, 11123, 11124, 11125, 11133, 11134, 11135, 11144, 11145, 11155, 11222, 11223, 11224, 11225, 11233, 11234, 11235, 11244, 11245, 11255, 11333, 11334, 11335, 11344, 11345, 11355, 11444, 11445, 11455, 11555, 12222, 12223, 12224, 12225, 12233, 12234, 12235, 12244, 12245, 12255, 12333, 12334, 12335, 12344, 12345, 12355, 12444, 12445, 12455, 12555, 13333, 13334, 13335, 13344, 13345, 13355, 13444, 13445, 13455, 13555, 14444, 14445, 14455, 14555, 15555, 22222, 22223, 22224, 22225, 22233, 22234, 22235, 22244, 22245, 22255, 22333, 22334, 22335, 22344, 22345, 22355, 22444, 22445, 22455, 22555, 23333, 23334, 23335, 23344, 23345, 23355, 23444, 23445, 23455, 23555, 24444, 24445, 24455, 24555, 25555, 33333, 33334, 33335, 33344, 33345, 33355, 33444, 33445, 33455, 33555, 34444, 34445, 34455, 34555, 35555, 44444, 44445, 44455, 44555, 45555, 55555]
def nxT5 : List (List Nat) := [[1, 2, 3, 4, 5, 0], [6, 7, 8, 9, 10, 0], [7, 11, 12, 13, 14, 0], [8, 12, 15, 16, 17, 0], [9, 13, 16, 18, 19, 0], [10, 14, 17, 19, 20, 0], [21, 22, 23, 24, 25, 0], [22, 26, 27, 28, 29, 0], [23, 27, 30, 31, 32, 0], [24, 28, 31, 33, 34, 0], [25, 29, 32, 34, 35, 0], [26, 36, 37, 38, 39, 0], [27, 37, 40, 41, 42, 0], [28, 38, 41, 43, 44, 0], [29, 39, 42, 44, 45, 0], [30, 40, 46, 47, 48, 0], [31, 41, 47, 49, 50, 0], [32, 42, 48, 50, 51, 0], [33, 43, 49, 52, 53, 0], [34, 44, 50, 53, 54, 0], [35, 45, 51, 54, 55, 0], [56, 57, 58, 59, 60, 0], [57, 61, 62, 63, 64, 0], [58, 62, 65, 66, 67, 0], [59, 63, 66, 68, 69, 0], [60, 64, 67, 69, 70, 0], [61, 71, 72, 73, 74, 0], [62, 72, 75, 76, 77, 0], [63, 73, 76, 78, 79, 0], [64, 74, 77, 79, 80, 0], [65, 75, 81, 82, 83, 0], [66, 76, 82, 84, 85, 0], [67, 77, 83, 85, 86, 0], [68, 78, 84, 87, 88, 0], [69, 79, 85, 88, 89, 0], [70, 80, 86, 89, 90, 0], [71, 91, 92, 93, 94, 0], [72, 92, 95, 96, 97, 0], [73, 93, 96, 98, 99, 0], [74, 94, 97, 99, 100, 0], [75, 95, 101, 102, 103, 0], [76, 96, 102, 104, 105, 0], [77, 97, 103, 105, 106, 0], [78, 98, 104, 107, 108, 0], [79, 99, 105, 108, 109, 0], [80, 100, 106, 109, 110, 0], [81, 101, 111, 112, 113, 0], [82, 102, 112, 114, 115, 0], [83, 103, 113, 115, 116, 0], [84, 104, 114, 117, 118, 0], [85, 105, 115, 118, 119, 0], [86, 106, 116, 119, 120, 0], [87, 107, 117, 121, 122, 0], [88, 108, 118, 122, 123, 0], [89, 109, 119, 123, 124, 0], [90, 110, 120, 124, 125, 0], [126, 127, 128, 129, 130, 0], [127, 131, 132, 133, 134, 0], [128, 132, 135, 136, 137, 0], [129, 133, 136, 138, 139, 0], [130, 134, 137, 139, 140, 0], [131, 141, 142, 143, 144, 0], [132, 142, 145, 146, 147, 0], [133, 143, 146, 148, 149, 0], [134, 144, 147, 149, 150, 0], [135, 145, 151, 152, 153, 0], [136, 146, 152, 154, 155, 0], [137, 147, 153, 155, 156, 0], [138, 148, 154, 157, 158, 0], [139, 149, 155, 158, 159, 0], [140, 150, 156, 159, 160, 0], [141, 161, 162, 163, 164, 0], [142, 162, 165, 166, 167, 0], [143, 163, 166, 168, 169, 0], [144, 164, 167, 169, 170, 0], [145, 165, 171, 172, 173, 0], [146, 166, 172, 174, 175, 0], [147, 167, 173, 175, 176, 0], [148, 168, 174, 177, 178, 0], [149, 169, 175, 178, 179, 0], [150, 170, 176, 179, 180, 0], [151, 171, 181, 182, 183, 0], [152, 172, 182, 184, 185, 0], [153, 173, 183, 185, 186, 0], [154, 174, 184, 187, 188, 0], [155, 175, 185, 188, 189, 0], [156, 176, 186, 189, 190, 0], [157, 177, 187, 191, 192, 0], [158, 178, 188, 192, 193, 0], [159, 179, 189, 193, 194, 0], [160, 180, 190, 194, 195, 0], [161, 196, 197, 198, 199, 0], [162, 197, 200, 201, 202, 0], [163, 198, 201, 203, 204, 0], [164, 199, 202, 204, 205, 0], [165, 200, 206, 207, 208, 0], [166, 201, 207, 209, 210, 0], [167, 202, 208, 210, 211, 0], [168, 203, 209, 212, 213, 0], [169, 204, 210, 213, 214, 0], [170, 205, 211, 214, 215, 0], [171, 206, 216, 217, 218, 0], [172, 207, 217, 219, 220, 0], [173, 208, 218, 220, 221, 0], [174, 209, 219, 222, 223, 0], [175, 210, 220, 223, 224, 0], [176, 211, 221, 224, 225, 0], [177, 212, 222, 226, 227, 0], [178, 213, 223, 227, 228, 0], [179, 214, 224, 228, 229, 0], [180, 215, 225, 229, 230, 0], [181, 216, 231, 232, 233, 0], [182, 217, 232, 234, 235, 0], [183, 218, 233, 235, 236, 0], [184, 219, 234, 237, 238, 0], [185, 220, 235, 238, 239, 0], [186, 221, 236, 239, 240, 0], [187, 222, 237, 241, 242, 0], [188, 223, 238, 242, 243, 0], [189, 224, 239, 243, 244, 0], [190, 225, 240, 244, 245, 0], [191, 226, 241, 246, 247, 0], [192, 227, 242, 247, 248, 0], [193, 228, 243, 248, 249, 0], [194, 229, 244, 249, 250, 0], [195, 230, 245, 250, 251, 0], [0, 0, 0, 0, 0, 0], [0, 0, 0, 0, 0, 0], [0, 0, 0, 0, 0, 0], [0, 0, 0, 0, 0, 0], [0, 0, 0, 0, 0, 0], [0, 0, 0, 0, 0, 0], [0, 0, 0, 0, 0, 0], [0, 0, 0, 0, 0, 0], [0, 0, 0, 0, 0, 0], [0, 0, 0, 0, 0, 0], [0, 0, 0, 0, 0, 0], [0, 0, 0, 0, 0, 0], [0, 0, 0, 0, 0, 0], [0, 0, 0, 0, 0, 0], [0, 0, 0, 0, 0, 0], [0, 0, 0, 0, 0, 0], [0, 0, 0, 0, 0, 0], [0, 0, 0, 0, 0, 0], [0, 0, 0, 0, 0, 0], [0, 0, 0, 0, 0, 0], [0, 0, 0, 0, 0, 0], [0, 0, 0, 0, 0, 0], [0, 0, 0, 0, 0, 0], [0, 0, 0, 0, 0, 0], [0, 0, 0, 0, 0, 0], [0, 0, 0, 0, 0, 0], [0, 0, 0, 0, 0, 0], [0, 0, 0, 0, 0, 0], [0, 0, 0, 0, 0, 0], [0, 0, 0, 0, 0, 0], [0, 0, 0, 0, 0, 0], [0, 0, 0, 0, 0, 0], [0, 0, 0, 0, 0, 0], [0, 0, 0, 0, 0, 0], [0, 0, 0, 0, 0, 0], [0, 0, 0, 0, 0, 0], [0, 0, 0, 0, 0, 0], [0, 0, 0, 0, 0, 0], [0, 0, 0, 0, 0, 0], [0, 0, 0, 0, 0, 0], [0, 0, 0, 0, 0, 0], [0, 0, 0, 0, 0, 0], [0, 0, 0, 0, 0, 0], [0, 0, 0, 0, 0, 0], [0, 0, 0, 0, 0, 0], [0, 0, 0, 0, 0, 0], [0, 0, 0, 0, 0, 0], [0, 0, 0, 0, 0, 0], [0, 0, 0, 0, 0, 0], [0, 0, 0, 0, 0, 0], [0, 0, 0, 0, 0, 0], [0, 0, 0, 0, 0, 0], [0, 0, 0, 0, 0, 0], [0, 0, 0, 0, 0, 0], [0, 0, 0, 0, 0, 0], [0, 0, 0, 0, 0, 0], [0, 0, 0, 0, 0, 0], [0, 0, 0, 0, 0, 0], [0, 0, 0, 0, 0, 0], [0, 0, 0, 0, 0, 0], [0, 0, 0, 0, 0, 0], [0, 0, 0, 0, 0, 0], [0, 0, 0, 0, 0, 0], [0, 0, 0, 0, 0, 0], [0, 0, 0, 0, 0, 0], [0, 0, 0, 0, 0, 0], [0, 0, 0, 0, 0, 0], [0, 0, 0, 0, 0, 0], [0, 0, 0, 0, 0, 0], [0, 0, 0, 0, 0, 0], [0, 0, 0, 0, 0, 0], [0, 0, 0, 0, 0, 0], [0, 0, 0, 0, 0, 0], [0, 0, 0, 0, 0, 0], [0, 0, 0, 0, 0, 0], [0, 0, 0, 0, 0, 0], [0, 0, 0, 0, 0, 0], [0, 0, 0, 0, 0, 0], [0, 0, 0, 0, 0, 0], [0, 0, 0, 0, 0, 0], [0, 0, 0, 0, 0, 0], [0, 0, 0, 0, 0, 0], [0, 0, 0, 0, 0, 0], [0, 0, 0, 0, 0, 0], [0, 0, 0, 0, 0, 0], [0, 0, 0, 0, 0, 0], [0, 0, 0, 0, 0, 0], [0, 0, 0, 0, 0, 0], [0, 0, 0, 0, 0, 0], [0, 0, 0, 0, 0, 0], [0, 0, 0, 0, 0, 0], [0, 0, 0, 0, 0, 0], [0, 0, 0, 0, 0, 0], [0, 0, 0, 0, 0, 0], [0, 0, 0, 0, 0, 0], [0, 0, 0, 0, 0, 0], [0, 0, 0, 0, 0, 0], [0, 0, 0, 0, 0, 0], [0, 0, 0, 0, 0, 0], [0, 0, 0, 0, 0, 0], [0, 0, 0, 0, 0, 0], [0, 0, 0, 0, 0, 0], [0, 0, 0, 0, 0, 0], [0, 0, 0, 0, 0, 0], [0, 0, 0, 0, 0, 0], [0, 0, 0, 0, 0, 0], [0, 0, 0, 0, 0, 0], [0, 0, 0, 0, 0, 0], [0, 0, 0, 0, 0, 0], [0, 0, 0, 0, 0, 0], [0, 0, 0, 0, 0, 0], [0, 0, 0, 0, 0, 0], [0, 0, 0, 0, 0, 0], [0, 0, 0, 0, 0, 0], [0, 0, 0, 0, 0, 0], [0, 0, 0, 0, 0, 0], [0, 0, 0, 0, 0, 0], [0, 0, 0, 0, 0, 0], [0, 0, 0, 0, 0, 0], [0, 0, 0, 0, 0, 0], [0, 0, 0, 0, 0, 0], [0, 0, 0, 0, 0, 0], [0, 0, 0, 0, 0, 0], [0, 0, 0, 0, 0, 0], [0, 0, 0, 0, 0, 0], [0, 0, 0, 0, 0, 0]]
def tdT6 : List Nat := [0, 1, 2, 3, 4, 5, 6, 11, 12, 13, 14, 15, 16, 22, 23, 24, 25, 26, 33, 34, 35, 36, 44, 45, 46, 55, 56, 66, 111, 112, 113, 114, 115, 116, 122, 123, 124, 125, 126, 133, 134, 135, 136, 144, 145, 146, 155, 156, 166, 222, 223, 224, 225, 226, 233, 234, 235, 236, 244, 245, 246, 255, 256, 266, 333, 334, 335, 336, 344, 345, 346, 355, 356, 366, 444, 445, 446, 455, 456, 466, 555, 556, 566, 666, 1111, 1112, 1113, 1114, 1115, 1116, 1122, 1123, 1124, 1125, 1126, 1133, 1134, 1135, 1136, 1144, 1145, 1146, 1155, 1156, 1166, 1222, 1223, 1224, 1225, 1226, 1233, 1234, 1235, 1236, 1244, 1245, 1246, 1255, 1256, 1266, 1333, 1334, 1335, 1336, 1344, 1345, 1346, 1355, 1356, 1366, 1444, 1445, 1446, 1455, 1456, 1466, 1555, 1556, 1566, 1666, 2222, 2223, 2224, 2225, 2226, 2233, 2234, 2235, 2236, 2244, 2245, 2246, 2255, 2256, 2266, 2333, 2334, 2335, 2336, 2344, 2345, 2346, 2355, 2356, 2366, 2444, 2445, 2446, 2455, 2456, 2466, 2555, 2556, 2566, 2666, 3333, 3334, 3335, 3336, 3344, 3345, 3346, 3355, 3356, 3366, 3444, 3445, 3446, 3455, 3456, 3466, 3555, 3556, 3566, 3666, 4444, 4445, 4446, 4455, 4456, 4466, 4555, 4556, 4566, 4666, 5555, 5556, 5566, 5666, 6666, 11111, 11112, 11113, 11114, 11115, 11116, 11122, 11123, 11124, 11125, 11126, 11133, 11134, 11135, 11136, 11144, 11145, 11146, 11155, 11156, 11166, 11222, 11223, 11224, 11225, 11226, 11233, 11234, 11235, 11236, 11244, 11245, 11246, 11255, 11256, 11266, 11333, 11334, 11335, 11336, 11344, 11345, 11346, 11355, 11356, 11366, 11444, 11445, 11446, 11455, 11456, 11466, 11555, 11556, 11566, 11666, 12222, 12223, 12224, 12225, 12226, 12233, 12234, 12235, 12236, 12244, 12245, 12246, 12255, 12256, 12266, 12333, 12334, 12335, 12336, 12344, 12345, 12346, 12355, 12356, 12366, 12444, 12445, 12446, 12455, 12456, 12466, 12555, 12556, 12566, 12666, 13333, 13334, 13335, 13336, 13344, 13345, 13346, 13355, 13356, 13366, 13444, 13445, 13446, 13455, 13456, 13466, 13555, 13556, 13566, 13666, 14444, 14445, 14446, 14455, 14456, 14466, 14555, 14556, 14566, 14666, 15555, 15556, 15566, 15666, 16666, 22222, 22223, 22224, 22225, 22226, 22233, 22234, 22235, 22236, 22244, 22245, 22246, 22255, 22256, 22266, 22333, 22334, 22335, 22336, 22344, 22345, 22346, 22355, 22356, 22366, 22444, 22445, 22446, 22455, 22456, 22466, 22555, 22556, 22566, 22666, 23333, 23334, 23335, 23336, 23344, 23345, 23346, 23355, 23356, 23366, 23444, 23445, 23446, 23455, 23456, 23466, 23555, 23556, 23566, 23666, 24444, 24445, 24446, 24455, 24456, 24466, 24555, 24556, 24566, 24666, 25555, 25556, 25566, 25666, 26666, 33333, 33334, 33335, 33336, 33344, 33345, 33346, 33355, 33356, 33366, 33444, 33445, 33446, 33455, 33456, 33466, 33555, 33556, 33566, 33666, 34444, 34445, 34446, 34455, 34456, 34466, 34555, 34556, 34566, 34666, 35555, 35556, 35566, 35666, 36666, 44444, 44445, 44446, 44455, 44456, 44466, 44555, 44556, 44566, 44666, 45555, 45556, 45566, 45666, 46666, 55555, 55556, 55566, 55666, 56666, 66666]
def nxT6 : List (List Nat) := [[1, 2, 3, 4, 5, 6], [7, 8, 9, 10, 11, 12], [8, 13, 14, 15, 16, 17], [9, 14, 18, 19, 20, 21], [10, 15, 19, 22, 23, 24], [11, 16, 20, 23, 25, 26], [12, 17, 21, 24, 26, 27], [28, 29, 30, 31, 32, 33], [29, 34, 35, 36, 37, 38], [30, 35, 39, 40, 41, 42], [31, 36, 40, 43, 44, 45], [32, 37, 41, 44, 46, 47], [33, 38, 42, 45, 47, 48], [34, 49, 50, 51, 52, 53], [35, 50, 54, 55, 56, 57], [36, 51, 55, 58, 59, 60], [37, 52, 56, 59, 61, 62], [38, 53, 57, 60, 62, 63], [39, 54, 64, 65, 66, 67], [40, 55, 65, 68, 69, 70], [41, 56, 66, 69, 71, 72], [42, 57, 67, 70, 72, 73], [43, 58, 68, 74, 75, 76], [44, 59, 69, 75, 77, 78], [45, 60, 70, 76, 78, 79], [46, 61, 71, 77, 80, 81], [47, 62, 72, 78, 81, 82], [48, 63, 73, 79, 82, 83], [84, 85, 86, 87, 88, 89], [85, 90, 91, 92, 93, 94], [86, 91, 95, 96, 97, 98], [87, 92, 96, 99, 100, 101], [88, 93, 97, 100, 102, 103], [89, 94, 98, 101, 103, 104], [90, 105, 106, 107, 108, 109], [91, 106, 110, 111, 112, 113], [92, 107, 111, 114, 115, 116], [93, 108, 112, 115, 117, 118], [94, 109, 113, 116, 118, 119], [95, 110, 120, 121, 122, 123], [96, 111, 121, 124, 125, 126], [97, 112, 122, 125, 127, 128], [98, 113, 123, 126, 128, 129], [99, 114, 124, 130, 131, 132], [100, 115, 125, 131, 133, 134], [101, 116, 126, 132, 134, 135], [102, 117, 127, 133, 136, 137], [103, 118, 128, 134, 137, 138], [104, 119, 129, 135, 138, 139], [105, 140, 141, 142, 143, 144], [106, 141, 145, 146, 147, 148], [107, 142, 146, 149, 150, 151], [108, 143, 147, 150, 152, 153], [109, 144, 148, 151, 153, 154], [110, 145, 155, 156, 157, 158], [111, 146, 156, 159, 160, 161], [112, 147, 157, 160, 162, 163], [113, 148, 158, 161, 163, 164], [114, 149, 159, 165, 166, 167], [115, 150, 160, 166, 168, 169], [116, 151, 161, 167, 169, 170], [117, 152, 162, 168, 171, 172], [118, 153, 163, 169, 172, 173], [119, 154, 164, 170, 173, 174], [120, 155, 175, 176, 177, 178], [121, 156, 176, 179, 180, 181], [122, 157, 177, 180, 182, 183], [123, 158, 178, 181, 183, 184], [124, 159, 179, 185, 186, 187], [125, 160, 180, 186, 188, 189], [126, 161, 181, 187, 189, 190], [127, 162, 182, 188, 191, 192], [128, 163, 183, 189, 192, 193], [129, 164, 184, 190, 193, 194], [130, 165, 185, 195, 196, 197], [131, 166, 186, 196, 198, 199], [132, 167, 187, 197, 199, 200], [133, 168, 188, 198, 201, 202], [134, 169, 189, 199, 202, 203], [135, 170, 190, 200, 203, 204], [136, 171, 191, 201, 205, 206], [137, 172, 192, 202, 206, 207], [138, 173, 193, 203, 207, 208], [139, 174, 194, 204, 208, 209], [210, 211, 212, 213, 214, 215], [211, 216, 217, 218, 219, 220], [212, 217, 221, 222, 223, 224], [213, 218, 222, 225, 226, 227], [214, 219, 223, 226, 228, 229], [215, 220, 224, 227, 229, 230], [216, 231, 232, 233, 234, 235], [217, 232, 236, 237, 238, 239], [218, 233, 237, 240, 241, 242], [219, 234, 238, 241, 243, 244], [220, 235, 239, 242, 244, 245], [221, 236, 246, 247, 248, 249], [222, 237, 247, 250, 251, 252], [223, 238, 248, 251, 253, 254], [224, 239, 249, 252, 254, 255], [225, 240, 250, 256, 257, 258], [226, 241, 251, 257, 259, 260], [227, 242, 252, 258, 260, 261], [228, 243, 253, 259, 262, 263], [229, 244, 254, 260, 263, 264], [230, 245, 255, 261, 264, 265], [231, 266, 267, 268, 269, 270], [232, 267, 271, 272, 273, 274], [233, 268, 272, 275, 276, 277], [234, 269, 273, 276, 278, 279], [235, 270, 274, 277, 279, 280], [236, 271, 281, 282, 283, 284], [237, 272, 282, 285, 286, 287], [238, 273, 283, 286, 288, 289], [239, 274, 284, 287, 289, 290], [240, 275, 285, 291, 292, 293], [241, 276, 286, 292, 294, 295], [242, 277, 287, 293, 295, 296], [243, 278, 288, 294, 297, 298], [244, 279, 289, 295, 298, 299], [245, 280, 290, 296, 299, 300], [246, 281, 301, 302, 303, 304], [247, 282, 302, 305, 306, 307], [248, 283, 303, 306, 308, 309], [249, 284, 304, 307, 309, 310], [250, 285, 305, 311, 312, 313], [251, 286, 306, 312, 314, 315], [252, 287, 307, 313, 315, 316], [253, 288, 308, 314, 317, 318], [254, 289, 309, 315, 318, 319], [255, 290, 310, 316, 319, 320], [256, 291, 311, 321, 322, 323], [257, 292, 312, 322, 324, 325], [258, 293, 313, 323, 325, 326], [259, 294, 314, 324, 327, 328], [260, 295, 315, 325, 328, 329], [261, 296, 316, 326, 329, 330], [262, 297, 317, 327, 331, 332], [263, 298, 318, 328, 332, 333], [264, 299, 319, 329, 333, 334], [265, 300, 320, 330, 334, 335], [266, 336, 337, 338, 339, 340], [267, 337, 341, 342, 343, 344], [268, 338, 342, 345, 346, 347], [269, 339, 343, 346, 348, 349], [270, 340, 344, 347, 349, 350], [271, 341, 351, 352, 353, 354], [272, 342, 352, 355, 356, 357], [273, 343, 353, 356, 358, 359], [274, 344, 354, 357, 359, 360], [275, 345, 355, 361, 362, 363], [276, 346, 356, 362, 364, 365], [277, 347, 357, 363, 365, 366], [278, 348, 358, 364, 367, 368], [279, 349, 359, 365, 368, 369], [280, 350, 360, 366, 369, 370], [281, 351, 371, 372, 373, 374], [282, 352, 372, 375, 376, 377], [283, 353, 373, 376, 378, 379], [284, 354, 374, 377, 379, 380], [285, 355, 375, 381, 382, 383], [286, 356, 376, 382, 384, 385], [287, 357, 377, 383, 385, 386], [288, 358, 378, 384, 387, 388], [289, 359, 379, 385, 388, 389], [290, 360, 380, 386, 389, 390], [291, 361, 381, 391, 392, 393], [292, 362, 382, 392, 394, 395], [293, 363, 383, 393, 395, 396], [294, 364, 384, 394, 397, 398], [295, 365, 385, 395, 398, 399], [296, 366, 386, 396, 399, 400], [297, 367, 387, 397, 401, 402], [298, 368, 388, 398, 402, 403], [299, 369, 389, 399, 403, 404], [300, 370, 390, 400, 404, 405], [301, 371, 406, 407, 408, 409], [302, 372, 407, 410, 411, 412], [303, 373, 408, 411, 413, 414], [304, 374, 409, 412, 414, 415], [305, 375, 410, 416, 417, 418], [306, 376, 411, 417, 419, 420], [307, 377, 412, 418, 420, 421], [308, 378, 413, 419, 422, 423], [309, 379, 414, 420, 423, 424], [310, 380, 415, 421, 424, 425], [311, 381, 416, 426, 427, 428], [312, 382, 417, 427, 429, 430], [313, 383, 418, 428, 430, 431], [314, 384, 419, 429, 432, 433], [315, 385, 420, 430, 433, 434], [316, 386, 421, 431, 434, 435], [317, 387, 422, 432, 436, 437], [318, 388, 423, 433, 437, 438], [319, 389, 424, 434, 438, 439], [320, 390, 425, 435, 439, 440], [321, 391, 426, 441, 442, 443], [322, 392, 427, 442, 444, 445], [323, 393, 428, 443, 445, 446], [324, 394, 429, 444, 447, 448], [325, 395, 430, 445, 448, 449], [326, 396, 431, 446, 449, 450], [327, 397, 432, 447, 451, 452], [328, 398, 433, 448, 452, 453], [329, 399, 434, 449, 453, 454], [330, 400, 435, 450, 454, 455], [331, 401, 436, 451, 456, 457], [332, 402, 437, 452, 457, 458], [333, 403, 438, 453, 458, 459], [334, 404, 439, 454, 459, 460], [335, 405, 440, 455, 460, 461], [0, 0, 0, 0, 0, 0], [0, 0, 0, 0, 0, 0], [0, 0, 0, 0, 0, 0], [0, 0, 0, 0, 0, 0], [0, 0, 0, 0, 0, 0], [0, 0, 0, 0, 0, 0], [0, 0, 0, 0, 0, 0], [0, 0, 0, 0, 0, 0], [0, 0, 0, 0, 0, 0], [0, 0, 0, 0, 0, 0], [0, 0, 0, 0, 0, 0], [0, 0, 0, 0, 0, 0], [0, 0, 0, 0, 0, 0], [0, 0, 0, 0, 0, 0], [0, 0, 0, 0, 0, 0], [0, 0, 0, 0, 0, 0], [0, 0, 0, 0, 0, 0], [0, 0, 0, 0, 0, 0], [0, 0, 0, 0, 0, 0], [0, 0, 0, 0, 0, 0], [0, 0, 0, 0, 0, 0], [0, 0, 0, 0, 0, 0], [0, 0, 0, 0, 0, 0], [0, 0, 0, 0, 0, 0], [0, 0, 0, 0, 0, 0], [0, 0, 0, 0, 0, 0], [0, 0, 0, 0, 0, 0], [0, 0, 0, 0, 0, 0], [0, 0, 0, 0, 0, 0], [0, 0, 0, 0, 0, 0], [0, 0, 0, 0, 0, 0], [0, 0, 0, 0, 0, 0], [0, 0, 0, 0, 0, 0], [0, 0, 0, 0, 0, 0], [0, 0, 0, 0, 0, 0], [0, 0, 0, 0, 0, 0], [0, 0, 0, 0, 0, 0], [0, 0, 0, 0, 0, 0], [0, 0, 0, 0, 0, 0], [0, 0, 0, 0, 0, 0], [0, 0, 0, 0, 0, 0], [0, 0, 0, 0, 0, 0], [0, 0, 0, 0, 0, 0], [0, 0, 0, 0, 0, 0], [0, 0, 0, 0, 0, 0], [0, 0, 0, 0, 0, 0], [0, 0, 0, 0, 0, 0], [0, 0, 0, 0, 0, 0], [0, 0, 0, 0, 0, 0], [0, 0, 0, 0, 0, 0], [0, 0, 0, 0, 0, 0], [0, 0, 0, 0, 0, 0], [0, 0, 0, 0, 0, 0], [0, 0, 0, 0, 0, 0], [0, 0, 0, 0, 0, 0], [0, 0, 0, 0, 0, 0], [0, 0, 0, 0, 0, 0], [0, 0, 0, 0, 0, 0], [0, 0, 0, 0, 0, 0], [0, 0, 0, 0, 0, 0], [0, 0, 0, 0, 0, 0], [0, 0, 0, 0, 0, 0], [0, 0, 0, 0, 0, 0], [0, 0, 0, 0, 0, 0], [0, 0, 0, 0, 0, 0], [0, 0, 0, 0, 0, 0], [0, 0, 0, 0, 0, 0], [0, 0, 0, 0, 0, 0], [0, 0, 0, 0, 0, 0], [0, 0, 0, 0, 0, 0], [0, 0, 0, 0, 0, 0], [0, 0, 0, 0, 0, 0], [0, 0, 0, 0, 0, 0], [0, 0, 0, 0, 0, 0], [0, 0, 0, 0, 0, 0], [0, 0, 0, 0, 0, 0], [0, 0, 0, 0, 0, 0], [0, 0, 0, 0, 0, 0], [0, 0, 0, 0, 0, 0], [0, 0, 0, 0, 0, 0], [0, 0, 0, 0, 0, 0], [0, 0, 0, 0, 0, 0], [0, 0, 0, 0, 0, 0], [0, 0, 0, 0, 0, 0], [0, 0, 0, 0, 0, 0], [0, 0, 0, 0, 0, 0], [0, 0, 0, 0, 0, 0], [0, 0, 0, 0, 0, 0], [0, 0, 0, 0, 0, 0], [0, 0, 0, 0, 0, 0], [0, 0, 0, 0, 0, 0], [0, 0, 0, 0, 0, 0], [0, 0, 0, 0, 0, 0], [0, 0, 0, 0, 0, 0], [0, 0, 0, 0, 0, 0], [0, 0, 0, 0, 0, 0], [0, 0, 0, 0, 0, 0], [0, 0, 0, 0, 0, 0], [0, 0, 0, 0, 0, 0], [0, 0, 0, 0, 0, 0], [0, 0, 0, 0, 0, 0], [0, 0, 0, 0, 0, 0], [0, 0, 0, 0, 0, 0], [0, 0, 0, 0, 0, 0], [0, 0, 0, 0, 0, 0], [0, 0, 0, 0, 0, 0], [0, 0, 0, 0, 0, 0], [0, 0, 0, 0, 0, 0], [0, 0, 0, 0, 0, 0], [0, 0, 0, 0, 0, 0], [0, 0, 0, 0, 0, 0], [0, 0, 0, 0, 0, 0], [0, 0, 0, 0, 0, 0], [0, 0, 0, 0, 0, 0], [0, 0, 0, 0, 0, 0], [0, 0, 0, 0, 0, 0], [0, 0, 0, 0, 0, 0], [0, 0, 0, 0, 0, 0], [0, 0, 0, 0, 0, 0], [0, 0, 0, 0, 0, 0], [0, 0, 0, 0, 0, 0], [0, 0, 0, 0, 0, 0], [0, 0, 0, 0, 0, 0], [0, 0, 0, 0, 0, 0], [0, 0, 0, 0, 0, 0], [0, 0, 0, 0, 0, 0], [0, 0, 0, 0, 0, 0], [0, 0, 0, 0, 0, 0], [0, 0, 0, 0, 0, 0], [0, 0, 0, 0, 0, 0], [0, 0, 0, 0, 0, 0], [0, 0, 0, 0, 0, 0], [0, 0, 0, 0, 0, 0], [0, 0, 0, 0, 0, 0], [0, 0, 0, 0, 0, 0], [0, 0, 0, 0, 0, 0], [0, 0, 0, 0, 0, 0], [0, 0, 0, 0, 0, 0], [0, 0, 0, 0, 0, 0], [0, 0, 0, 0, 0, 0], [0, 0, 0, 0, 0, 0], [0, 0, 0, 0, 0, 0], [0, 0, 0, 0, 0, 0], [0, 0, 0, 0, 0, 0], [0, 0, 0, 0, 0, 0], [0, 0, 0, 0, 0, 0], [0, 0, 0, 0, 0, 0], [0, 0, 0, 0, 0, 0], [0, 0, 0, 0, 0, 0], [0, 0, 0, 0, 0, 0], [0, 0, 0, 0, 0, 0], [0, 0, 0, 0, 0, 0], [0, 0, 0, 0, 0, 0], [0, 0, 0, 0, 0, 0], [0, 0, 0, 0, 0, 0], [0, 0, 0, 0, 0, 0], [0, 0, 0, 0, 0, 0], [0, 0, 0, 0, 0, 0], [0, 0, 0, 0, 0, 0], [0, 0, 0, 0, 0, 0], [0, 0, 0, 0, 0, 0], [0, 0, 0, 0, 0, 0], [0, 0, 0, 0, 0, 0], [0, 0, 0, 0, 0, 0], [0, 0, 0, 0, 0, 0], [0, 0, 0, 0, 0, 0], [0, 0, 0, 0, 0, 0], [0, 0, 0, 0, 0, 0], [0, 0, 0, 0, 0, 0], [0, 0, 0, 0, 0, 0], [0, 0, 0, 0, 0, 0], [0, 0, 0, 0, 0, 0], [0, 0, 0, 0, 0, 0], [0, 0, 0, 0, 0, 0], [0, 0, 0, 0, 0, 0], [0, 0, 0, 0, 0, 0], [0, 0, 0, 0, 0, 0], [0, 0, 0, 0, 0, 0], [0, 0, 0, 0, 0, 0], [0, 0, 0, 0, 0, 0], [0, 0, 0, 0, 0, 0], [0, 0, 0, 0, 0, 0], [0, 0, 0, 0, 0, 0], [0, 0, 0, 0, 0, 0], [0, 0, 0, 0, 0, 0], [0, 0, 0, 0, 0, 0], [0, 0, 0, 0, 0, 0], [0, 0, 0, 0, 0, 0], [0, 0, 0, 0, 0, 0], [0, 0, 0, 0, 0, 0], [0, 0, 0, 0, 0, 0], [0, 0, 0, 0, 0, 0], [0, 0, 0, 0, 0, 0], [0, 0, 0, 0, 0, 0], [0, 0, 0, 0, 0, 0], [0, 0, 0, 0, 0, 0], [0, 0, 0, 0, 0, 0], [0, 0, 0, 0, 0, 0], [0, 0, 0, 0, 0, 0], [0, 0, 0, 0, 0, 0], [0, 0, 0, 0, 0, 0], [0, 0, 0, 0, 0, 0], [0, 0, 0, 0, 0, 0], [0, 0, 0, 0, 0, 0], [0, 0, 0, 0, 0, 0], [0, 0, 0, 0, 0, 0], [0, 0, 0, 0, 0, 0], [0, 0, 0, 0, 0, 0], [0, 0, 0, 0, 0, 0], [0, 0, 0, 0, 0, 0], [0, 0, 0, 0, 0, 0], [0, 0, 0, 0, 0, 0], [0, 0, 0, 0, 0, 0], [0, 0, 0, 0, 0, 0], [0, 0, 0, 0, 0, 0], [0, 0, 0, 0, 0, 0], [0, 0, 0, 0, 0, 0], [0, 0, 0, 0, 0, 0], [0, 0, 0, 0, 0, 0], [0, 0, 0, 0, 0, 0], [0, 0, 0, 0, 0, 0], [0, 0, 0, 0, 0, 0], [0, 0, 0, 0, 0, 0], [0, 0, 0, 0, 0, 0], [0, 0, 0, 0, 0, 0], [0, 0, 0, 0, 0, 0], [0, 0, 0, 0, 0, 0], [0, 0, 0, 0, 0, 0], [0, 0, 0, 0, 0, 0], [0, 0, 0, 0, 0, 0], [0, 0, 0, 0, 0, 0], [0, 0, 0, 0, 0, 0], [0, 0, 0, 0, 0, 0], [0, 0, 0, 0, 0, 0], [0, 0, 0, 0, 0, 0], [0, 0, 0, 0, 0, 0], [0, 0, 0, 0, 0, 0], [0, 0, 0, 0, 0, 0], [0, 0, 0, 0, 0, 0], [0, 0, 0, 0, 0, 0], [0, 0, 0, 0, 0, 0], [0, 0, 0, 0, 0, 0], [0, 0, 0, 0, 0, 0], [0, 0, 0, 0, 0, 0], [0, 0, 0, 0, 0, 0], [0, 0, 0, 0, 0, 0], [0, 0, 0, 0, 0, 0], [0, 0, 0, 0, 0, 0], [0, 0, 0, 0, 0, 0], [0, 0, 0, 0, 0, 0], [0, 0, 0, 0, 0, 0], [0, 0, 0, 0, 0, 0]]
/-- what heap h of S sides is told as; the heap with one die more that shows s + 1 -/
def td (S h : Nat) : Nat := (match S with | 2 => tdT2 | 3 => tdT3 | 4 => tdT4 | 5 => tdT5 | _ => tdT6).getD h 0
def nx (S h s : Nat) : Nat := ((match S with | 2 => nxT2 | 3 => nxT3 | 4 => nxT4 | 5 => nxT5 | _ => nxT6).getD h []).getD s 0
/-- how many heaps have at most d dice -/
def nh (S d : Nat) : Nat := match d with
  | 0 => 1
  | 1 => S + 1
  | 2 => (S + 1) * (S + 2) / 2
  | 3 => (S + 1) * (S + 2) * (S + 3) / 6
  | 4 => (S + 1) * (S + 2) * (S + 3) * (S + 4) / 24
  | _ => (S + 1) * (S + 2) * (S + 3) * (S + 4) * (S + 5) / 120
/-- the first heap of d dice -/
def fh (S d : Nat) : Nat := match d with
  | 0 => 0
  | d + 1 => nh S d
/-- how many figures of a number (five at most) are k -/
def cf (k : Nat) : Nat → Nat → Nat
  | 0, _ => 0
  | f + 1, v => if v = 0 then 0 else (if v % 10 = k then 1 else 0) + cf k f (v / 10)
def fg : Nat → Nat → Nat
  | 0, _ => 0
  | f + 1, v => if v = 0 then 0 else 1 + fg f (v / 10)
def sz (S h : Nat) : Nat := fg 5 (td S h)
def sh (S h s : Nat) : Nat := cf (s + 1) 5 (td S h)
/-- a number out of how many show each side -/
def ap (k : Nat) : Nat → Nat → Nat
  | 0, v => v
  | c + 1, v => ap k c (10 * v + k)
def tn (c : Nat → Nat) : Nat → Nat
  | 0 => 0
  | k + 1 => ap (k + 1) (c k) (tn c k)
def al (p : Nat → Bool) : Nat → Bool
  | 0 => true
  | n + 1 => p n && al p n
theorem al_spec {p : Nat → Bool} : ∀ {n : Nat}, al p n = true → ∀ i, i < n → p i = true
  | 0, _, i, h => absurd h (Nat.not_lt_zero i)
  | n + 1, h, i, hi => by
    unfold al at h
    rw [Bool.and_eq_true] at h
    rcases Nat.lt_or_ge i n with q | q
    · exact al_spec h.2 i q
    · have e : i = n := by omega
      subst e
      exact h.1
def okS (S : Nat) : Bool := al (fun h =>
    (h + 1 == nh S 5 || decide (td S h < td S (h + 1))) && tn (sh S h) 6 == td S h && decide (sz S h ≤ 5) && al (fun s => decide (s < S) || sh S h s == 0) 6 &&
    al (fun d => (decide (sz S h ≤ d) == decide (h < nh S d))) 6 &&
    (sz S h == 5 || al (fun s => decide (h < nx S h s) && decide (nx S h s < nh S 5) && sz S (nx S h s) == sz S h + 1 && al (fun k => sh S (nx S h s) k == sh S h k + (if k = s then 1 else 0)) 6) S)) (nh S 5)
theorem okS2 : okS 2 = true := by decide +kernel
theorem okS3 : okS 3 = true := by decide +kernel
theorem okS4 : okS 4 = true := by decide +kernel
theorem okS5 : okS 5 = true := by decide +kernel
theorem okS6 : okS 6 = true := by decide +kernel
theorem okS_all {S : Nat} (h2 : 2 ≤ S) (h6 : S ≤ 6) : okS S = true := by
  have h : S = 2 ∨ S = 3 ∨ S = 4 ∨ S = 5 ∨ S = 6 := by omega
  rcases h with rfl | rfl | rfl | rfl | rfl
  · exact okS2
  · exact okS3
  · exact okS4
  · exact okS5
  · exact okS6
end
section
def pvT2 : List (List Nat) := [[0, 0, 0, 0, 0, 0], [0, 0, 0, 0, 0, 0], [0, 0, 0, 0, 0, 0], [1, 0, 0, 0, 0, 0], [2, 1, 0, 0, 0, 0], [0, 2, 0, 0, 0, 0], [3, 0, 0, 0, 0, 0], [4, 3, 0, 0, 0, 0], [5, 4, 0, 0, 0, 0], [0, 5, 0, 0, 0, 0], [6, 0, 0, 0, 0, 0], [7, 6, 0, 0, 0, 0], [8, 7, 0, 0, 0, 0], [9, 8, 0, 0, 0, 0], [0, 9, 0, 0, 0, 0], [10, 0, 0, 0, 0, 0], [11, 10, 0, 0, 0, 0], [12, 11, 0, 0, 0, 0], [13, 12, 0, 0, 0, 0], [14, 13, 0, 0, 0, 0], [0, 14, 0, 0, 0, 0]]
def pvT3 : List (List Nat) := [[0, 0, 0, 0, 0, 0], [0, 0, 0, 0, 0, 0], [0, 0, 0, 0, 0, 0], [0, 0, 0, 0, 0, 0], [1, 0, 0, 0, 0, 0], [2, 1, 0, 0, 0, 0], [3, 0, 1, 0, 0, 0], [0, 2, 0, 0, 0, 0], [0, 3, 2, 0, 0, 0], [0, 0, 3, 0, 0, 0], [4, 0, 0, 0, 0, 0], [5, 4, 0, 0, 0, 0], [6, 0, 4, 0, 0, 0], [7, 5, 0, 0, 0, 0], [8, 6, 5, 0, 0, 0], [9, 0, 6, 0, 0, 0], [0, 7, 0, 0, 0, 0], [0, 8, 7, 0, 0, 0], [0, 9, 8, 0, 0, 0], [0, 0, 9, 0, 0, 0], [10, 0, 0, 0, 0, 0], [11, 10, 0, 0, 0, 0], [12, 0, 10, 0, 0, 0], [13, 11, 0, 0, 0, 0], [14, 12, 11, 0, 0, 0], [15, 0, 12, 0, 0, 0], [16, 13, 0, 0, 0, 0], [17, 14, 13, 0, 0, 0], [18, 15, 14, 0, 0, 0], [19, 0, 15, 0, 0, 0], [0, 16, 0, 0, 0, 0], [0, 17, 16, 0, 0, 0], [0, 18, 17, 0, 0, 0], [0, 19, 18, 0, 0, 0], [0, 0, 19, 0, 0, 0], [20, 0, 0, 0, 0, 0], [21, 20, 0, 0, 0, 0], [22, 0, 20, 0, 0, 0], [23, 21, 0, 0, 0, 0], [24, 22, 21, 0, 0, 0], [25, 0, 22, 0, 0, 0], [26, 23, 0, 0, 0, 0], [27, 24, 23, 0, 0, 0], [28, 25, 24, 0, 0, 0], [29, 0, 25, 0, 0, 0], [30, 26, 0, 0, 0, 0], [31, 27, 26, 0, 0, 0], [32, 28, 27, 0, 0, 0], [33, 29, 28, 0, 0, 0], [34, 0, 29, 0, 0, 0], [0, 30, 0, 0, 0, 0], [0, 31, 30, 0, 0, 0], [0, 32, 31, 0, 0, 0], [0, 33, 32, 0, 0, 0], [0, 34, 33, 0, 0, 0], [0, 0, 34, 0, 0, 0]]
def pvT4 : List (List Nat) := [[0, 0, 0, 0, 0, 0], [0, 0, 0, 0, 0, 0], [0, 0, 0, 0, 0, 0], [0, 0, 0, 0, 0, 0], [0, 0, 0, 0, 0, 0], [1, 0, 0, 0, 0, 0], [2, 1, 0, 0, 0, 0], [3, 0, 1, 0, 0, 0], [4, 0, 0, 1, 0, 0], [0, 2, 0, 0, 0, 0], [0, 3, 2, 0, 0, 0], [0, 4, 0, 2, 0, 0], [0, 0, 3, 0, 0, 0], [0, 0, 4, 3, 0, 0], [0, 0, 0, 4, 0, 0], [5, 0, 0, 0, 0, 0], [6, 5, 0, 0, 0, 0], [7, 0, 5, 0, 0, 0], [8, 0, 0, 5, 0, 0], [9, 6, 0, 0, 0, 0], [10, 7, 6, 0, 0, 0], [11, 8, 0, 6, 0, 0], [12, 0, 7, 0, 0, 0], [13, 0, 8, 7, 0, 0], [14, 0, 0, 8, 0, 0], [0, 9, 0, 0, 0, 0], [0, 10, 9, 0, 0, 0], [0, 11, 0, 9, 0, 0], [0, 12, 10, 0, 0, 0], [0, 13, 11, 10, 0, 0], [0, 14, 0, 11, 0, 0], [0, 0, 12, 0, 0, 0], [0, 0, 13, 12, 0, 0], [0, 0, 14, 13, 0, 0], [0, 0, 0, 14, 0, 0], [15, 0, 0, 0, 0, 0], [16, 15, 0, 0, 0, 0], [17, 0, 15, 0, 0, 0], [18, 0, 0, 15, 0, 0], [19, 16, 0, 0, 0, 0], [20, 17, 16, 0, 0, 0], [21, 18, 0, 16, 0, 0], [22, 0, 17, 0, 0, 0], [23, 0, 18, 17, 0, 0], [24, 0, 0, 18, 0, 0], [25, 19, 0, 0, 0, 0], [26, 20, 19, 0, 0, 0], [27, 21, 0, 19, 0, 0], [28, 22, 20, 0, 0, 0], [29, 23, 21, 20, 0, 0], [30, 24, 0, 21, 0, 0], [31, 0, 22, 0, 0, 0], [32, 0, 23, 22, 0, 0], [33, 0, 24, 23, 0, 0], [34, 0, 0, 24, 0, 0], [0, 25, 0, 0, 0, 0], [0, 26, 25, 0, 0, 0], [0, 27, 0, 25, 0, 0], [0, 28, 26, 0, 0, 0], [0, 29, 27, 26, 0, 0], [0, 30, 0, 27, 0, 0], [0, 31, 28, 0, 0, 0], [0, 32, 29, 28, 0, 0], [0, 33, 30, 29, 0, 0], [0, 34, 0, 30, 0, 0], [0, 0, 31, 0, 0, 0], [0, 0, 32, 31, 0, 0], [0, 0, 33, 32, 0, 0], [0, 0, 34, 33, 0, 0], [0, 0, 0, 34, 0, 0], [35, 0, 0, 0, 0, 0], [36, 35, 0, 0, 0, 0], [37, 0, 35, 0, 0, 0], [38, 0, 0, 35, 0, 0], [39, 36, 0, 0, 0, 0], [40, 37, 36, 0, 0, 0], [41, 38, 0, 36, 0, 0], [42, 0, 37, 0, 0, 0], [43, 0, 38, 37, 0, 0], [44, 0, 0, 38, 0, 0], [45, 39, 0, 0, 0, 0], [46, 40, 39, 0, 0, 0], [47, 41, 0, 39, 0, 0], [48, 42, 40, 0, 0, 0], [49, 43, 41, 40, 0, 0], [50, 44, 0, 41, 0, 0], [51, 0, 42, 0, 0, 0], [52, 0, 43, 42, 0, 0], [53, 0, 44, 43, 0, 0], [54, 0, 0, 44, 0, 0], [55, 45, 0, 0, 0, 0], [56, 46, 45, 0, 0, 0], [57, 47, 0, 45, 0, 0], [58, 48, 46, 0, 0, 0], [59, 49, 47, 46, 0, 0], [60, 50, 0, 47, 0, 0], [61, 51, 48, 0, 0, 0], [62, 52, 49, 48, 0, 0], [63, 53, 50, 49, 0, 0], [64, 54, 0, 50, 0, 0], [65, 0, 51, 0, 0, 0], [66, 0, 52, 51, 0, 0], [67, 0, 53, 52, 0, 0], [68, 0, 54, 53, 0, 0], [69, 0, 0, 54, 0, 0], [0, 55, 0, 0, 0, 0], [0, 56, 55, 0, 0, 0], [0, 57, 0, 55, 0, 0], [0, 58, 56, 0, 0, 0], [0, 59, 57, 56, 0, 0], [0, 60, 0, 57, 0, 0], [0, 61, 58, 0, 0, 0], [0, 62, 59, 58, 0, 0], [0, 63, 60, 59, 0, 0], [0, 64, 0, 60, 0, 0], [0, 65, 61, 0, 0, 0], [0, 66, 62, 61, 0, 0], [0, 67, 63, 62, 0, 0], [0, 68, 64, 63, 0, 0], [0, 69, 0, 64, 0, 0], [0, 0, 65, 0, 0, 0], [0, 0, 66, 65, 0, 0], [0, 0, 67, 66, 0, 0], [0, 0, 68, 67, 0, 0], [0, 0, 69, 68, 0, 0], [0, 0, 0, 69, 0, 0]]
def pvT5 : List (List Nat) := [[0, 0, 0, 0, 0, 0], [0, 0, 0, 0, 0, 0], [0, 0, 0, 0, 0, 0], [0, 0, 0, 0, 0, 0], [0, 0, 0, 0, 0, 0], [0, 0, 0, 0, 0, 0], [1, 0, 0, 0, 0, 0], [2, 1, 0, 0, 0, 0], [3, 0, 1, 0, 0, 0], [4, 0, 0, 1, 0, 0], [5, 0, 0, 0, 1, 0], [0, 2, 0, 0, 0, 0], [0, 3, 2, 0, 0, 0], [0, 4, 0, 2, 0, 0], [0, 5, 0, 0, 2, 0], [0, 0, 3, 0, 0, 0], [0, 0, 4, 3, 0, 0], [0, 0, 5, 0, 3, 0], [0, 0, 0, 4, 0, 0], [0, 0, 0, 5, 4, 0], [0, 0, 0, 0, 5, 0], [6, 0, 0, 0, 0, 0], [7, 6, 0, 0, 0, 0], [8, 0, 6, 0, 0, 0], [9, 0, 0, 6, 0, 0], [10, 0, 0, 0, 6, 0], [11, 7, 0, 0, 0, 0], [12, 8, 7, 0, 0, 0], [13, 9, 0, 7, 0, 0], [14, 10, 0, 0, 7, 0], [15, 0, 8, 0, 0, 0], [16, 0, 9, 8, 0, 0], [17, 0, 10, 0, 8, 0], [18, 0, 0, 9, 0, 0], [19, 0, 0, 10, 9, 0], [20, 0, 0, 0, 10, 0], [0, 11, 0, 0, 0, 0], [0, 12, 11, 0, 0, 0], [0, 13, 0, 11, 0, 0], [0, 14, 0, 0, 11, 0], [0, 15, 12, 0, 0, 0], [0, 16, 13, 12, 0, 0], [0, 17, 14, 0, 12, 0], [0, 18, 0, 13, 0, 0], [0, 19, 0, 14, 13, 0], [0, 20, 0, 0, 14, 0], [0, 0, 15, 0, 0, 0], [0, 0, 16, 15, 0, 0], [0, 0, 17, 0, 15, 0], [0, 0, 18, 16, 0, 0], [0, 0, 19, 17, 16, 0], [0, 0, 20, 0, 17, 0], [0, 0, 0, 18, 0, 0], [0, 0, 0, 19, 18, 0], [0, 0, 0, 20, 19, 0], [0, 0, 0, 0, 20, 0], [21, 0, 0, 0, 0, 0], [22, 21, 0, 0, 0, 0], [23, 0, 21, 0, 0, 0], [24, 0, 0, 21, 0, 0], [25, 0, 0, 0, 21, 0], [26, 22, 0, 0, 0, 0], [27, 23, 22, 0, 0, 0], [28, 24, 0, 22, 0, 0], [29, 25, 0, 0, 22, 0], [30, 0, 23, 0, 0, 0], [31, 0, 24, 23, 0, 0], [32, 0, 25, 0, 23, 0], [33, 0, 0, 24, 0, 0], [34, 0, 0, 25, 24, 0], [35, 0, 0, 0, 25, 0], [36, 26, 0, 0, 0, 0], [37, 27, 26, 0, 0, 0], [38, 28, 0, 26, 0, 0], [39, 29, 0, 0, 26, 0], [40, 30, 27, 0, 0, 0], [41, 31, 28, 27, 0, 0], [42, 32, 29, 0, 27, 0], [43, 33, 0, 28, 0, 0], [44, 34, 0, 29, 28, 0], [45, 35, 0, 0, 29, 0], [46, 0, 30, 0, 0, 0], [47, 0, 31, 30, 0, 0], [48, 0, 32, 0, 30, 0], [49, 0, 33, 31, 0, 0], [50, 0, 34, 32, 31, 0], [51, 0, 35, 0, 32, 0], [52, 0, 0, 33, 0, 0], [53, 0, 0, 34, 33, 0], [54, 0, 0, 35, 34, 0], [55, 0, 0, 0, 35, 0], [0, 36, 0, 0, 0, 0], [0, 37, 36, 0, 0, 0], [0, 38, 0, 36, 0, 0], [0, 39, 0, 0, 36, 0], [0, 40, 37, 0, 0, 0], [0, 41, 38, 37, 0, 0], [0, 42, 39, 0, 37, 0], [0, 43, 0, 38, 0, 0], [0, 44, 0, 39, 38, 0], [0, 45, 0, 0, 39, 0], [0, 46, 40, 0, 0, 0], [0, 47, 41, 40, 0, 0], [0, 48, 42, 0, 40, 0], [0, 49, 43, 41, 0, 0], [0, 50, 44, 42, 41, 0], [0, 51, 45, 0, 42, 0], [0, 52, 0, 43, 0, 0], [0, 53, 0, 44, 43, 0], [0, 54, 0, 45, 44, 0], [0, 55, 0, 0, 45, 0], [0, 0, 46, 0, 0, 0], [0, 0, 47, 46, 0, 0], [0, 0, 48, 0, 46, 0], [0, 0, 49, 47, 0, 0], [0, 0, 50, 48, 47, 0], [0, 0, 51, 0, 48, 0], [0, 0, 52, 49, 0, 0], [0, 0, 53, 50, 49, 0], [0, 0, 54, 51, 50, 0], [0, 0, 55, 0, 51, 0], [0, 0, 0, 52, 0, 0], [0, 0, 0, 53, 52, 0], [0, 0, 0, 54, 53, 0], [0, 0, 0, 55, 54, 0], [0, 0, 0, 0, 55, 0], [56, 0, 0, 0, 0, 0], [57, 56, 0, 0, 0, 0], [58, 0, 56, 0, 0, 0], [59, 0, 0, 56, 0, 0], [60, 0, 0, 0, 56, 0], [61, 57, 0, 0, 0, 0], [62, 58, 57, 0, 0, 0], [63, 59, 0, 57, 0, 0], [64, 60, 0, 0, 57, 0], [65, 0, 58, 0, 0, 0], [66, 0, 59, 58, 0, 0], [67, 0, 60, 0, 58, 0], [68, 0, 0, 59, 0, 0], [69, 0, 0, 60, 59, 0], [70, 0, 0, 0, 60, 0], [71, 61, 0, 0, 0, 0], [72, 62, 61, 0, 0, 0], [73, 63, 0, 61, 0, 0], [74, 64, 0, 0, 61, 0], [75, 65, 62, 0, 0, 0], [76, 66, 63, 62, 0, 0], [77, 67, 64, 0, 62, 0], [78, 68, 0, 63, 0, 0], [79, 69, 0, 64, 63, 0], [80, 70, 0, 0, 64, 0], [81, 0, 65, 0, 0, 0], [82, 0, 66, 65, 0, 0], [83, 0, 67, 0, 65, 0], [84, 0, 68, 66, 0, 0], [85, 0, 69, 67, 66, 0], [86, 0, 70, 0, 67, 0], [87, 0, 0, 68, 0, 0], [88, 0, 0, 69, 68, 0], [89, 0, 0, 70, 69, 0], [90, 0, 0, 0, 70, 0], [91, 71, 0, 0, 0, 0], [92, 72, 71, 0, 0, 0], [93, 73, 0, 71, 0, 0], [94, 74, 0, 0, 71, 0], [95, 75, 72, 0, 0, 0], [96, 76, 73, 72, 0, 0], [97, 77, 74, 0, 72, 0], [98, 78, 0, 73, 0, 0], [99, 79, 0, 74, 73, 0], [100, 80, 0, 0, 74, 0], [101, 81, 75, 0, 0, 0], [102, 82, 76, 75, 0, 0], [103, 83, 77, 0, 75, 0], [104, 84, 78, 76, 0, 0], [105, 85, 79, 77, 76, 0], [106, 86, 80, 0, 77, 0], [107, 87, 0, 78, 0, 0], [108, 88, 0, 79, 78, 0], [109, 89, 0, 80, 79, 0], [110, 90, 0, 0, 80, 0], [111, 0, 81, 0, 0, 0], [112, 0, 82, 81, 0, 0], [113, 0, 83, 0, 81, 0], [114, 0, 84, 82, 0, 0], [115, 0, 85, 83, 82, 0], [116, 0, 86, 0, 83, 0], [117, 0, 87, 84, 0, 0], [118, 0, 88, 85, 84, 0], [119, 0, 89, 86, 85, 0], [120, 0, 90, 0, 86, 0], [121, 0, 0, 87, 0, 0], [122, 0, 0, 88, 87, 0], [123, 0, 0, 89, 88, 0], [124, 0, 0, 90, 89, 0], [125, 0, 0, 0, 90, 0], [0, 91, 0, 0, 0, 0], [0, 92, 91, 0, 0, 0], [0, 93, 0, 91, 0, 0], [0, 94, 0, 0, 91, 0], [0, 95, 92, 0, 0, 0], [0, 96, 93, 92, 0, 0], [0, 97, 94, 0, 92, 0], [0, 98, 0, 93, 0, 0], [0, 99, 0, 94, 93, 0], [0, 100, 0, 0, 94, 0], [0, 101, 95, 0, 0, 0], [0, 102, 96, 95, 0, 0], [0, 103, 97, 0, 95, 0], [0, 104, 98, 96, 0, 0], [0, 105, 99, 97, 96, 0], [0, 106, 100, 0, 97, 0], [0, 107, 0, 98, 0, 0], [0, 108, 0, 99, 98, 0], [0, 109, 0, 100, 99, 0], [0, 110, 0, 0, 100, 0], [0, 111, 101, 0, 0, 0], [0, 112, 102, 101, 0, 0], [0, 113, 103, 0, 101, 0], [0, 114, 104, 102, 0, 0], [0, 115, 105, 103, 102, 0], [0, 116, 106, 0, 103, 0], [0, 117, 107, 104, 0, 0], [0, 118, 108, 105, 104, 0], [0, 119, 109, 106, 105, 0], [0, 120, 110, 0, 106, 0], [0, 121, 0, 107, 0, 0], [0, 122, 0, 108, 107, 0], [0, 123, 0, 109, 108, 0], [0, 124, 0, 110, 109, 0], [0, 125, 0, 0, 110, 0], [0, 0, 111, 0, 0, 0], [0, 0, 112, 111, 0, 0], [0, 0, 113, 0, 111, 0], [0, 0, 114, 112, 0, 0], [0, 0, 115, 113, 112, 0], [0, 0, 116, 0, 113, 0], [0, 0, 117, 114, 0, 0], [0, 0, 118, 115, 114, 0], [0, 0, 119, 116, 115, 0], [0, 0, 120, 0, 116, 0], [0, 0, 121, 117, 0, 0], [0, 0, 122, 118, 117, 0], [0, 0, 123, 119, 118, 0], [0, 0, 124, 120, 119, 0], [0, 0, 125, 0, 120, 0], [0, 0, 0, 121, 0, 0], [0, 0, 0, 122, 121, 0], [0, 0, 0, 123, 122, 0], [0, 0, 0, 124, 123, 0], [0, 0, 0, 125, 124, 0], [0, 0, 0, 0, 125, 0]]
def pvT6 : List (List Nat) := [[0, 0, 0, 0, 0, 0], [0, 0, 0, 0, 0, 0], [0, 0, 0, 0, 0, 0], [0, 0, 0, 0, 0, 0], [0, 0, 0, 0, 0, 0], [0, 0, 0, 0, 0, 0], [0, 0, 0, 0, 0, 0], [1, 0, 0, 0, 0, 0], [2, 1, 0, 0, 0, 0], [3, 0, 1, 0, 0, 0], [4, 0, 0, 1, 0, 0], [5, 0, 0, 0, 1, 0], [6, 0, 0, 0, 0, 1], [0, 2, 0, 0, 0, 0], [0, 3, 2, 0, 0, 0], [0, 4, 0, 2, 0, 0], [0, 5, 0, 0, 2, 0], [0, 6, 0, 0, 0, 2], [0, 0, 3, 0, 0, 0], [0, 0, 4, 3, 0, 0], [0, 0, 5, 0, 3, 0], [0, 0, 6, 0, 0, 3], [0, 0, 0, 4, 0, 0], [0, 0, 0, 5, 4, 0], [0, 0, 0, 6, 0, 4], [0, 0, 0, 0, 5, 0], [0, 0, 0, 0, 6, 5], [0, 0, 0, 0, 0, 6], [7, 0, 0, 0, 0, 0], [8, 7, 0, 0, 0, 0], [9, 0, 7, 0, 0, 0], [10, 0, 0, 7, 0, 0], [11, 0, 0, 0, 7, 0], [12, 0, 0, 0, 0, 7], [13, 8, 0, 0, 0, 0], [14, 9, 8, 0, 0, 0], [15, 10, 0, 8, 0, 0], [16, 11, 0, 0, 8, 0], [17, 12, 0, 0, 0, 8], [18, 0, 9, 0, 0, 0], [19, 0, 10, 9, 0, 0], [20, 0, 11, 0, 9, 0], [21, 0, 12, 0, 0, 9], [22, 0, 0, 10, 0, 0], [23, 0, 0, 11, 10, 0], [24, 0, 0, 12, 0, 10], [25, 0, 0, 0, 11, 0], [26, 0, 0, 0, 12, 11], [27, 0, 0, 0, 0, 12], [0, 13, 0, 0, 0, 0], [0, 14, 13, 0, 0, 0], [0, 15, 0, 13, 0, 0], [0, 16, 0, 0, 13, 0], [0, 17, 0, 0, 0, 13], [0, 18, 14, 0, 0, 0], [0, 19, 15, 14, 0, 0], [0, 20, 16, 0, 14, 0], [0, 21, 17, 0, 0, 14], [0, 22, 0, 15, 0, 0], [0, 23, 0, 16, 15, 0], [0, 24, 0, 17, 0, 15], [0, 25, 0, 0, 16, 0], [0, 26, 0, 0, 17, 16], [0, 27, 0, 0, 0, 17], [0, 0, 18, 0, 0, 0], [0, 0, 19, 18, 0, 0], [0, 0, 20, 0, 18, 0], [0, 0, 21, 0, 0, 18], [0, 0, 22, 19, 0, 0], [0, 0, 23, 20, 19, 0], [0, 0, 24, 21, 0, 19], [0, 0, 25, 0, 20, 0], [0, 0, 26, 0, 21, 20], [0, 0, 27, 0, 0, 21], [0, 0, 0, 22, 0, 0], [0, 0, 0, 23, 22, 0], [0, 0, 0, 24, 0, 22], [0, 0, 0, 25, 23, 0], [0, 0, 0, 26, 24, 23], [0, 0, 0, 27, 0, 24], [0, 0, 0, 0, 25, 0], [0, 0, 0, 0, 26, 25], [0, 0, 0, 0, 27, 26], [0, 0, 0, 0, 0, 27], [28, 0, 0, 0, 0, 0], [29, 28, 0, 0, 0, 0], [30, 0, 28, 0, 0, 0], [31, 0, 0, 28, 0, 0], [32, 0, 0, 0, 28, 0], [33, 0, 0, 0, 0, 28], [34, 29, 0, 0, 0, 0], [35, 30, 29, 0, 0, 0], [36, 31, 0, 29, 0, 0], [37, 32, 0, 0, 29, 0], [38, 33, 0, 0, 0, 29], [39, 0, 30, 0, 0, 0], [40, 0, 31, 30, 0, 0], [41, 0, 32, 0, 30, 0], [42, 0, 33, 0, 0, 30], [43, 0, 0, 31, 0, 0], [44, 0, 0, 32, 31, 0], [45, 0, 0, 33, 0, 31], [46, 0, 0, 0, 32, 0], [47, 0, 0, 0, 33, 32], [48, 0, 0, 0, 0, 33], [49, 34, 0, 0, 0, 0], [50, 35, 34, 0, 0, 0], [51, 36, 0, 34, 0, 0], [52, 37, 0, 0, 34, 0], [53, 38, 0, 0, 0, 34], [54, 39, 35, 0, 0, 0], [55, 40, 36, 35, 0, 0], [56, 41, 37, 0, 35, 0], [57, 42, 38, 0, 0, 35], [58, 43, 0, 36, 0, 0], [59, 44, 0, 37, 36, 0], [60, 45, 0, 38, 0, 36], [61, 46, 0, 0, 37, 0], [62, 47, 0, 0, 38, 37], [63, 48, 0, 0, 0, 38], [64, 0, 39, 0, 0, 0], [65, 0, 40, 39, 0, 0], [66, 0, 41, 0, 39, 0], [67, 0, 42, 0, 0, 39], [68, 0, 43, 40, 0, 0], [69, 0, 44, 41, 40, 0], [70, 0, 45, 42, 0, 40], [71, 0, 46, 0, 41, 0], [72, 0, 47, 0, 42, 41], [73, 0, 48, 0, 0, 42], [74, 0, 0, 43, 0, 0], [75, 0, 0, 44, 43, 0], [76, 0, 0, 45, 0, 43], [77, 0, 0, 46, 44, 0], [78, 0, 0, 47, 45, 44], [79, 0, 0, 48, 0, 45], [80, 0, 0, 0, 46, 0], [81, 0, 0, 0, 47, 46], [82, 0, 0, 0, 48, 47], [83, 0, 0, 0, 0, 48], [0, 49, 0, 0, 0, 0], [0, 50, 49, 0, 0, 0], [0, 51, 0, 49, 0, 0], [0, 52, 0, 0, 49, 0], [0, 53, 0, 0, 0, 49], [0, 54, 50, 0, 0, 0], [0, 55, 51, 50, 0, 0], [0, 56, 52, 0, 50, 0], [0, 57, 53, 0, 0, 50], [0, 58, 0, 51, 0, 0], [0, 59, 0, 52, 51, 0], [0, 60, 0, 53, 0, 51], [0, 61, 0, 0, 52, 0], [0, 62, 0, 0, 53, 52], [0, 63, 0, 0, 0, 53], [0, 64, 54, 0, 0, 0], [0, 65, 55, 54, 0, 0], [0, 66, 56, 0, 54, 0], [0, 67, 57, 0, 0, 54], [0, 68, 58, 55, 0, 0], [0, 69, 59, 56, 55, 0], [0, 70, 60, 57, 0, 55], [0, 71, 61, 0, 56, 0], [0, 72, 62, 0, 57, 56], [0, 73, 63, 0, 0, 57], [0, 74, 0, 58, 0, 0], [0, 75, 0, 59, 58, 0], [0, 76, 0, 60, 0, 58], [0, 77, 0, 61, 59, 0], [0, 78, 0, 62, 60, 59], [0, 79, 0, 63, 0, 60], [0, 80, 0, 0, 61, 0], [0, 81, 0, 0, 62, 61], [0, 82, 0, 0, 63, 62], [0, 83, 0, 0, 0, 63], [0, 0, 64, 0, 0, 0], [0, 0, 65, 64, 0, 0], [0, 0, 66, 0, 64, 0], [0, 0, 67, 0, 0, 64], [0, 0, 68, 65, 0, 0], [0, 0, 69, 66, 65, 0], [0, 0, 70, 67, 0, 65], [0, 0, 71, 0, 66, 0], [0, 0, 72, 0, 67, 66], [0, 0, 73, 0, 0, 67], [0, 0, 74, 68, 0, 0], [0, 0, 75, 69, 68, 0], [0, 0, 76, 70, 0, 68], [0, 0, 77, 71, 69, 0], [0, 0, 78, 72, 70, 69], [0, 0, 79, 73, 0, 70], [0, 0, 80, 0, 71, 0], [0, 0, 81, 0, 72, 71], [0, 0, 82, 0, 73, 72], [0, 0, 83, 0, 0, 73], [0, 0, 0, 74, 0, 0], [0, 0, 0, 75, 74, 0], [0, 0, 0, 76, 0, 74], [0, 0, 0, 77, 75, 0], [0, 0, 0, 78, 76, 75], [0, 0, 0, 79, 0, 76], [0, 0, 0, 80, 77, 0], [0, 0, 0, 81, 78, 77], [0, 0, 0, 82, 79, 78], [0, 0, 0, 83, 0, 79], [0, 0, 0, 0, 80, 0], [0, 0, 0, 0, 81, 80], [0, 0, 0, 0, 82, 81], [0, 0, 0, 0, 83, 82], [0, 0, 0, 0, 0, 83], [84, 0, 0, 0, 0, 0], [85, 84, 0, 0, 0, 0], [86, 0, 84, 0, 0, 0], [87, 0, 0, 84, 0, 0], [88, 0, 0, 0, 84, 0], [89, 0, 0, 0, 0, 84], [90, 85, 0, 0, 0, 0], [91, 86, 85, 0, 0, 0], [92, 87, 0, 85, 0, 0], [93, 88, 0, 0, 85, 0], [94, 89, 0, 0, 0, 85], [95, 0, 86, 0, 0, 0], [96, 0, 87, 86, 0, 0], [97, 0, 88, 0, 86, 0], [98, 0, 89, 0, 0, 86], [99, 0, 0, 87, 0, 0], [100, 0, 0, 88, 87, 0], [101, 0, 0, 89, 0, 87], [102, 0, 0, 0, 88, 0], [103, 0, 0, 0, 89, 88], [104, 0, 0, 0, 0, 89], [105, 90, 0, 0, 0, 0], [106, 91, 90, 0, 0, 0], [107, 92, 0, 90, 0, 0], [108, 93, 0, 0, 90, 0], [109, 94, 0, 0, 0, 90], [110, 95, 91, 0, 0, 0], [111, 96, 92, 91, 0, 0], [112, 97, 93, 0, 91, 0], [113, 98, 94, 0, 0, 91], [114, 99, 0, 92, 0, 0], [115, 100, 0, 93, 92, 0], [116, 101, 0, 94, 0, 92], [117, 102, 0, 0, 93, 0], [118, 103, 0, 0, 94, 93], [119, 104, 0, 0, 0, 94], [120, 0, 95, 0, 0, 0], [121, 0, 96, 95, 0, 0], [122, 0, 97, 0, 95, 0], [123, 0, 98, 0, 0, 95], [124, 0, 99, 96, 0, 0], [125, 0, 100, 97, 96, 0], [126, 0, 101, 98, 0, 96], [127, 0, 102, 0, 97, 0], [128, 0, 103, 0, 98, 97], [129, 0, 104, 0, 0, 98], [130, 0, 0, 99, 0, 0], [131, 0, 0, 100, 99, 0], [132, 0, 0, 101, 0, 99], [133, 0, 0, 102, 100, 0], [134, 0, 0, 103, 101, 100], [135, 0, 0, 104, 0, 101], [136, 0, 0, 0, 102, 0], [137, 0, 0, 0, 103, 102], [138, 0, 0, 0, 104, 103], [139, 0, 0, 0, 0, 104], [140, 105, 0, 0, 0, 0], [141, 106, 105, 0, 0, 0], [142, 107, 0, 105, 0, 0], [143, 108, 0, 0, 105, 0], [144, 109, 0, 0, 0, 105], [145, 110, 106, 0, 0, 0], [146, 111, 107, 106, 0, 0], [147, 112, 108, 0, 106, 0], [148, 113, 109, 0, 0, 106], [149, 114, 0, 107, 0, 0], [150, 115, 0, 108, 107, 0], [151, 116, 0, 109, 0, 107], [152, 117, 0, 0, 108, 0], [153, 118, 0, 0, 109, 108], [154, 119, 0, 0, 0, 109], [155, 120, 110, 0, 0, 0], [156, 121, 111, 110, 0, 0], [157, 122, 112, 0, 110, 0], [158, 123, 113, 0, 0, 110], [159, 124, 114, 111, 0, 0], [160, 125, 115, 112, 111, 0], [161, 126, 116, 113, 0, 111], [162, 127, 117, 0, 112, 0], [163, 128, 118, 0, 113, 112], [164, 129, 119, 0, 0, 113], [165, 130, 0, 114, 0, 0], [166, 131, 0, 115, 114, 0], [167, 132, 0, 116, 0, 114], [168, 133, 0, 117, 115, 0], [169, 134, 0, 118, 116, 115], [170, 135, 0, 119, 0, 116], [171, 136, 0, 0, 117, 0], [172, 137, 0, 0, 118, 117], [173, 138, 0, 0, 119, 118], [174, 139, 0, 0, 0, 119], [175, 0, 120, 0, 0, 0], [176, 0, 121, 120, 0, 0], [177, 0, 122, 0, 120, 0], [178, 0, 123, 0, 0, 120], [179, 0, 124, 121, 0, 0], [180, 0, 125, 122, 121, 0], [181, 0, 126, 123, 0, 121], [182, 0, 127, 0, 122, 0], [183, 0, 128, 0, 123, 122], [184, 0, 129, 0, 0, 123], [185, 0, 130, 124, 0, 0], [186, 0, 131, 125, 124, 0], [187, 0, 132, 126, 0, 124], [188, 0, 133, 127, 125, 0], [189, 0, 134, 128, 126, 125], [190, 0, 135, 129, 0, 126], [191, 0, 136, 0, 127, 0], [192, 0, 137, 0, 128, 127], [193, 0, 138, 0, 129, 128], [194, 0, 139, 0, 0, 129], [195, 0, 0, 130, 0, 0], [196, 0, 0, 131, 130, 0], [197, 0, 0, 132, 0, 130], [198, 0, 0, 133, 131, 0], [199, 0, 0, 134, 132, 131], [200, 0, 0, 135, 0, 132], [201, 0, 0, 136, 133, 0], [202, 0, 0, 137, 134, 133], [203, 0, 0, 138, 135, 134], [204, 0, 0, 139, 0, 135], [205, 0, 0, 0, 136, 0], [206, 0, 0, 0, 137, 136], [207, 0, 0, 0, 138, 137], [208, 0, 0, 0, 139, 138], [209, 0, 0, 0, 0, 139], [0, 140, 0, 0, 0, 0], [0, 141, 140, 0, 0, 0], [0, 142, 0, 140, 0, 0], [0, 143, 0, 0, 140, 0], [0, 144, 0, 0, 0, 140], [0, 145, 141, 0, 0, 0], [0, 146, 142, 141, 0, 0], [0, 147, 143, 0, 141, 0], [0, 148, 144, 0, 0, 141], [0, 149, 0, 142, 0, 0], [0, 150, 0, 143, 142, 0], [0, 151, 0, 144, 0, 142], [0, 152, 0, 0, 143, 0], [0, 153, 0, 0, 144, 143], [0, 154, 0, 0, 0, 144], [0, 155, 145, 0, 0, 0], [0, 156, 146, 145, 0, 0], [0, 157, 147, 0, 145, 0], [0, 158, 148, 0, 0, 145], [0, 159, 149, 146, 0, 0], [0, 160, 150, 147, 146, 0], [0, 161, 151, 148, 0, 146], [0, 162, 152, 0, 147, 0], [0, 163, 153, 0, 148, 147], [0, 164, 154, 0, 0, 148], [0, 165, 0, 149, 0, 0], [0, 166, 0, 150, 149, 0], [0, 167, 0, 151, 0, 149], [0, 168, 0, 152, 150, 0], [0, 169, 0, 153, 151, 150], [0, 170, 0, 154, 0, 151], [0, 171, 0, 0, 152, 0], [0, 172, 0, 0, 153, 152], [0, 173, 0, 0, 154, 153], [0, 174, 0, 0, 0, 154], [0, 175, 155, 0, 0, 0], [0, 176, 156, 155, 0, 0], [0, 177, 157, 0, 155, 0], [0, 178, 158, 0, 0, 155], [0, 179, 159, 156, 0, 0], [0, 180, 160, 157, 156, 0], [0, 181, 161, 158, 0, 156], [0, 182, 162, 0, 157, 0], [0, 183, 163, 0, 158, 157], [0, 184, 164, 0, 0, 158], [0, 185, 165, 159, 0, 0], [0, 186, 166, 160, 159, 0], [0, 187, 167, 161, 0, 159], [0, 188, 168, 162, 160, 0], [0, 189, 169, 163, 161, 160], [0, 190, 170, 164, 0, 161], [0, 191, 171, 0, 162, 0], [0, 192, 172, 0, 163, 162], [0, 193, 173, 0, 164, 163], [0, 194, 174, 0, 0, 164], [0, 195, 0, 165, 0, 0], [0, 196, 0, 166, 165, 0], [0, 197, 0, 167, 0, 165], [0, 198, 0, 168, 166, 0], [0, 199, 0, 169, 167, 166], [0, 200, 0, 170, 0, 167], [0, 201, 0, 171, 168, 0], [0, 202, 0, 172, 169, 168], [0, 203, 0, 173, 170, 169], [0, 204, 0, 174, 0, 170], [0, 205, 0, 0, 171, 0], [0, 206, 0, 0, 172, 171], [0, 207, 0, 0, 173, 172], [0, 208, 0, 0, 174, 173], [0, 209, 0, 0, 0, 174], [0, 0, 175, 0, 0, 0], [0, 0, 176, 175, 0, 0], [0, 0, 177, 0, 175, 0], [0, 0, 178, 0, 0, 175], [0, 0, 179, 176, 0, 0], [0, 0, 180, 177, 176, 0], [0, 0, 181, 178, 0, 176], [0, 0, 182, 0, 177, 0], [0, 0, 183, 0, 178, 177], [0, 0, 184, 0, 0, 178], [0, 0, 185, 179, 0, 0], [0, 0, 186, 180, 179, 0], [0, 0, 187, 181, 0, 179], [0, 0, 188, 182, 180, 0], [0, 0, 189, 183, 181, 180], [0, 0, 190, 184, 0, 181], [0, 0, 191, 0, 182, 0], [0, 0, 192, 0, 183, 182], [0, 0, 193, 0, 184, 183], [0, 0, 194, 0, 0, 184], [0, 0, 195, 185, 0, 0], [0, 0, 196, 186, 185, 0], [0, 0, 197, 187, 0, 185], [0, 0, 198, 188, 186, 0], [0, 0, 199, 189, 187, 186], [0, 0, 200, 190, 0, 187], [0, 0, 201, 191, 188, 0], [0, 0, 202, 192, 189, 188], [0, 0, 203, 193, 190, 189], [0, 0, 204, 194, 0, 190], [0, 0, 205, 0, 191, 0], [0, 0, 206, 0, 192, 191], [0, 0, 207, 0, 193, 192], [0, 0, 208, 0, 194, 193], [0, 0, 209, 0, 0, 194], [0, 0, 0, 195, 0, 0], [0, 0, 0, 196, 195, 0], [0, 0, 0, 197, 0, 195], [0, 0, 0, 198, 196, 0], [0, 0, 0, 199, 197, 196], [0, 0, 0, 200, 0, 197], [0, 0, 0, 201, 198, 0], [0, 0, 0, 202, 199, 198], [0, 0, 0, 203, 200, 199], [0, 0, 0, 204, 0, 200], [0, 0, 0, 205, 201, 0], [0, 0, 0, 206, 202, 201], [0, 0, 0, 207, 203, 202], [0, 0, 0, 208, 204, 203], [0, 0, 0, 209, 0, 204], [0, 0, 0, 0, 205, 0], [0, 0, 0, 0, 206, 205], [0, 0, 0, 0, 207, 206], [0, 0, 0, 0, 208, 207], [0, 0, 0, 0, 209, 208], [0, 0, 0, 0, 0, 209]]
/-- the heap with a die that shows s + 1 less -/
def pv (S h s : Nat) : Nat := ((match S with | 2 => pvT2 | 3 => pvT3 | 4 => pvT4 | 5 => pvT5 | _ => pvT6).getD h []).getD s 0
/-- the first side that makes a new heap out of h -/
def f1 (S h : Nat) : Nat := max 1 (td S h % 10)
def okP (S : Nat) : Bool := al (fun h =>
    decide (td S h % 10 ≤ S) && (decide (sz S h < 5) || al (fun s => nx S h s == 0) 6) && al (fun s => sh S h s == 0 || (decide (pv S h s < h) && nx S (pv S h s) s == h)) 6 &&
    (sz S h == 5 || (al (fun s => if f1 S h ≤ s + 1 then nx S h s == nx S h (f1 S h - 1) + (s + 1 - f1 S h) && td S (nx S h s) == td S h * 10 + (s + 1) else decide (nx S h s < nx S h (f1 S h - 1))) S &&
      nx S h (S - 1) + 1 == (if sz S (h + 1) = 5 then nh S 5 else nx S (h + 1) (f1 S (h + 1) - 1))))) (nh S 5)
theorem okP2 : okP 2 = true := by decide +kernel
theorem okP3 : okP 3 = true := by decide +kernel
theorem okP4 : okP 4 = true := by decide +kernel
theorem okP5 : okP 5 = true := by decide +kernel
theorem okP6 : okP 6 = true := by decide +kernel
theorem okP_all {S : Nat} (h2 : 2 ≤ S) (h6 : S ≤ 6) : okP S = true := by
  have h : S = 2 ∨ S = 3 ∨ S = 4 ∨ S = 5 ∨ S = 6 := by omega
  rcases h with rfl | rfl | rfl | rfl | rfl
  · exact okP2
  · exact okP3
  · exact okP4
  · exact okP5
  · exact okP6
end
section
section TF
variable {S : Nat}
theorem okS_at (h2 : 2 ≤ S) (h6 : S ≤ 6) {h : Nat} (hh : h < nh S 5) : (h + 1 = nh S 5 ∨ td S h < td S (h + 1)) ∧ tn (sh S h) 6 = td S h ∧ sz S h ≤ 5 ∧ (∀ s, s < 6 → s < S ∨ sh S h s = 0) ∧ (∀ d, d < 6 → (sz S h ≤ d ↔ h < nh S d)) ∧ (sz S h = 5 ∨ ∀ s, s < S → h < nx S h s ∧ nx S h s < nh S 5 ∧ sz S (nx S h s) = sz S h + 1 ∧ ∀ k, k < 6 → sh S (nx S h s) k = sh S h k + (if k = s then 1 else 0)) := by
  have h0 := al_spec (okS_all h2 h6) h hh
  simp only [Bool.and_eq_true, Bool.or_eq_true, beq_iff_eq, decide_eq_true_eq] at h0
  obtain ⟨⟨⟨⟨⟨a1, a2⟩, a3⟩, a4⟩, a5⟩, a6⟩ := h0
  refine ⟨a1, a2, a3, fun s hs => ?_, fun d hd => ?_, ?_⟩
  · have := al_spec a4 s hs
    simpa using this
  · have := al_spec a5 d hd
    simp only [beq_iff_eq] at this
    constructor
    · intro q; simpa [q] using this
    · intro q; simpa [q] using this
  · rcases a6 with q | q
    · exact Or.inl q
    · refine Or.inr fun s hs => ?_
      have := al_spec q s hs
      simp only [Bool.and_eq_true, beq_iff_eq, decide_eq_true_eq] at this
      obtain ⟨⟨⟨b1, b2⟩, b3⟩, b4⟩ := this
      exact ⟨b1, b2, b3, fun k hk => by have := al_spec b4 k hk; simpa using this⟩
theorem okP_at (h2 : 2 ≤ S) (h6 : S ≤ 6) {h : Nat} (hh : h < nh S 5) : td S h % 10 ≤ S ∧ (sz S h < 5 ∨ ∀ s, s < 6 → nx S h s = 0) ∧ (∀ s, s < 6 → sh S h s = 0 ∨ (pv S h s < h ∧ nx S (pv S h s) s = h)) ∧ (sz S h = 5 ∨ ((∀ s, s < S → if f1 S h ≤ s + 1 then nx S h s = nx S h (f1 S h - 1) + (s + 1 - f1 S h) ∧ td S (nx S h s) = td S h * 10 + (s + 1) else nx S h s < nx S h (f1 S h - 1)) ∧ nx S h (S - 1) + 1 = (if sz S (h + 1) = 5 then nh S 5 else nx S (h + 1) (f1 S (h + 1) - 1)))) := by
  have h0 := al_spec (okP_all h2 h6) h hh
  simp only [Bool.and_eq_true, Bool.or_eq_true, beq_iff_eq, decide_eq_true_eq] at h0
  obtain ⟨⟨⟨a1, a0⟩, a2⟩, a3⟩ := h0
  refine ⟨a1, a0.imp id (fun q s hs => by have := al_spec q s hs; simpa using this), fun s hs => ?_, ?_⟩
  · have := al_spec a2 s hs
    simpa using this
  · rcases a3 with q | ⟨q1, q2⟩
    · exact Or.inl q
    · refine Or.inr ⟨fun s hs => ?_, q2⟩
      have := al_spec q1 s hs
      split
      · rename_i c
        simpa [c] using this
      · rename_i c
        simpa [c] using this
theorem nh_S0 : nh S 0 = 1 := rfl
theorem nh_mono (h2 : 2 ≤ S) (h6 : S ≤ 6) {d e : Nat} (hd : d ≤ e) (he : e ≤ 5) : nh S d ≤ nh S e := by
  have hS : S = 2 ∨ S = 3 ∨ S = 4 ∨ S = 5 ∨ S = 6 := by omega
  have hD : d = 0 ∨ d = 1 ∨ d = 2 ∨ d = 3 ∨ d = 4 ∨ d = 5 := by omega
  have hE : e = 0 ∨ e = 1 ∨ e = 2 ∨ e = 3 ∨ e = 4 ∨ e = 5 := by omega
  rcases hS with rfl | rfl | rfl | rfl | rfl <;> rcases hD with rfl | rfl | rfl | rfl | rfl | rfl <;> rcases hE with rfl | rfl | rfl | rfl | rfl | rfl <;> first | decide | (exfalso; omega)
theorem nh_lt (h2 : 2 ≤ S) (h6 : S ≤ 6) {d e : Nat} (hd : d < e) (he : e ≤ 5) : nh S d < nh S e := by
  have hS : S = 2 ∨ S = 3 ∨ S = 4 ∨ S = 5 ∨ S = 6 := by omega
  have hD : d = 0 ∨ d = 1 ∨ d = 2 ∨ d = 3 ∨ d = 4 ∨ d = 5 := by omega
  have hE : e = 0 ∨ e = 1 ∨ e = 2 ∨ e = 3 ∨ e = 4 ∨ e = 5 := by omega
  rcases hS with rfl | rfl | rfl | rfl | rfl <;> rcases hD with rfl | rfl | rfl | rfl | rfl | rfl <;> rcases hE with rfl | rfl | rfl | rfl | rfl | rfl <;> first | decide | (exfalso; omega)
theorem nh_le (h2 : 2 ≤ S) (h6 : S ≤ 6) {d : Nat} (hd : d ≤ 5) : nh S d ≤ 462 ∧ 1 ≤ nh S d := by
  have h1 := nh_mono h2 h6 (Nat.zero_le d) hd
  have h3 := nh_mono h2 h6 hd (Nat.le_refl 5)
  have h4 : nh S 5 ≤ 462 := by
    have hS : S = 2 ∨ S = 3 ∨ S = 4 ∨ S = 5 ∨ S = 6 := by omega
    rcases hS with rfl | rfl | rfl | rfl | rfl <;> decide
  exact ⟨Nat.le_trans h3 h4, h1⟩
theorem td_mono (h2 : 2 ≤ S) (h6 : S ≤ 6) {a : Nat} : ∀ k, a + k + 1 < nh S 5 → td S a < td S (a + k + 1)
  | 0, h => by
    rcases (okS_at h2 h6 (h := a) (by omega)).1 with q | q
    · omega
    · exact q
  | k + 1, h => by
    have h1 := td_mono h2 h6 (a := a) k (by omega)
    rcases (okS_at h2 h6 (h := a + k + 1) (by omega)).1 with q | q
    · omega
    · exact Nat.lt_trans h1 q
theorem td_inj (h2 : 2 ≤ S) (h6 : S ≤ 6) {a b : Nat} (ha : a < nh S 5) (hb : b < nh S 5) (h : td S a = td S b) : a = b := by
  rcases Nat.lt_trichotomy a b with q | q | q
  · have := td_mono h2 h6 (a := a) (b - a - 1) (by omega)
    rw [show a + (b - a - 1) + 1 = b by omega] at this
    omega
  · exact q
  · have := td_mono h2 h6 (a := b) (a - b - 1) (by omega)
    rw [show b + (a - b - 1) + 1 = a by omega] at this
    omega
theorem tn_congr {c e : Nat → Nat} : ∀ {k : Nat}, (∀ i, i < k → c i = e i) → tn c k = tn e k
  | 0, _ => rfl
  | k + 1, h => by
    unfold tn
    rw [tn_congr (fun i hi => h i (by omega)), h k (by omega)]
theorem sh_inj (h2 : 2 ≤ S) (h6 : S ≤ 6) {a b : Nat} (ha : a < nh S 5) (hb : b < nh S 5) (h : ∀ k, k < 6 → sh S a k = sh S b k) : a = b := by
  apply td_inj h2 h6 ha hb
  rw [← (okS_at h2 h6 ha).2.1, ← (okS_at h2 h6 hb).2.1]
  exact tn_congr h
theorem sz_iff (h2 : 2 ≤ S) (h6 : S ≤ 6) {h d : Nat} (hd : d ≤ 5) (hh : h < nh S 5) : sz S h ≤ d ↔ h < nh S d := (okS_at h2 h6 hh).2.2.2.2.1 d (by omega)
theorem sz_of (h2 : 2 ≤ S) (h6 : S ≤ 6) {h d : Nat} (hd : d ≤ 5) (hh : h < nh S d) : sz S h ≤ d := (sz_iff h2 h6 hd (Nat.lt_of_lt_of_le hh (nh_mono h2 h6 hd (Nat.le_refl 5)))).mpr hh
theorem sz_0 (S : Nat) : sz S 0 = 0 := by
  unfold sz td
  split <;> rfl
theorem sh_0 (S s : Nat) : sh S 0 s = 0 := by
  unfold sh td
  split <;> rfl
theorem td_0 (S : Nat) : td S 0 = 0 := by
  unfold td
  split <;> rfl
/-- one die more -/
theorem nx_ok (h2 : 2 ≤ S) (h6 : S ≤ 6) {D h s : Nat} (hD : D ≤ 5) (hh : h < nh S D) (hz : sz S h < D) (hs : s < S) : h < nx S h s ∧ nx S h s < nh S D ∧ sz S (nx S h s) = sz S h + 1 ∧ ∀ k, k < 6 → sh S (nx S h s) k = sh S h k + (if k = s then 1 else 0) := by
  have hh5 := Nat.lt_of_lt_of_le hh (nh_mono h2 h6 hD (Nat.le_refl 5))
  rcases (okS_at h2 h6 hh5).2.2.2.2.2 with q | q
  · omega
  · obtain ⟨b1, b2, b3, b4⟩ := q s hs
    exact ⟨b1, (sz_iff h2 h6 hD b2).mp (by omega), b3, b4⟩
theorem nx_comm (h2 : 2 ≤ S) (h6 : S ≤ 6) {h a b : Nat} (hh : h < nh S 5) (hz : sz S h + 1 < 5) (ha : a < S) (hb : b < S) : nx S (nx S h a) b = nx S (nx S h b) a := by
  obtain ⟨-, a2, a3, a4⟩ := nx_ok h2 h6 (Nat.le_refl 5) hh (by omega) ha
  obtain ⟨-, b2, b3, b4⟩ := nx_ok h2 h6 (Nat.le_refl 5) hh (by omega) hb
  obtain ⟨-, c2, c3, c4⟩ := nx_ok h2 h6 (Nat.le_refl 5) a2 (by omega) hb
  obtain ⟨-, d2, d3, d4⟩ := nx_ok h2 h6 (Nat.le_refl 5) b2 (by omega) ha
  apply sh_inj h2 h6 c2 d2
  intro k hk
  rw [c4 k hk, d4 k hk, a4 k hk, b4 k hk]
  omega
/-- the part of a heap -/
def pt (S g h : Nat) : Prop := ∀ k, k < 6 → sh S g k ≤ sh S h k
theorem pt_rf {g : Nat} : pt S g g := fun _ _ => Nat.le_refl _
theorem pt_tr {a b c : Nat} (h1 : pt S a b) (h2 : pt S b c) : pt S a c := fun k hk => Nat.le_trans (h1 k hk) (h2 k hk)
theorem pt_nx (h2 : 2 ≤ S) (h6 : S ≤ 6) {h s : Nat} (hh : h < nh S 5) (hz : sz S h < 5) (hs : s < S) : pt S h (nx S h s) := fun k hk => by
  rw [(nx_ok h2 h6 (Nat.le_refl 5) hh hz hs).2.2.2 k hk]
  omega
/-- a part that isn't the whole is part of the heap with some die less -/
theorem pt_down (h2 : 2 ≤ S) (h6 : S ≤ 6) {g h : Nat} (hg : g < nh S 5) (hh : h < nh S 5) (hp : pt S g h) (hne : g ≠ h) : ∃ p s, s < S ∧ p < h ∧ nx S p s = h ∧ sz S p + 1 = sz S h ∧ pt S g p := by
  have hex : ∃ s, s < 6 ∧ sh S g s < sh S h s := by
    apply Classical.byContradiction
    intro hno
    apply hne
    apply sh_inj h2 h6 hg hh
    intro k hk
    have := hp k hk
    rcases Nat.lt_or_ge (sh S g k) (sh S h k) with q | q
    · exact absurd ⟨k, hk, q⟩ hno
    · omega
  obtain ⟨s, hs, hlt⟩ := hex
  have hsS : s < S := by
    rcases (okS_at h2 h6 hh).2.2.2.1 s hs with q | q
    · exact q
    · omega
  rcases (okP_at h2 h6 hh).2.2.1 s hs with q | ⟨q1, q2⟩
  · omega
  · have hp5 : pv S h s < nh S 5 := by omega
    have hz5 : sz S (pv S h s) < 5 := by
      rcases Nat.lt_or_ge (sz S (pv S h s)) 5 with z | z
      · exact z
      · rcases (okP_at h2 h6 hp5).2.1 with r | r
        · omega
        · have := r s hs
          omega
    obtain ⟨-, -, c3, c4⟩ := nx_ok h2 h6 (Nat.le_refl 5) hp5 hz5 hsS
    rw [q2] at c3 c4
    refine ⟨pv S h s, s, hsS, q1, q2, c3.symm, fun k hk => ?_⟩
    have e := c4 k hk
    have := hp k hk
    by_cases hks : k = s
    · subst hks
      simp at e
      omega
    · simp [hks] at e
      omega
end TF
end
section
/-! the worth of a turn, in whole numbers -/
def smF (f : Nat → Nat) : Nat → Nat
  | 0 => 0
  | n + 1 => smF f n + f n
def mxF (f : Nat → Nat) : Nat → Nat
  | 0 => 0
  | n + 1 => max (mxF f n) (f n)
def ptb (S g h : Nat) : Bool := al (fun k => decide (sh S g k ≤ sh S h k)) 6
theorem al_of {p : Nat → Bool} : ∀ {n : Nat}, (∀ i, i < n → p i = true) → al p n = true
  | 0, _ => rfl
  | n + 1, h => by
    unfold al
    rw [h n (by omega), al_of (fun i hi => h i (by omega))]
    rfl
theorem ptb_iff {S g h : Nat} : ptb S g h = true ↔ pt S g h := by
  constructor
  · intro q k hk
    have := al_spec q k hk
    simpa using this
  · intro q
    exact al_of (fun k hk => by simpa using q k hk)
def thF (S : Nat) (val : Nat → Nat) : Nat → Nat → Nat
  | 0, h => val h
  | k + 1, h => smF (fun s => thF S val k (nx S h s)) S
def th (D S : Nat) (val : Nat → Nat) (h : Nat) : Nat := thF S val (D - sz S h) h
def hv (D S : Nat) (val : Nat → Nat) (g : Nat) : Nat := th D S val g * S ^ sz S g
def bst (D S : Nat) (val : Nat → Nat) (h : Nat) : Nat := mxF (fun g => if ptb S g h then hv D S val g else 0) (nh S D)
def vl (D S : Nat) (gr : Nat → Nat) : Nat → Nat → Nat
  | 0, h => gr h
  | k + 1, h => bst D S (vl D S gr k) h
def bf (D S T : Nat) (gr : Nat → Nat) : Nat := th D S (vl D S gr (T - 1)) 0
theorem smF_congr {f g : Nat → Nat} : ∀ {n : Nat}, (∀ i, i < n → f i = g i) → smF f n = smF g n
  | 0, _ => rfl
  | n + 1, h => by
    unfold smF
    rw [smF_congr (fun i hi => h i (by omega)), h n (by omega)]
theorem smF_le {f : Nat → Nat} {M : Nat} : ∀ {n : Nat}, (∀ i, i < n → f i ≤ M) → smF f n ≤ n * M
  | 0, _ => by simp [smF]
  | n + 1, h => by
    have h1 := smF_le (f := f) (M := M) (n := n) (fun i hi => h i (by omega))
    have h2 := h n (by omega)
    unfold smF
    rw [Nat.succ_mul]
    omega
theorem smF_const {f : Nat → Nat} {M : Nat} : ∀ {n : Nat}, (∀ i, i < n → f i = M) → smF f n = n * M
  | 0, _ => by simp [smF]
  | n + 1, h => by
    have h1 := smF_const (f := f) (M := M) (n := n) (fun i hi => h i (by omega))
    have h2 := h n (by omega)
    unfold smF
    rw [Nat.succ_mul]
    omega
theorem smF_part {f : Nat → Nat} {n i : Nat} (h : i < n) : smF f i + f i ≤ smF f n := by
  induction n with
  | zero => exact absurd h (Nat.not_lt_zero i)
  | succ n ih =>
    rw [show smF f (n + 1) = smF f n + f n from rfl]
    rcases Nat.lt_or_ge i n with q | q
    · have := ih q
      omega
    · have e : i = n := by omega
      subst e
      exact Nat.le_refl _
theorem mxF_congr {f g : Nat → Nat} : ∀ {n : Nat}, (∀ i, i < n → f i = g i) → mxF f n = mxF g n
  | 0, _ => rfl
  | n + 1, h => by
    unfold mxF
    rw [mxF_congr (fun i hi => h i (by omega)), h n (by omega)]
theorem mxF_le {f : Nat → Nat} {M : Nat} : ∀ {n : Nat}, (∀ i, i < n → f i ≤ M) → mxF f n ≤ M
  | 0, _ => Nat.zero_le _
  | n + 1, h => by
    have h1 := mxF_le (f := f) (M := M) (n := n) (fun i hi => h i (by omega))
    have h2 := h n (by omega)
    unfold mxF
    omega
theorem mxF_ge {f : Nat → Nat} : ∀ {n i : Nat}, i < n → f i ≤ mxF f n
  | 0, i, h => absurd h (Nat.not_lt_zero i)
  | n + 1, i, h => by
    unfold mxF
    rcases Nat.lt_or_ge i n with q | q
    · have := mxF_ge (f := f) q
      omega
    · have e : i = n := by omega
      subst e
      omega
theorem th_whole {D S h : Nat} {val : Nat → Nat} (hz : sz S h = D) : th D S val h = val h := by
  unfold th
  rw [hz, Nat.sub_self]
  rfl
section PU
variable {S D : Nat} {val : Nat → Nat}
theorem th_step (h2 : 2 ≤ S) (h6 : S ≤ 6) (hD : D ≤ 5) {h : Nat} (hh : h < nh S D) (hz : sz S h < D) : th D S val h = smF (fun s => th D S val (nx S h s)) S := by
  unfold th
  obtain ⟨k, hk⟩ : ∃ k, D - sz S h = k + 1 := ⟨D - sz S h - 1, by omega⟩
  rw [hk]
  apply smF_congr
  intro s hs
  have := (nx_ok h2 h6 hD hh hz hs).2.2.1
  rw [this, show D - (sz S h + 1) = k by omega]
/-- along the heaps, from the whole ones down -/
theorem hd_ind (h2 : 2 ≤ S) (h6 : S ≤ 6) (hD : D ≤ 5) {P : Nat → Prop} (hw : ∀ h, h < nh S D → sz S h = D → P h) (hs : ∀ h, h < nh S D → sz S h < D → (∀ s, s < S → P (nx S h s)) → P h) : ∀ h, h < nh S D → P h := by
  have key : ∀ k h, h < nh S D → D - sz S h = k → P h := by
    intro k
    induction k with
    | zero => intro h hh hk; exact hw h hh (by have := sz_of h2 h6 hD hh; omega)
    | succ k ih =>
      intro h hh hk
      refine hs h hh (by omega) (fun s hs' => ?_)
      obtain ⟨-, b2, b3, -⟩ := nx_ok h2 h6 hD hh (by omega) hs'
      exact ih _ b2 (by omega)
  exact fun h hh => key _ h hh rfl
theorem th_congr (h2 : 2 ≤ S) (h6 : S ≤ 6) (hD : D ≤ 5) {v w : Nat → Nat} (hvw : ∀ h, h < nh S D → sz S h = D → v h = w h) : ∀ h, h < nh S D → th D S v h = th D S w h := by
  refine hd_ind h2 h6 hD (fun h hh hz => ?_) (fun h hh hz ih => ?_)
  · rw [th_whole hz, th_whole hz, hvw h hh hz]
  · rw [th_step h2 h6 hD hh hz, th_step h2 h6 hD hh hz]
    exact smF_congr (fun s hs => ih s hs)
theorem th_le (h2 : 2 ≤ S) (h6 : S ≤ 6) (hD : D ≤ 5) {M : Nat} (hM : ∀ h, h < nh S D → sz S h = D → val h ≤ M) : ∀ h, h < nh S D → th D S val h ≤ M * S ^ (D - sz S h) := by
  refine hd_ind h2 h6 hD (fun h hh hz => ?_) (fun h hh hz ih => ?_)
  · rw [th_whole hz, hz, Nat.sub_self, Nat.pow_zero, Nat.mul_one]
    exact hM h hh hz
  · rw [th_step h2 h6 hD hh hz]
    have h1 : ∀ s, s < S → th D S val (nx S h s) ≤ M * S ^ (D - sz S h - 1) := fun s hs => by
      have := ih s hs
      rw [(nx_ok h2 h6 hD hh hz hs).2.2.1] at this
      exact this
    have h3 := smF_le h1
    have e : M * S ^ (D - sz S h) = S * (M * S ^ (D - sz S h - 1)) := by
      conv => lhs; rw [show D - sz S h = D - sz S h - 1 + 1 by omega, Nat.pow_succ]
      rw [Nat.mul_comm (S ^ _) S, ← Nat.mul_assoc, Nat.mul_comm M S, Nat.mul_assoc]
    omega
theorem th_const (h2 : 2 ≤ S) (h6 : S ≤ 6) (hD : D ≤ 5) {M : Nat} (hM : ∀ h, h < nh S D → sz S h = D → val h = M) : ∀ h, h < nh S D → th D S val h = M * S ^ (D - sz S h) := by
  refine hd_ind h2 h6 hD (fun h hh hz => ?_) (fun h hh hz ih => ?_)
  · rw [th_whole hz, hz, Nat.sub_self, Nat.pow_zero, Nat.mul_one]
    exact hM h hh hz
  · rw [th_step h2 h6 hD hh hz]
    have h1 : ∀ s, s < S → th D S val (nx S h s) = M * S ^ (D - sz S h - 1) := fun s hs => by
      have := ih s hs
      rw [(nx_ok h2 h6 hD hh hz hs).2.2.1] at this
      exact this
    have h3 := smF_const h1
    have e : M * S ^ (D - sz S h) = S * (M * S ^ (D - sz S h - 1)) := by
      conv => lhs; rw [show D - sz S h = D - sz S h - 1 + 1 by omega, Nat.pow_succ]
      rw [Nat.mul_comm (S ^ _) S, ← Nat.mul_assoc, Nat.mul_comm M S, Nat.mul_assoc]
    omega
theorem pow_split {g : Nat} (hz : sz S g ≤ D) : S ^ (D - sz S g) * S ^ sz S g = S ^ D := by
  rw [← Nat.pow_add]
  congr 1
  omega
theorem hv_le (h2 : 2 ≤ S) (h6 : S ≤ 6) (hD : D ≤ 5) {M : Nat} (hM : ∀ h, h < nh S D → sz S h = D → val h ≤ M) {g : Nat} (hg : g < nh S D) : hv D S val g ≤ M * S ^ D := by
  unfold hv
  have h1 := th_le h2 h6 hD hM g hg
  have h3 := Nat.mul_le_mul_right (S ^ sz S g) h1
  rw [Nat.mul_assoc, pow_split (sz_of h2 h6 hD hg)] at h3
  exact h3
theorem hv_const (h2 : 2 ≤ S) (h6 : S ≤ 6) (hD : D ≤ 5) {M : Nat} (hM : ∀ h, h < nh S D → sz S h = D → val h = M) {g : Nat} (hg : g < nh S D) : hv D S val g = M * S ^ D := by
  unfold hv
  rw [th_const h2 h6 hD hM g hg, Nat.mul_assoc, pow_split (sz_of h2 h6 hD hg)]
theorem hv_congr (h2 : 2 ≤ S) (h6 : S ≤ 6) (hD : D ≤ 5) {v w : Nat → Nat} (hvw : ∀ h, h < nh S D → sz S h = D → v h = w h) {g : Nat} (hg : g < nh S D) : hv D S v g = hv D S w g := by
  unfold hv
  rw [th_congr h2 h6 hD hvw g hg]
theorem bst_congr (h2 : 2 ≤ S) (h6 : S ≤ 6) (hD : D ≤ 5) {v w : Nat → Nat} (hvw : ∀ h, h < nh S D → sz S h = D → v h = w h) (h : Nat) : bst D S v h = bst D S w h := by
  unfold bst
  apply mxF_congr
  intro g hg
  rw [hv_congr h2 h6 hD hvw hg]
theorem bst_le (h2 : 2 ≤ S) (h6 : S ≤ 6) (hD : D ≤ 5) {M : Nat} (hM : ∀ h, h < nh S D → sz S h = D → val h ≤ M) (h : Nat) : bst D S val h ≤ M * S ^ D := by
  unfold bst
  apply mxF_le
  intro g hg
  split
  · exact hv_le h2 h6 hD hM hg
  · exact Nat.zero_le _
theorem bst_const (h2 : 2 ≤ S) (h6 : S ≤ 6) (hD : D ≤ 5) {M : Nat} (hM : ∀ h, h < nh S D → sz S h = D → val h = M) {h : Nat} (hh : h < nh S D) : bst D S val h = M * S ^ D := by
  apply Nat.le_antisymm
  · exact bst_le h2 h6 hD (fun h hh hz => Nat.le_of_eq (hM h hh hz)) h
  · have := mxF_ge (f := fun g => if ptb S g h then hv D S val g else 0) hh
    simp only [ptb_iff.mpr (pt_rf (S := S) (g := h)), if_true] at this
    rw [hv_const h2 h6 hD hM hh] at this
    exact this
theorem vl_le (h2 : 2 ≤ S) (h6 : S ≤ 6) (hD : D ≤ 5) {gr : Nat → Nat} {M : Nat} (hM : ∀ h, h < nh S D → sz S h = D → gr h ≤ M) : ∀ k h, h < nh S D → sz S h = D → vl D S gr k h ≤ M * (S ^ D) ^ k
  | 0, h, hh, hz => by rw [Nat.pow_zero, Nat.mul_one]; exact hM h hh hz
  | k + 1, h, hh, hz => by
    rw [Nat.pow_succ, ← Nat.mul_assoc]
    exact bst_le h2 h6 hD (vl_le h2 h6 hD hM k) h
theorem vl_const (h2 : 2 ≤ S) (h6 : S ≤ 6) (hD : D ≤ 5) {gr : Nat → Nat} {M : Nat} (hM : ∀ h, h < nh S D → sz S h = D → gr h = M) : ∀ k h, h < nh S D → sz S h = D → vl D S gr k h = M * (S ^ D) ^ k
  | 0, h, hh, hz => by rw [Nat.pow_zero, Nat.mul_one]; exact hM h hh hz
  | k + 1, h, hh, hz => by
    rw [Nat.pow_succ, ← Nat.mul_assoc]
    exact bst_const h2 h6 hD (vl_const h2 h6 hD hM k) hh
theorem vl_congr (h2 : 2 ≤ S) (h6 : S ≤ 6) (hD : D ≤ 5) {g1 g2 : Nat → Nat} (hg : ∀ h, h < nh S D → sz S h = D → g1 h = g2 h) : ∀ k h, h < nh S D → sz S h = D → vl D S g1 k h = vl D S g2 k h
  | 0, h, hh, hz => hg h hh hz
  | k + 1, h, _, _ => bst_congr h2 h6 hD (vl_congr h2 h6 hD hg k) h
end PU
end
section
section GN
variable {y : MethodName} {cc : ByteArray} {nL : Nat} {ret : Option FieldType} {R : Room} {sc : SC} {Q : Option Value → AH → Nat → Prop} {cu su pc : Nat} {vs st : List Value} {hp : AH} {n : Nat}
theorem ofInt_nI (z : Nat) : Int32.ofInt (z : Int) = nI z := by
  apply Int32.toBitVec_inj.mp
  simp [nI]

theorem g_iaddN {pc' : Nat} {a b : Nat} (hd : decode cc pc = .ok (.iadd, 1))  (k : G y cc nL ret R sc Q cu su pc' vs (.int (nI (a + b)) :: st) hp n) (e : pc + 1 = pc' := by rfl) : G y cc nL ret R sc Q cu su pc vs (.int (nI b) :: .int (nI a) :: st) hp n := g_iadd hd (by rw [nI_add]; exact k) e

theorem g_imulN {pc' : Nat} {a b : Nat} (hd : decode cc pc = .ok (.imul, 1))  (k : G y cc nL ret R sc Q cu su pc' vs (.int (nI (a * b)) :: st) hp n) (e : pc + 1 = pc' := by rfl) : G y cc nL ret R sc Q cu su pc vs (.int (nI b) :: .int (nI a) :: st) hp n := g_imul hd (by rw [pk_mul]; exact k) e

theorem g_isubN {pc' : Nat} {a b : Nat} (hd : decode cc pc = .ok (.isub, 1)) (h : b ≤ a) (k : G y cc nL ret R sc Q cu su pc' vs (.int (nI (a - b)) :: st) hp n) (e : pc + 1 = pc' := by rfl) : G y cc nL ret R sc Q cu su pc vs (.int (nI b) :: .int (nI a) :: st) hp n := g_isub hd (by rw [pk_sub h]; exact k) e

theorem g_idivN {pc' : Nat} {a b : Nat} (hd : decode cc pc = .ok (.idiv, 1)) (ha : a < 2 ^ 31) (h0 : 0 < b) (hb : b < 2 ^ 31) (k : G y cc nL ret R sc Q cu su pc' vs (.int (nI (a / b)) :: st) hp n) (e : pc + 1 = pc' := by rfl) : G y cc nL ret R sc Q cu su pc vs (.int (nI b) :: .int (nI a) :: st) hp n := g_idiv hd (nI_ne0 h0 hb) (by rw [pk_div ha h0 hb]; exact k) e

theorem g_iremN {pc' : Nat} {a b : Nat} (hd : decode cc pc = .ok (.irem, 1)) (ha : a < 2 ^ 31) (h0 : 0 < b) (hb : b < 2 ^ 31) (k : G y cc nL ret R sc Q cu su pc' vs (.int (nI (a % b)) :: st) hp n) (e : pc + 1 = pc' := by rfl) : G y cc nL ret R sc Q cu su pc vs (.int (nI b) :: .int (nI a) :: st) hp n := g_irem hd (nI_ne0 h0 hb) (by rw [pk_rem ha h0 hb]; exact k) e

theorem g_laddN {pc' : Nat} {a b : Nat} (hd : decode cc pc = .ok (.ladd, 1))  (k : G y cc nL ret R sc Q cu su pc' vs (.long (lN (a + b)) :: st) hp n) (e : pc + 1 = pc' := by rfl) : G y cc nL ret R sc Q cu su pc vs (.long (lN b) :: .long (lN a) :: st) hp n := g_ladd hd (by rw [lN_add]; exact k) e

theorem g_lmulN {pc' : Nat} {a b : Nat} (hd : decode cc pc = .ok (.lmul, 1))  (k : G y cc nL ret R sc Q cu su pc' vs (.long (lN (a * b)) :: st) hp n) (e : pc + 1 = pc' := by rfl) : G y cc nL ret R sc Q cu su pc vs (.long (lN b) :: .long (lN a) :: st) hp n := g_lmul hd (by rw [lN_mul]; exact k) e

theorem g_i2lN {pc' : Nat} {a : Nat} (hd : decode cc pc = .ok (.i2l, 1)) (h : a < 2 ^ 31) (k : G y cc nL ret R sc Q cu su pc' vs (.long (lN a) :: st) hp n) (e : pc + 1 = pc' := by rfl) : G y cc nL ret R sc Q cu su pc vs (.int (nI a) :: st) hp n := g_i2l hd (by rw [nI_l h]; exact k) e

theorem g_iincN {pc' : Nat} {i a z : Nat} {z' : Int} (hd : decode cc pc = .ok (.iinc i z', 3)) (hz : z' = (z : Int)) (hv : vs[i]? = some (.int (nI a))) (hn : i < nL) (k : G y cc nL ret R sc Q cu su pc' (st1 vs i (.int (nI (a + z)))) st hp n) (e : pc + 3 = pc' := by rfl) : G y cc nL ret R sc Q cu su pc vs st hp n := g_iinc hd hv (by rw [hz, ofInt_nI, nI_add]) hn k e
theorem g_idecN {pc' : Nat} {i a : Nat} {z' : Int} (hd : decode cc pc = .ok (.iinc i z', 3)) (hz : z' = -1) (hv : vs[i]? = some (.int (nI a))) (h : 1 ≤ a) (hn : i < nL) (k : G y cc nL ret R sc Q cu su pc' (st1 vs i (.int (nI (a - 1)))) st hp n) (e : pc + 3 = pc' := by rfl) : G y cc nL ret R sc Q cu su pc vs st hp n := g_iinc hd hv (by
    obtain ⟨b, rfl⟩ : ∃ b, a = b + 1 := ⟨a - 1, by omega⟩
    rw [hz, show Int32.ofInt (-1) = (-1 : Int32) from by decide, pk_m1]; rfl) hn k e

theorem g_icmp_eqN {a b : Nat} {off : Int} {tgt pc' : Nat} (hd : decode cc pc = .ok (.if_icmp .eq off, 3)) (ht : (pc : Int) + off = (tgt : Int)) (ha : a < 2 ^ 31) (hb : b < 2 ^ 31) (kt : a = b → G y cc nL ret R sc Q cu su tgt vs st hp n) (kf : ¬ a = b → G y cc nL ret R sc Q cu su pc' vs st hp n) (e : pc + 3 = pc' := by rfl) : G y cc nL ret R sc Q cu su pc vs (.int (nI b) :: .int (nI a) :: st) hp n := g_icmp_eq hd ht (fun h => kt ((nI_eq ha hb).mp h)) (fun h => kf (fun q => h ((nI_eq ha hb).mpr q))) e

theorem g_icmp_neN {a b : Nat} {off : Int} {tgt pc' : Nat} (hd : decode cc pc = .ok (.if_icmp .ne off, 3)) (ht : (pc : Int) + off = (tgt : Int)) (ha : a < 2 ^ 31) (hb : b < 2 ^ 31) (kt : ¬ a = b → G y cc nL ret R sc Q cu su tgt vs st hp n) (kf : a = b → G y cc nL ret R sc Q cu su pc' vs st hp n) (e : pc + 3 = pc' := by rfl) : G y cc nL ret R sc Q cu su pc vs (.int (nI b) :: .int (nI a) :: st) hp n := g_icmp_ne hd ht (fun h => kt (fun q => h ((nI_eq ha hb).mpr q))) (fun h => kf ((nI_eq ha hb).mp h)) e

theorem g_icmp_ltN {a b : Nat} {off : Int} {tgt pc' : Nat} (hd : decode cc pc = .ok (.if_icmp .lt off, 3)) (ht : (pc : Int) + off = (tgt : Int)) (ha : a < 2 ^ 31) (hb : b < 2 ^ 31) (kt : a < b → G y cc nL ret R sc Q cu su tgt vs st hp n) (kf : b ≤ a → G y cc nL ret R sc Q cu su pc' vs st hp n) (e : pc + 3 = pc' := by rfl) : G y cc nL ret R sc Q cu su pc vs (.int (nI b) :: .int (nI a) :: st) hp n := g_icmp_lt hd ht (fun h => kt ((nI_ltI ha hb).mp h)) (fun h => kf (Nat.not_lt.mp (fun q => h ((nI_ltI ha hb).mpr q)))) e

theorem g_icmp_geN {a b : Nat} {off : Int} {tgt pc' : Nat} (hd : decode cc pc = .ok (.if_icmp .ge off, 3)) (ht : (pc : Int) + off = (tgt : Int)) (ha : a < 2 ^ 31) (hb : b < 2 ^ 31) (kt : b ≤ a → G y cc nL ret R sc Q cu su tgt vs st hp n) (kf : a < b → G y cc nL ret R sc Q cu su pc' vs st hp n) (e : pc + 3 = pc' := by rfl) : G y cc nL ret R sc Q cu su pc vs (.int (nI b) :: .int (nI a) :: st) hp n := g_icmp_ge hd ht (fun h => kt ((nI_leI hb ha).mp h)) (fun h => kf (Nat.not_le.mp (fun q => h ((nI_leI hb ha).mpr q)))) e

theorem g_icmp_gtN {a b : Nat} {off : Int} {tgt pc' : Nat} (hd : decode cc pc = .ok (.if_icmp .gt off, 3)) (ht : (pc : Int) + off = (tgt : Int)) (ha : a < 2 ^ 31) (hb : b < 2 ^ 31) (kt : b < a → G y cc nL ret R sc Q cu su tgt vs st hp n) (kf : a ≤ b → G y cc nL ret R sc Q cu su pc' vs st hp n) (e : pc + 3 = pc' := by rfl) : G y cc nL ret R sc Q cu su pc vs (.int (nI b) :: .int (nI a) :: st) hp n := g_icmp_gt hd ht (fun h => kt ((nI_ltI hb ha).mp h)) (fun h => kf (Nat.not_lt.mp (fun q => h ((nI_ltI hb ha).mpr q)))) e

theorem g_icmp_leN {a b : Nat} {off : Int} {tgt pc' : Nat} (hd : decode cc pc = .ok (.if_icmp .le off, 3)) (ht : (pc : Int) + off = (tgt : Int)) (ha : a < 2 ^ 31) (hb : b < 2 ^ 31) (kt : a ≤ b → G y cc nL ret R sc Q cu su tgt vs st hp n) (kf : b < a → G y cc nL ret R sc Q cu su pc' vs st hp n) (e : pc + 3 = pc' := by rfl) : G y cc nL ret R sc Q cu su pc vs (.int (nI b) :: .int (nI a) :: st) hp n := g_icmp_le hd ht (fun h => kt ((nI_leI ha hb).mp h)) (fun h => kf (Nat.not_le.mp (fun q => h ((nI_leI ha hb).mpr q)))) e

theorem nI_z {a : Nat} (h : a < 2 ^ 31) : nI a = 0 ↔ a = 0 := by rw [← nI_0, nI_eq h (by decide)]
theorem nI_p {a : Nat} (h : a < 2 ^ 31) : (0 : Int32) < nI a ↔ 0 < a := by rw [← nI_0, nI_ltI (by decide) h]
theorem nI_np {a : Nat} (h : a < 2 ^ 31) : nI a ≤ 0 ↔ a = 0 := by rw [← nI_0, nI_leI h (by decide)]; omega

theorem g_if_eqN {a : Nat} {off : Int} {tgt pc' : Nat} (hd : decode cc pc = .ok (.ifCond .eq off, 3)) (ht : (pc : Int) + off = (tgt : Int)) (ha : a < 2 ^ 31) (kt : a = 0 → G y cc nL ret R sc Q cu su tgt vs st hp n) (kf : ¬ a = 0 → G y cc nL ret R sc Q cu su pc' vs st hp n) (e : pc + 3 = pc' := by rfl) : G y cc nL ret R sc Q cu su pc vs (.int (nI a) :: st) hp n := g_if_eq hd ht (fun h => kt ((nI_z ha).mp h)) (fun h => kf (fun q => h ((nI_z ha).mpr q))) e

theorem g_if_neN {a : Nat} {off : Int} {tgt pc' : Nat} (hd : decode cc pc = .ok (.ifCond .ne off, 3)) (ht : (pc : Int) + off = (tgt : Int)) (ha : a < 2 ^ 31) (kt : ¬ a = 0 → G y cc nL ret R sc Q cu su tgt vs st hp n) (kf : a = 0 → G y cc nL ret R sc Q cu su pc' vs st hp n) (e : pc + 3 = pc' := by rfl) : G y cc nL ret R sc Q cu su pc vs (.int (nI a) :: st) hp n := g_if_ne hd ht (fun h => kt (fun q => h ((nI_z ha).mpr q))) (fun h => kf ((nI_z ha).mp h)) e

theorem g_if_gtN {a : Nat} {off : Int} {tgt pc' : Nat} (hd : decode cc pc = .ok (.ifCond .gt off, 3)) (ht : (pc : Int) + off = (tgt : Int)) (ha : a < 2 ^ 31) (kt : 0 < a → G y cc nL ret R sc Q cu su tgt vs st hp n) (kf : a = 0 → G y cc nL ret R sc Q cu su pc' vs st hp n) (e : pc + 3 = pc' := by rfl) : G y cc nL ret R sc Q cu su pc vs (.int (nI a) :: st) hp n := g_if_gt hd ht (fun h => kt ((nI_p ha).mp h)) (fun h => kf ((Nat.eq_zero_or_pos a).elim id (fun q => absurd ((nI_p ha).mpr q) h))) e

theorem g_if_leN {a : Nat} {off : Int} {tgt pc' : Nat} (hd : decode cc pc = .ok (.ifCond .le off, 3)) (ht : (pc : Int) + off = (tgt : Int)) (ha : a < 2 ^ 31) (kt : a = 0 → G y cc nL ret R sc Q cu su tgt vs st hp n) (kf : 0 < a → G y cc nL ret R sc Q cu su pc' vs st hp n) (e : pc + 3 = pc' := by rfl) : G y cc nL ret R sc Q cu su pc vs (.int (nI a) :: st) hp n := g_if_le hd ht (fun h => kt ((nI_np ha).mp h)) (fun h => kf ((Nat.eq_zero_or_pos a).elim (fun q => absurd ((nI_np ha).mpr q) h) id)) e

theorem g_if_geN {a : Nat} {off : Int} {tgt pc' : Nat} (hd : decode cc pc = .ok (.ifCond .ge off, 3)) (ht : (pc : Int) + off = (tgt : Int)) (ha : a < 2 ^ 31) (kt : True → G y cc nL ret R sc Q cu su tgt vs st hp n) (kf : False → G y cc nL ret R sc Q cu su pc' vs st hp n) (e : pc + 3 = pc' := by rfl) : G y cc nL ret R sc Q cu su pc vs (.int (nI a) :: st) hp n := g_if_ge hd ht (fun _ => kt trivial) (fun h => kf (h (nI_pos' ha))) e
theorem g_if_ltN {a : Nat} {off : Int} {tgt pc' : Nat} (hd : decode cc pc = .ok (.ifCond .lt off, 3)) (ht : (pc : Int) + off = (tgt : Int)) (ha : a < 2 ^ 31) (kt : False → G y cc nL ret R sc Q cu su tgt vs st hp n) (kf : True → G y cc nL ret R sc Q cu su pc' vs st hp n) (e : pc + 3 = pc' := by rfl) : G y cc nL ret R sc Q cu su pc vs (.int (nI a) :: st) hp n := g_if_lt hd ht (fun h => kt (nI_pos ha h)) (fun _ => kf trivial) e

end GN
end
section
/-! calls of methods that make no cell: the contract's end is the caller's way on -/
section GX
variable {y : MethodName} {cc : ByteArray} {nL : Nat} {ret : Option FieldType} {R : Room} {sc : SC} {Q : Option Value → AH → Nat → Prop} {cu su pc : Nat} {vs st : List Value} {hp : AH} {n : Nat}
abbrev rmD (d : Nat) : Room := { frames := d, cells := 0, slots := 0, locals := 60 * d }
theorem CR0 {R : Room} {d nL' cu su : Nat} (h1 : d + 1 ≤ R.frames) (h2 : 19 + nL' + 60 * d ≤ R.locals) (h3 : cu ≤ R.cells) (h4 : su ≤ R.slots) : CR R (rmD d) nL' cu su := ⟨⟨h1, by show 8 + (nL' + 11) + 60 * d ≤ R.locals; omega⟩, h3, h4⟩
theorem gc_V {y' : MethodName} {cc' : ByteArray} {nL' idx na ci d : Nat} {ret' : Option FieldType} {fs : List Value} {qc : vw_C} (pc' a : Nat) (As st : List Value) (hcw : CW y.cls idx y' cc' nL' ret' na) (hin : Cond.instanceMethod y' ∈ gt) (hsel : Cond.selects y'.cls y' y' ∈ gt) (hd : decode cc pc = .ok (.invokevirtual idx, 3)) (h1 : d + 1 ≤ R.frames) (h2 : 19 + nL' + 60 * d ≤ R.locals) (h3 : cu ≤ R.cells) (h4 : su ≤ R.slots) (hcat : (st.map fun v => v.category).sum ≤ 8) (hna : As.length = na) (hen : (enA (.ref a :: As)).length ≤ nL') (ha : a < n) (he : hp a = ob ci fs) (hq : vwCl[ci]? = some qc) (hqc : qc.1 = y'.cls)
    (hct : CT y' cc' nL' ret' (rmD d) (.ref a :: As) hp n (fun v hp' n' => n' = n ∧ G y cc nL ret R sc Q cu su pc' vs (v.toList ++ st) hp' n')) (e : pc + 3 = pc' := by rfl) : G y cc nL ret R sc Q cu su pc vs (As.reverse ++ .ref a :: st) hp n :=
  ga_V hcw hin hsel hct (CR0 h1 h2 h3 h4) hcat hna hen hd ha he hq hqc (fun _ _ _ q => Or.inl q.1) (fun _ _ _ q _ => q.2) e
theorem gc_S {y' : MethodName} {cc' : ByteArray} {nL' idx na d : Nat} {ret' : Option FieldType} (pc' : Nat) (As st : List Value) (hcw : CW y.cls idx y' cc' nL' ret' na) (hst : Cond.static y' ∈ gt) (hd : decode cc pc = .ok (.invokestatic idx, 3)) (h1 : d + 1 ≤ R.frames) (h2 : 19 + nL' + 60 * d ≤ R.locals) (h3 : cu ≤ R.cells) (h4 : su ≤ R.slots) (hcat : (st.map fun v => v.category).sum ≤ 8) (hna : As.length = na) (hen : (enA As).length ≤ nL')
    (hct : CT y' cc' nL' ret' (rmD d) As hp n (fun v hp' n' => n' = n ∧ G y cc nL ret R sc Q cu su pc' vs (v.toList ++ st) hp' n')) (e : pc + 3 = pc' := by rfl) : G y cc nL ret R sc Q cu su pc vs (As.reverse ++ st) hp n :=
  ga_S hcw hst hct (CR0 h1 h2 h3 h4) hcat hna hen hd (fun _ _ _ q => Or.inl q.1) (fun _ _ _ q _ => q.2) e
theorem g_mmax {pc' idx : Nat} {x z : Int32} (hw : Cond.methodLink y.cls idx Lib.Math.max.name ∈ gt) (hd : decode cc pc = .ok (.invokestatic idx, 3)) (hf : 1 ≤ R.frames) (hl : (st.map fun v => v.category).sum + 13 ≤ R.locals) (hc : cu ≤ R.cells) (hs : su ≤ R.slots) (k : G y cc nL ret R sc Q cu su pc' vs (.int (if x < z then z else x) :: st) hp n) (e : pc + 3 = pc' := by rfl) : G y cc nL ret R sc Q cu su pc vs (.int z :: .int x :: st) hp n := by
  subst e
  intro p l e s m args below meth c D dA A tF b Z ad H locs ls C X L ex
  have ht := C.2.2.2.2.2.1
  exact va_mmax C.1 C.2.1 (C.2.2.2.1.trans L.1.symm) C.2.2.2.2.1 (ht _ hw) (ht _ w_mx1) (ht _ w_mth) (ht _ w_mx2) hf (by rw [sum_cat]; exact hl) hc hs hd (k p l e s m args below meth c D dA A tF b Z ad H locs ls C X L ex)

theorem g_mmin {pc' idx : Nat} {x z : Int32} (hw : Cond.methodLink y.cls idx Lib.Math.min.name ∈ gt) (hd : decode cc pc = .ok (.invokestatic idx, 3)) (hf : 1 ≤ R.frames) (hl : (st.map fun v => v.category).sum + 13 ≤ R.locals) (hc : cu ≤ R.cells) (hs : su ≤ R.slots) (k : G y cc nL ret R sc Q cu su pc' vs (.int (if z < x then z else x) :: st) hp n) (e : pc + 3 = pc' := by rfl) : G y cc nL ret R sc Q cu su pc vs (.int z :: .int x :: st) hp n := by
  subst e
  intro p l e s m args below meth c D dA A tF b Z ad H locs ls C X L ex
  have ht := C.2.2.2.2.2.1
  exact va_mmin C.1 C.2.1 (C.2.2.2.1.trans L.1.symm) C.2.2.2.2.1 (ht _ hw) (ht _ w_mi1) (ht _ w_mth) (ht _ w_mi2) hf (by rw [sum_cat]; exact hl) hc hs hd (k p l e s m args below meth c D dA A tF b Z ad H locs ls C X L ex)

theorem g_lmax {pc' idx : Nat} {x z : Int64} (hw : Cond.methodLink y.cls idx Lib.MathLoose.max_long.x ∈ gt) (hd : decode cc pc = .ok (.invokestatic idx, 3)) (hf : 1 ≤ R.frames) (hl : (st.map fun v => v.category).sum + 15 ≤ R.locals) (hc : cu ≤ R.cells) (hs : su ≤ R.slots) (k : G y cc nL ret R sc Q cu su pc' vs (.long (if z < x then x else z) :: st) hp n) (e : pc + 3 = pc' := by rfl) : G y cc nL ret R sc Q cu su pc vs (.long z :: .long x :: st) hp n := by
  subst e
  intro p l e s m args below meth c D dA A tF b Z ad H locs ls C X L ex
  have ht := C.2.2.2.2.2.1
  intro T hT XT
  obtain ⟨vm', X', stp⟩ := va_max_longV XT C.1 C.2.2.2.2.1 (ht _ hw) (ht _ w_ml1) (ht _ w_mth) (ht _ w_ml2) (g := F0 m pc ls ((.long z :: .long x :: st).map (trV ad))) rfl (L.1.trans C.2.2.2.1.symm) (a := x) (b := z) (rest := st.map (trV ad)) rfl (by rw [C.2.1]; exact hd) hf (by show 2 * 0 + _ + 15 ≤ _; rw [sum_cat]; omega) hc hs
  obtain ⟨t, a1, b1⟩ := k p l e s m args below meth c D dA A tF b Z ad H locs ls C X L ex (T.setVm vm') hT X'
  exact ⟨t, stp t a1, b1⟩
theorem g_mmaxN {pc' idx a b : Nat} (hw : Cond.methodLink y.cls idx Lib.Math.max.name ∈ gt) (hd : decode cc pc = .ok (.invokestatic idx, 3)) (hf : 1 ≤ R.frames) (hl : (st.map fun v => v.category).sum + 13 ≤ R.locals) (hc : cu ≤ R.cells) (hs : su ≤ R.slots) (ha : a < 2 ^ 31) (hb : b < 2 ^ 31) (k : G y cc nL ret R sc Q cu su pc' vs (.int (nI (max a b)) :: st) hp n) (e : pc + 3 = pc' := by rfl) : G y cc nL ret R sc Q cu su pc vs (.int (nI b) :: .int (nI a) :: st) hp n := by
  refine g_mmax hw hd hf hl hc hs ?_ e
  have h : (if nI a < nI b then nI b else nI a) = nI (max a b) := by
    by_cases q : a < b
    · rw [if_pos ((nI_ltI ha hb).mpr q)]; congr 1; omega
    · rw [if_neg (fun z => q ((nI_ltI ha hb).mp z))]; congr 1; omega
  rw [h]; exact k
theorem g_mminN {pc' idx a b : Nat} (hw : Cond.methodLink y.cls idx Lib.Math.min.name ∈ gt) (hd : decode cc pc = .ok (.invokestatic idx, 3)) (hf : 1 ≤ R.frames) (hl : (st.map fun v => v.category).sum + 13 ≤ R.locals) (hc : cu ≤ R.cells) (hs : su ≤ R.slots) (ha : a < 2 ^ 31) (hb : b < 2 ^ 31) (k : G y cc nL ret R sc Q cu su pc' vs (.int (nI (min a b)) :: st) hp n) (e : pc + 3 = pc' := by rfl) : G y cc nL ret R sc Q cu su pc vs (.int (nI b) :: .int (nI a) :: st) hp n := by
  refine g_mmin hw hd hf hl hc hs ?_ e
  have h : (if nI b < nI a then nI b else nI a) = nI (min a b) := by
    by_cases q : b < a
    · rw [if_pos ((nI_ltI hb ha).mpr q)]; congr 1; omega
    · rw [if_neg (fun z => q ((nI_ltI hb ha).mp z))]; congr 1; omega
  rw [h]; exact k
theorem g_lmaxN {pc' idx a b : Nat} (hw : Cond.methodLink y.cls idx Lib.MathLoose.max_long.x ∈ gt) (hd : decode cc pc = .ok (.invokestatic idx, 3)) (hf : 1 ≤ R.frames) (hl : (st.map fun v => v.category).sum + 15 ≤ R.locals) (hc : cu ≤ R.cells) (hs : su ≤ R.slots) (ha : a < 2 ^ 63) (hb : b < 2 ^ 63) (k : G y cc nL ret R sc Q cu su pc' vs (.long (lN (max a b)) :: st) hp n) (e : pc + 3 = pc' := by rfl) : G y cc nL ret R sc Q cu su pc vs (.long (lN b) :: .long (lN a) :: st) hp n := by
  refine g_lmax hw hd hf hl hc hs ?_ e
  have h : (if lN b < lN a then lN a else lN b) = lN (max a b) := by
    by_cases q : b < a
    · rw [if_pos ((pk_lLT hb ha).mpr q)]; congr 1; omega
    · rw [if_neg (fun z => q ((pk_lLT hb ha).mp z))]; congr 1; omega
  rw [h]; exact k
theorem g_ialdV {pc' : Nat} {a N j : Nat} {f : Nat → Int32} {i : Int32} {x : Int32} (hd : decode cc pc = .ok (.iaload, 1)) (ha : a < n) (he : hp a = aI N f) (hi : IX i j N) (hx : f j = x) (k : G y cc nL ret R sc Q cu su pc' vs (.int x :: st) hp n) (e : pc + 1 = pc' := by rfl) : G y cc nL ret R sc Q cu su pc vs (.int i :: .ref a :: st) hp n := g_iald hd ha he hi (hx ▸ k) e
theorem g_laldV {pc' : Nat} {a N j : Nat} {f : Nat → Int64} {i : Int32} {x : Int64} (hd : decode cc pc = .ok (.laload, 1)) (ha : a < n) (he : hp a = aJ N f) (hi : IX i j N) (hx : f j = x) (k : G y cc nL ret R sc Q cu su pc' vs (.long x :: st) hp n) (e : pc + 1 = pc' := by rfl) : G y cc nL ret R sc Q cu su pc vs (.int i :: .ref a :: st) hp n := g_lald hd ha he hi (hx ▸ k) e
theorem g_zaldV {pc' : Nat} {a N j : Nat} {f : Nat → Int32} {i : Int32} {x : Int32} (hd : decode cc pc = .ok (.baload, 1)) (ha : a < n) (he : hp a = aZ N f) (hi : IX i j N) (hx : f j = x) (k : G y cc nL ret R sc Q cu su pc' vs (.int x :: st) hp n) (e : pc + 1 = pc' := by rfl) : G y cc nL ret R sc Q cu su pc vs (.int i :: .ref a :: st) hp n := g_zald hd ha he hi (hx ▸ k) e
/-- one more place under va_up -/
theorem up_up (f : AH) (k : Nat) (v w : AE) : va_up (va_up f k v) k w = va_up f k w := bx_uu f k v w
theorem up_id {f : AH} {k : Nat} {v : AE} (h : f k = v) : va_up f k v = f := by
  funext j
  unfold va_up
  by_cases e : j = k
  · subst e; simp [h]
  · simp [e]
theorem up_comm (f : AH) {k j : Nat} (h : k ≠ j) (v w : AE) : va_up (va_up f k v) j w = va_up (va_up f j w) k v := by
  funext i
  unfold va_up
  by_cases e : i = j
  · subst e; simp [Ne.symm h]
  · simp [e]
end GX
/-! numbers -/
theorem sm32 : ∀ r, r < 32 → ((nI r &&& 31).toBitVec.smod 32).toNat = r := by decide +kernel
theorem sh_r {s r : Nat} (hs : s < 2 ^ 31) (hr : r < 32) : nI s >>> (nI r &&& 31) = nI (s / 2 ^ r) := pk_shrN hs _ r (sm32 r hr)
theorem sh_l {s r : Nat} (hr : r < 32) (h : s * 2 ^ r < 2 ^ 32) : nI s <<< (nI r &&& 31) = nI (s * 2 ^ r) := pk_shlN _ r (sm32 r hr) h
theorem an_1 (s : Nat) (h : s < 2 ^ 32) : nI s &&& nI 1 = nI (s % 2) := pk_andN h 1 (by decide)
theorem or_n (a b : Nat) : nI a ||| nI b = nI (a ||| b) := by
  apply Int32.toBitVec_inj.mp
  simp [nI]
/-- the bit r of s -/
def bt0 (s r : Nat) : Bool := s / 2 ^ r % 2 == 0
theorem sh_b {s r : Nat} (hs : s < 2 ^ 31) (hr : r < 32) : nI s >>> (nI r &&& 31) &&& nI 1 = nI (s / 2 ^ r % 2) := by
  rw [sh_r hs hr, an_1 _ (Nat.lt_of_le_of_lt (Nat.div_le_self _ _) (Nat.lt_trans hs (by decide)))]
end
section
/-! the reference: open, power -/
def opn (s : Nat) : Nat → Nat
  | 0 => 0
  | r + 1 => opn s r + (if bt0 s r then 1 else 0)
theorem opn_le (s : Nat) : ∀ r, opn s r ≤ r
  | 0 => Nat.le_refl 0
  | r + 1 => by
    have := opn_le s r
    unfold opn
    split <;> omega
theorem c_open {hp : AH} {n R s : Nat} {fs : List Value} {Q : Option Value → AH → Nat → Prop} (hn : 64 ≤ n) (c47 : hp 47 = ob 8 fs) (f3 : fs[3]? = some (.int (nI R))) (hR : R ≤ 8) (hs : s < 256) (hq : Q (some (.int (nI (opn s R)))) hp n) : CT yX8_open cX8_open 4 (some .int) (rmD 0) [.ref 47, .int (nI s)] hp n Q := by
  show G yX8_open cX8_open 4 (some .int) (rmD 0) none Q 0 0 0 [.ref 47, .int (nI s), uu, uu] [] hp n
  refine g_iconst (pc' := 1) (v := nI 0) dX8_open_0 (by decide) ?_
  refine g_istore_n (pc' := 2) dX8_open_1 rfl (by decide) ?_
  refine g_iconst (pc' := 3) (v := nI 0) dX8_open_2 (by decide) ?_
  refine g_istore_n (pc' := 4) dX8_open_3 rfl (by decide) ?_
  have loop : ∀ k i, i + k = R → G yX8_open cX8_open 4 (some .int) (rmD 0) none Q 0 0 4 [.ref 47, .int (nI s), .int (nI (opn s i)), .int (nI i)] [] hp n := by
    intro k
    induction k with
    | zero =>
      intro i hi
      have hi' : i = R := by omega
      subst hi'
      refine g_iload_n (pc' := 5) dX8_open_4 rfl rfl ?_
      refine g_aload_n (pc' := 6) dX8_open_5 rfl rfl ?_
      refine g_get (pc' := 9) fl_X8_86 dX8_open_6 (by omega) (by first | assumption | exact va_up_self _ _ _ | exact (va_up_ne _ _ (by decide)).trans (by assumption) | exact (va_up_ne _ _ (by decide)).trans (va_up_self _ _ _) | exact (va_up_ne _ _ (by decide)).trans ((va_up_ne _ _ (by decide)).trans (by assumption)) | exact (va_up_ne _ _ (by decide)).trans ((va_up_ne _ _ (by decide)).trans (va_up_self _ _ _)) | exact (va_up_ne _ _ (by decide)).trans ((va_up_ne _ _ (by decide)).trans ((va_up_ne _ _ (by decide)).trans (by assumption))) | exact (va_up_ne _ _ (by decide)).trans ((va_up_ne _ _ (by decide)).trans ((va_up_ne _ _ (by decide)).trans ((va_up_ne _ _ (by decide)).trans (by assumption))))) (by first | assumption | rfl | exact (List.getElem?_set_ne (by decide)).trans (by assumption) | exact List.getElem?_set_self (by omega)) ?_
      refine g_icmp_geN (tgt := 34) (pc' := 12) dX8_open_9 (by decide) (by omega) (by omega) (fun hb => ?_) (fun hb => ?_)
      · refine g_iload_n (pc' := 35) dX8_open_34 rfl rfl ?_
        exact g_iret dX8_open_35 rfl (Nat.le_refl _) (Nat.le_refl _) hq
      · omega
    | succ k ih =>
      intro i hi
      refine g_iload_n (pc' := 5) dX8_open_4 rfl rfl ?_
      refine g_aload_n (pc' := 6) dX8_open_5 rfl rfl ?_
      refine g_get (pc' := 9) fl_X8_86 dX8_open_6 (by omega) (by first | assumption | exact va_up_self _ _ _ | exact (va_up_ne _ _ (by decide)).trans (by assumption) | exact (va_up_ne _ _ (by decide)).trans (va_up_self _ _ _) | exact (va_up_ne _ _ (by decide)).trans ((va_up_ne _ _ (by decide)).trans (by assumption)) | exact (va_up_ne _ _ (by decide)).trans ((va_up_ne _ _ (by decide)).trans (va_up_self _ _ _)) | exact (va_up_ne _ _ (by decide)).trans ((va_up_ne _ _ (by decide)).trans ((va_up_ne _ _ (by decide)).trans (by assumption))) | exact (va_up_ne _ _ (by decide)).trans ((va_up_ne _ _ (by decide)).trans ((va_up_ne _ _ (by decide)).trans ((va_up_ne _ _ (by decide)).trans (by assumption))))) (by first | assumption | rfl | exact (List.getElem?_set_ne (by decide)).trans (by assumption) | exact List.getElem?_set_self (by omega)) ?_
      refine g_icmp_geN (tgt := 34) (pc' := 12) dX8_open_9 (by decide) (by omega) (by omega) (fun hb => ?_) (fun hb => ?_)
      · omega
      · have h1 := opn_le s i
        refine g_iload_n (pc' := 13) dX8_open_12 rfl rfl ?_
        refine g_iload_n (pc' := 14) dX8_open_13 rfl rfl ?_
        refine g_iload_n (pc' := 15) dX8_open_14 rfl rfl ?_
        refine g_ishr (pc' := 16) dX8_open_15 ?_
        refine g_iconst (pc' := 17) (v := nI 1) dX8_open_16 (by decide) ?_
        refine g_iand (pc' := 18) dX8_open_17 ?_
        rw [sh_b (by omega) (by omega)]
        refine g_if_neN (tgt := 25) (pc' := 21) dX8_open_18 (by decide) (by omega) (fun hc => ?_) (fun hc => ?_)
        · refine g_iconst (pc' := 26) (v := nI 0) dX8_open_25 (by decide) ?_
          first | refine g_iaddN (pc' := 27) dX8_open_26 ?_ | refine g_iadd (pc' := 27) dX8_open_26 ?_
          refine g_istore_n (pc' := 28) dX8_open_27 rfl (by decide) ?_
          first | refine g_iincN (z := 1) (pc' := 31) dX8_open_28 rfl rfl (by decide) ?_ | refine g_iinc (pc' := 31) dX8_open_28 rfl rfl (by decide) ?_
          refine g_goto (tgt := 4) dX8_open_31 (by decide) ?_
          have e : opn s (i + 1) = opn s i + 0 := by simp [opn, bt0, hc]
          exact e ▸ ih (i + 1) (by omega)
        · refine g_iconst (pc' := 22) (v := nI 1) dX8_open_21 (by decide) ?_
          refine g_goto (tgt := 26) dX8_open_22 (by decide) ?_
          first | refine g_iaddN (pc' := 27) dX8_open_26 ?_ | refine g_iadd (pc' := 27) dX8_open_26 ?_
          refine g_istore_n (pc' := 28) dX8_open_27 rfl (by decide) ?_
          first | refine g_iincN (z := 1) (pc' := 31) dX8_open_28 rfl rfl (by decide) ?_ | refine g_iinc (pc' := 31) dX8_open_28 rfl rfl (by decide) ?_
          refine g_goto (tgt := 4) dX8_open_31 (by decide) ?_
          have e : opn s (i + 1) = opn s i + 1 := by simp [opn, bt0, hc]
          exact e ▸ ih (i + 1) (by omega)
  exact loop R 0 (by omega)
theorem c_power {hp : AH} {n b k fm : Nat} {Q : Option Value → AH → Nat → Prop} (hk : k < 2 ^ 31) (hq : Q (some (.long (lN (b ^ k)))) hp n) : CT yX8_power cX8_power 7 (some .long) (rmD 0) [.ref fm, .long (lN b), .int (nI k)] hp n Q := by
  show G yX8_power cX8_power 7 (some .long) (rmD 0) none Q 0 0 0 [.ref fm, .long (lN b), uu, .int (nI k), uu, uu, uu] [] hp n
  refine g_lconst (pc' := 1) (v := lN 1) dX8_power_0 (by decide) ?_
  refine g_lstore (pc' := 3) dX8_power_1 (by decide) ?_
  refine g_iconst (pc' := 4) (v := nI 0) dX8_power_3 (by decide) ?_
  refine g_istore (pc' := 6) dX8_power_4 (by decide) ?_
  have loop : ∀ j i, i + j = k → G yX8_power cX8_power 7 (some .long) (rmD 0) none Q 0 0 6 [.ref fm, .long (lN b), uu, .int (nI k), .long (lN (b ^ i)), uu, .int (nI i)] [] hp n := by
    intro j
    induction j with
    | zero =>
      intro i hi
      have hi' : i = k := by omega
      subst hi'
      refine g_iload (pc' := 8) dX8_power_6 rfl ?_
      refine g_iload_n (pc' := 9) dX8_power_8 rfl rfl ?_
      refine g_icmp_geN (tgt := 24) (pc' := 12) dX8_power_9 (by decide) (by omega) (by omega) (fun hb => ?_) (fun hb => ?_)
      · refine g_lload (pc' := 26) dX8_power_24 rfl ?_
        exact g_lret dX8_power_26 rfl (Nat.le_refl _) (Nat.le_refl _) hq
      · omega
    | succ j ih =>
      intro i hi
      refine g_iload (pc' := 8) dX8_power_6 rfl ?_
      refine g_iload_n (pc' := 9) dX8_power_8 rfl rfl ?_
      refine g_icmp_geN (tgt := 24) (pc' := 12) dX8_power_9 (by decide) (by omega) (by omega) (fun hb => ?_) (fun hb => ?_)
      · omega
      · refine g_lload (pc' := 14) dX8_power_12 rfl ?_
        refine g_lload_n (pc' := 15) dX8_power_14 rfl rfl ?_
        first | refine g_lmulN (pc' := 16) dX8_power_15 ?_ | refine g_lmul (pc' := 16) dX8_power_15 ?_
        refine g_lstore (pc' := 18) dX8_power_16 (by decide) ?_
        first | refine g_iincN (z := 1) (pc' := 21) dX8_power_18 rfl rfl (by decide) ?_ | refine g_iinc (pc' := 21) dX8_power_18 rfl rfl (by decide) ?_
        refine g_goto (tgt := 6) dX8_power_21 (by decide) ?_
        exact (Nat.pow_succ b i) ▸ ih (i + 1) (by omega)
  exact loop k 0 (by omega)
end
section
def bI (b : Bool) : Nat := if b then 1 else 0
theorem bI_le (b : Bool) : bI b ≤ 1 := by cases b <;> decide
theorem cf_le (k : Nat) : ∀ f v, cf k f v ≤ f
  | 0, _ => Nat.le_refl 0
  | f + 1, v => by
    unfold cf
    have := cf_le k f (v / 10)
    split
    · omega
    · split <;> omega
theorem fg_le : ∀ f v, fg f v ≤ f
  | 0, _ => Nat.le_refl 0
  | f + 1, v => by
    unfold fg
    have := fg_le f (v / 10)
    split <;> omega
theorem sh_le (S h s : Nat) : sh S h s ≤ 5 := cf_le _ _ _
theorem sz_le (S h : Nat) : sz S h ≤ 5 := fg_le _ _
theorem al_false {p : Nat → Bool} {i : Nat} (h : al p i = false) : ∀ k, al p (i + k) = false
  | 0 => h
  | k + 1 => by
    show (p (i + k) && al p (i + k)) = false
    rw [al_false h k, Bool.and_false]
/-- the reference's own cell: what never changes in a game, and where its rows lie -/
def MF (fs : List Value) (D S T R : Nat) : Prop := fs.length = 32 ∧ fs[0]? = some (.int (nI D)) ∧ fs[1]? = some (.int (nI S)) ∧ fs[2]? = some (.int (nI T)) ∧ fs[3]? = some (.int (nI R)) ∧ fs[4]? = some (.ref 48) ∧ fs[5]? = some (.ref 49) ∧ fs[6]? = some (.ref 50) ∧ fs[9]? = some (.ref 51) ∧ fs[10]? = some (.ref 52) ∧ fs[11]? = some (.ref 53) ∧ fs[12]? = some (.ref 54) ∧ fs[13]? = some (.ref 55) ∧ fs[16]? = some (.ref 56) ∧ fs[24]? = some (.ref 57) ∧ fs[25]? = some (.ref 58) ∧ fs[26]? = some (.ref 59) ∧ fs[27]? = some (.ref 60) ∧ fs[28]? = some (.ref 61) ∧ fs[29]? = some (.ref 62) ∧ fs[30]? = some (.ref 63)
theorem c_in {hp : AH} {n : Nat} {v a b : Int32} {Q : Option Value → AH → Nat → Prop} (hq : Q (some (.int (nI (bI (decide (a ≤ v) && decide (v ≤ b)))))) hp n) : CT yX8_in cX8_in 3 (some .boolean) (rmD 0) [.int v, .int a, .int b] hp n Q := by
  show G yX8_in cX8_in 3 (some .boolean) (rmD 0) none Q 0 0 0 [.int v, .int a, .int b] [] hp n
  refine g_iload_n (pc' := 1) dX8_in_0 rfl rfl ?_
  refine g_iload_n (pc' := 2) dX8_in_1 rfl rfl ?_
  refine g_icmp_lt (tgt := 14) (pc' := 5) dX8_in_2 (by decide) (fun h1 => ?_) (fun h1 => ?_)
  · refine g_iconst (pc' := 15) (v := nI 0) dX8_in_14 (by decide) ?_
    have e : (decide (a ≤ v) && decide (v ≤ b)) = false := by
      rw [decide_eq_false (by intro h; exact absurd h1 (by rw [Int32.not_lt]; exact h)), Bool.false_and]
    rw [e] at hq
    exact g_zret dX8_in_15 rfl (by decide) (Nat.le_refl _) (Nat.le_refl _) hq
  · have h1' : a ≤ v := Int32.not_lt.mp h1
    refine g_iload_n (pc' := 6) dX8_in_5 rfl rfl ?_
    refine g_iload_n (pc' := 7) dX8_in_6 rfl rfl ?_
    refine g_icmp_gt (tgt := 14) (pc' := 10) dX8_in_7 (by decide) (fun h2 => ?_) (fun h2 => ?_)
    · refine g_iconst (pc' := 15) (v := nI 0) dX8_in_14 (by decide) ?_
      have e : (decide (a ≤ v) && decide (v ≤ b)) = false := by
        rw [decide_eq_false (p := v ≤ b) (by intro h; exact absurd h2 (by rw [Int32.not_lt]; exact h)), Bool.and_false]
      rw [e] at hq
      exact g_zret dX8_in_15 rfl (by decide) (Nat.le_refl _) (Nat.le_refl _) hq
    · have h2' : v ≤ b := Int32.not_lt.mp h2
      refine g_iconst (pc' := 11) (v := nI 1) dX8_in_10 (by decide) ?_
      refine g_goto (tgt := 15) dX8_in_11 (by decide) ?_
      rw [decide_eq_true h1', decide_eq_true h2'] at hq
      exact g_zret dX8_in_15 rfl (by decide) (Nat.le_refl _) (Nat.le_refl _) hq
theorem nar_b (b : Bool) : narrow .boolean (.int (nI (bI b))) = .int (nI (bI b)) := by cases b <;> decide
theorem c_isPart {hp : AH} {n D S T R g h : Nat} {fs : List Value} {fsh : Nat → Int32} {Q : Option Value → AH → Nat → Prop} (hn : 64 ≤ n) (c47 : hp 47 = ob 8 fs) (F : MF fs D S T R) (c51 : hp 51 = aI 2772 fsh) (hg : g < 462) (hh : h < 462) (hsg : ∀ k, k < 6 → fsh (6 * g + k) = nI (sh S g k)) (hsh : ∀ k, k < 6 → fsh (6 * h + k) = nI (sh S h k)) (hq : Q (some (.int (nI (bI (ptb S g h))))) hp n) : CT yX8_isPart cX8_isPart 5 (some .boolean) (rmD 0) [.ref 47, .int (nI g), .int (nI h)] hp n Q := by
  obtain ⟨f99, f0, f1, f2, f3, f4, f5, f6, f9, f10, f11, f12, f13, f16, f24, f25, f26, f27, f28, f29, f30⟩ := F
  show G yX8_isPart cX8_isPart 5 (some .boolean) (rmD 0) none Q 0 0 0 [.ref 47, .int (nI g), .int (nI h), uu, uu] [] hp n
  refine g_iconst (pc' := 1) (v := nI 1) dX8_isPart_0 (by decide) ?_
  refine g_istore_n (pc' := 2) dX8_isPart_1 rfl (by decide) ?_
  refine g_iconst (pc' := 3) (v := nI 0) dX8_isPart_2 (by decide) ?_
  refine g_istore (pc' := 5) dX8_isPart_3 (by decide) ?_
  have loop : ∀ k i, i + k = 6 → G yX8_isPart cX8_isPart 5 (some .boolean) (rmD 0) none Q 0 0 5 [.ref 47, .int (nI g), .int (nI h), .int (nI (bI (al (fun k => decide (sh S g k ≤ sh S h k)) i))), .int (nI i)] [] hp n := by
    intro k
    induction k with
    | zero =>
      intro i hi
      have hi' : i = 6 := by omega
      subst hi'
      refine g_iload (pc' := 7) dX8_isPart_5 rfl ?_
      refine g_bipush (pc' := 9) (v := nI 6) dX8_isPart_7 (by decide) ?_
      refine g_icmp_geN (tgt := 55) (pc' := 12) dX8_isPart_9 (by decide) (by omega) (by omega) (fun hb => ?_) (fun hb => ?_)
      · refine g_iload_n (pc' := 56) dX8_isPart_55 rfl rfl ?_
        exact g_zret dX8_isPart_56 rfl (nar_b _) (Nat.le_refl _) (Nat.le_refl _) hq
      · omega
    | succ k ih =>
      intro i hi
      refine g_iload (pc' := 7) dX8_isPart_5 rfl ?_
      refine g_bipush (pc' := 9) (v := nI 6) dX8_isPart_7 (by decide) ?_
      refine g_icmp_geN (tgt := 55) (pc' := 12) dX8_isPart_9 (by decide) (by omega) (by omega) (fun hb => ?_) (fun hb => ?_)
      · omega
      · have hbl := bI_le (al (fun k => decide (sh S g k ≤ sh S h k)) i)
        refine g_iload_n (pc' := 13) dX8_isPart_12 rfl rfl ?_
        refine g_if_eqN (tgt := 55) (pc' := 16) dX8_isPart_13 (by decide) (by omega) (fun hc => ?_) (fun hc => ?_)
        · refine g_iload_n (pc' := 56) dX8_isPart_55 rfl rfl ?_
          have e0 : al (fun k => decide (sh S g k ≤ sh S h k)) i = false := by
            cases hx : al (fun k => decide (sh S g k ≤ sh S h k)) i with
            | false => rfl
            | true => rw [hx] at hc; exact absurd hc (by decide)
          have e1 : ptb S g h = false := by
            have := al_false e0 (k + 1)
            rw [hi] at this
            exact this
          rw [e0]
          rw [e1] at hq
          exact g_zret dX8_isPart_56 rfl (nar_b _) (Nat.le_refl _) (Nat.le_refl _) hq
        · have e0 : al (fun k => decide (sh S g k ≤ sh S h k)) i = true := by
            cases hx : al (fun k => decide (sh S g k ≤ sh S h k)) i with
            | true => rfl
            | false => rw [hx] at hc; exact absurd rfl hc
          have s1 := sh_le S g i
          have s2 := sh_le S h i
          refine g_aload_n (pc' := 17) dX8_isPart_16 rfl rfl ?_
          refine g_get (pc' := 20) fl_X8_29 dX8_isPart_17 (by omega) (by first | assumption | exact va_up_self _ _ _ | exact (va_up_ne _ _ (by decide)).trans (by assumption) | exact (va_up_ne _ _ (by decide)).trans (va_up_self _ _ _) | exact (va_up_ne _ _ (by decide)).trans ((va_up_ne _ _ (by decide)).trans (by assumption)) | exact (va_up_ne _ _ (by decide)).trans ((va_up_ne _ _ (by decide)).trans (va_up_self _ _ _)) | exact (va_up_ne _ _ (by decide)).trans ((va_up_ne _ _ (by decide)).trans ((va_up_ne _ _ (by decide)).trans (by assumption))) | exact (va_up_ne _ _ (by decide)).trans ((va_up_ne _ _ (by decide)).trans ((va_up_ne _ _ (by decide)).trans ((va_up_ne _ _ (by decide)).trans (by assumption))))) (by first | assumption | rfl | exact (List.getElem?_set_ne (by decide)).trans (by assumption) | exact List.getElem?_set_self (by omega)) ?_
          refine g_bipush (pc' := 22) (v := nI 6) dX8_isPart_20 (by decide) ?_
          refine g_iload_n (pc' := 23) dX8_isPart_22 rfl rfl ?_
          first | refine g_imulN (pc' := 24) dX8_isPart_23 ?_ | refine g_imul (pc' := 24) dX8_isPart_23 ?_
          refine g_iload (pc' := 26) dX8_isPart_24 rfl ?_
          first | refine g_iaddN (pc' := 27) dX8_isPart_26 ?_ | refine g_iadd (pc' := 27) dX8_isPart_26 ?_
          refine g_ialdV (pc' := 28) dX8_isPart_27 (by omega) (by first | assumption | exact va_up_self _ _ _ | exact (va_up_ne _ _ (by decide)).trans (by assumption) | exact (va_up_ne _ _ (by decide)).trans (va_up_self _ _ _) | exact (va_up_ne _ _ (by decide)).trans ((va_up_ne _ _ (by decide)).trans (by assumption)) | exact (va_up_ne _ _ (by decide)).trans ((va_up_ne _ _ (by decide)).trans (va_up_self _ _ _)) | exact (va_up_ne _ _ (by decide)).trans ((va_up_ne _ _ (by decide)).trans ((va_up_ne _ _ (by decide)).trans (by assumption))) | exact (va_up_ne _ _ (by decide)).trans ((va_up_ne _ _ (by decide)).trans ((va_up_ne _ _ (by decide)).trans ((va_up_ne _ _ (by decide)).trans (by assumption))))) ((IX_nI (by omega) (by omega))) (hsg _ (by omega)) ?_
          refine g_aload_n (pc' := 29) dX8_isPart_28 rfl rfl ?_
          refine g_get (pc' := 32) fl_X8_29 dX8_isPart_29 (by omega) (by first | assumption | exact va_up_self _ _ _ | exact (va_up_ne _ _ (by decide)).trans (by assumption) | exact (va_up_ne _ _ (by decide)).trans (va_up_self _ _ _) | exact (va_up_ne _ _ (by decide)).trans ((va_up_ne _ _ (by decide)).trans (by assumption)) | exact (va_up_ne _ _ (by decide)).trans ((va_up_ne _ _ (by decide)).trans (va_up_self _ _ _)) | exact (va_up_ne _ _ (by decide)).trans ((va_up_ne _ _ (by decide)).trans ((va_up_ne _ _ (by decide)).trans (by assumption))) | exact (va_up_ne _ _ (by decide)).trans ((va_up_ne _ _ (by decide)).trans ((va_up_ne _ _ (by decide)).trans ((va_up_ne _ _ (by decide)).trans (by assumption))))) (by first | assumption | rfl | exact (List.getElem?_set_ne (by decide)).trans (by assumption) | exact List.getElem?_set_self (by omega)) ?_
          refine g_bipush (pc' := 34) (v := nI 6) dX8_isPart_32 (by decide) ?_
          refine g_iload_n (pc' := 35) dX8_isPart_34 rfl rfl ?_
          first | refine g_imulN (pc' := 36) dX8_isPart_35 ?_ | refine g_imul (pc' := 36) dX8_isPart_35 ?_
          refine g_iload (pc' := 38) dX8_isPart_36 rfl ?_
          first | refine g_iaddN (pc' := 39) dX8_isPart_38 ?_ | refine g_iadd (pc' := 39) dX8_isPart_38 ?_
          refine g_ialdV (pc' := 40) dX8_isPart_39 (by omega) (by first | assumption | exact va_up_self _ _ _ | exact (va_up_ne _ _ (by decide)).trans (by assumption) | exact (va_up_ne _ _ (by decide)).trans (va_up_self _ _ _) | exact (va_up_ne _ _ (by decide)).trans ((va_up_ne _ _ (by decide)).trans (by assumption)) | exact (va_up_ne _ _ (by decide)).trans ((va_up_ne _ _ (by decide)).trans (va_up_self _ _ _)) | exact (va_up_ne _ _ (by decide)).trans ((va_up_ne _ _ (by decide)).trans ((va_up_ne _ _ (by decide)).trans (by assumption))) | exact (va_up_ne _ _ (by decide)).trans ((va_up_ne _ _ (by decide)).trans ((va_up_ne _ _ (by decide)).trans ((va_up_ne _ _ (by decide)).trans (by assumption))))) ((IX_nI (by omega) (by omega))) (hsh _ (by omega)) ?_
          refine g_icmp_gtN (tgt := 47) (pc' := 43) dX8_isPart_40 (by decide) (by omega) (by omega) (fun hd => ?_) (fun hd => ?_)
          · refine g_iconst (pc' := 48) (v := nI 0) dX8_isPart_47 (by decide) ?_
            refine g_istore_n (pc' := 49) dX8_isPart_48 rfl (by decide) ?_
            first | refine g_iincN (z := 1) (pc' := 52) dX8_isPart_49 rfl rfl (by decide) ?_ | refine g_iinc (pc' := 52) dX8_isPart_49 rfl rfl (by decide) ?_
            refine g_goto (tgt := 5) dX8_isPart_52 (by decide) ?_
            have e2 : al (fun k => decide (sh S g k ≤ sh S h k)) (i + 1) = false := by
              show (decide (sh S g i ≤ sh S h i) && _) = false
              rw [decide_eq_false (by omega), Bool.false_and]
            have := ih (i + 1) (by omega)
            rw [e2] at this
            exact this
          · refine g_iconst (pc' := 44) (v := nI 1) dX8_isPart_43 (by decide) ?_
            refine g_goto (tgt := 48) dX8_isPart_44 (by decide) ?_
            refine g_istore_n (pc' := 49) dX8_isPart_48 rfl (by decide) ?_
            first | refine g_iincN (z := 1) (pc' := 52) dX8_isPart_49 rfl rfl (by decide) ?_ | refine g_iinc (pc' := 52) dX8_isPart_49 rfl rfl (by decide) ?_
            refine g_goto (tgt := 5) dX8_isPart_52 (by decide) ?_
            have e2 : al (fun k => decide (sh S g k ≤ sh S h k)) (i + 1) = true := by
              show (decide (sh S g i ≤ sh S h i) && _) = true
              rw [decide_eq_true hd, e0]
              rfl
            have := ih (i + 1) (by omega)
            rw [e2] at this
            exact this
  exact loop 6 0 (by omega)
theorem c_unitOf {hp : AH} {n D S T R k b : Nat} {fs : List Value} {Q : Option Value → AH → Nat → Prop} (hn : 64 ≤ n) (c47 : hp 47 = ob 8 fs) (F : MF fs D S T R) (hT : T ≤ 3) (hk : k ≤ 8) (f23 : fs[23]? = some (.long (lN b))) (hq : Q (some (.long (lN (b ^ (T * k))))) hp n) : CT yX8_unitOf cX8_unitOf 2 (some .long) (rmD 1) [.ref 47, .int (nI k)] hp n Q := by
  obtain ⟨f99, f0, f1, f2, f3, f4, f5, f6, f9, f10, f11, f12, f13, f16, f24, f25, f26, f27, f28, f29, f30⟩ := F
  show G yX8_unitOf cX8_unitOf 2 (some .long) (rmD 1) none Q 0 0 0 [.ref 47, .int (nI k)] [] hp n
  have hTk : T * k < 2 ^ 31 := Nat.lt_of_le_of_lt (Nat.mul_le_mul hT hk) (by decide)
  refine g_aload_n (pc' := 1) dX8_unitOf_0 rfl rfl ?_
  refine g_aload_n (pc' := 2) dX8_unitOf_1 rfl rfl ?_
  refine g_get (pc' := 5) fl_X8_89 dX8_unitOf_2 (by omega) (by first | assumption | exact va_up_self _ _ _ | exact (va_up_ne _ _ (by decide)).trans (by assumption) | exact (va_up_ne _ _ (by decide)).trans (va_up_self _ _ _) | exact (va_up_ne _ _ (by decide)).trans ((va_up_ne _ _ (by decide)).trans (by assumption)) | exact (va_up_ne _ _ (by decide)).trans ((va_up_ne _ _ (by decide)).trans (va_up_self _ _ _)) | exact (va_up_ne _ _ (by decide)).trans ((va_up_ne _ _ (by decide)).trans ((va_up_ne _ _ (by decide)).trans (by assumption))) | exact (va_up_ne _ _ (by decide)).trans ((va_up_ne _ _ (by decide)).trans ((va_up_ne _ _ (by decide)).trans ((va_up_ne _ _ (by decide)).trans (by assumption))))) (by first | assumption | rfl | exact (List.getElem?_set_ne (by decide)).trans (by assumption) | exact List.getElem?_set_self (by omega)) ?_
  refine g_aload_n (pc' := 6) dX8_unitOf_5 rfl rfl ?_
  refine g_get (pc' := 9) fl_X8_16 dX8_unitOf_6 (by omega) (by first | assumption | exact va_up_self _ _ _ | exact (va_up_ne _ _ (by decide)).trans (by assumption) | exact (va_up_ne _ _ (by decide)).trans (va_up_self _ _ _) | exact (va_up_ne _ _ (by decide)).trans ((va_up_ne _ _ (by decide)).trans (by assumption)) | exact (va_up_ne _ _ (by decide)).trans ((va_up_ne _ _ (by decide)).trans (va_up_self _ _ _)) | exact (va_up_ne _ _ (by decide)).trans ((va_up_ne _ _ (by decide)).trans ((va_up_ne _ _ (by decide)).trans (by assumption))) | exact (va_up_ne _ _ (by decide)).trans ((va_up_ne _ _ (by decide)).trans ((va_up_ne _ _ (by decide)).trans ((va_up_ne _ _ (by decide)).trans (by assumption))))) (by first | assumption | rfl | exact (List.getElem?_set_ne (by decide)).trans (by assumption) | exact List.getElem?_set_self (by omega)) ?_
  refine g_iload_n (pc' := 10) dX8_unitOf_9 rfl rfl ?_
  first | refine g_imulN (pc' := 11) dX8_unitOf_10 ?_ | refine g_imul (pc' := 11) dX8_unitOf_10 ?_
  refine gc_V 14 47 [.long (lN b), .int (nI (T * k))] [] cw_X8_93 im_X8_power se_X8_power dX8_unitOf_11 (by decide) (by decide) (Nat.le_refl _) (Nat.le_refl _) (Nat.le_of_ble_eq_true rfl) rfl (Nat.le_of_ble_eq_true rfl) (by omega) (by first | assumption | exact va_up_self _ _ _ | exact (va_up_ne _ _ (by decide)).trans (by assumption) | exact (va_up_ne _ _ (by decide)).trans (va_up_self _ _ _) | exact (va_up_ne _ _ (by decide)).trans ((va_up_ne _ _ (by decide)).trans (by assumption)) | exact (va_up_ne _ _ (by decide)).trans ((va_up_ne _ _ (by decide)).trans (va_up_self _ _ _)) | exact (va_up_ne _ _ (by decide)).trans ((va_up_ne _ _ (by decide)).trans ((va_up_ne _ _ (by decide)).trans (by assumption))) | exact (va_up_ne _ _ (by decide)).trans ((va_up_ne _ _ (by decide)).trans ((va_up_ne _ _ (by decide)).trans ((va_up_ne _ _ (by decide)).trans (by assumption))))) rfl rfl (c_power hTk ⟨rfl, ?_⟩)
  exact g_lret dX8_unitOf_14 rfl (Nat.le_refl _) (Nat.le_refl _) hq
end
section
theorem nI_m1 (a : Nat) : nI a + Int32.ofInt (-1) = nI a - 1 := by
  rw [show Int32.ofInt (-1) = (-1 : Int32) from by decide, Int32.sub_eq_add_neg]
theorem lit15 : (1000000000000000 : Int64) = lN 1000000000000000 := rfl
theorem c_isLarge {hp : AH} {n D S T R b : Nat} {fs : List Value} {Q : Option Value → AH → Nat → Prop} (hn : 64 ≤ n) (c47 : hp 47 = ob 8 fs) (F : MF fs D S T R) (hT : T ≤ 3) (hR : R ≤ 8) (hb2 : 1 ≤ b) (hb : b ≤ 7776) (f23 : fs[23]? = some (.long (lN b))) (hq : Q (some (.int (nI (bI (decide (1000000000000000 < b ^ (T * R))))))) hp n) : CT yX8_isLarge cX8_isLarge 4 (some .boolean) (rmD 0) [.ref 47] hp n Q := by
  obtain ⟨f99, f0, f1, f2, f3, f4, f5, f6, f9, f10, f11, f12, f13, f16, f24, f25, f26, f27, f28, f29, f30⟩ := F
  have hTR : T * R < 2 ^ 31 := Nat.lt_of_le_of_lt (Nat.mul_le_mul hT hR) (by decide)
  generalize hm : T * R = m at hq hTR
  show G yX8_isLarge cX8_isLarge 4 (some .boolean) (rmD 0) none Q 0 0 0 [.ref 47, uu, uu, uu] [] hp n
  refine g_lconst (pc' := 1) (v := lN 1) dX8_isLarge_0 (by decide) ?_
  refine g_lstore_n (pc' := 2) dX8_isLarge_1 rfl (by decide) ?_
  refine g_iconst (pc' := 3) (v := nI 0) dX8_isLarge_2 (by decide) ?_
  refine g_istore_n (pc' := 4) dX8_isLarge_3 rfl (by decide) ?_
  have loop : ∀ k i, i + k = m → b ^ i ≤ 1000000000000000 → G yX8_isLarge cX8_isLarge 4 (some .boolean) (rmD 0) none Q 0 0 4 [.ref 47, .long (lN (b ^ i)), uu, .int (nI i)] [] hp n := by
    intro k
    induction k with
    | zero =>
      intro i hi hbi
      have hi' : i = m := by omega
      subst hi'
      refine g_iload_n (pc' := 5) dX8_isLarge_4 rfl rfl ?_
      refine g_aload_n (pc' := 6) dX8_isLarge_5 rfl rfl ?_
      refine g_get (pc' := 9) fl_X8_16 dX8_isLarge_6 (by omega) (by first | assumption | exact va_up_self _ _ _ | exact (va_up_ne _ _ (by decide)).trans (by assumption) | exact (va_up_ne _ _ (by decide)).trans (va_up_self _ _ _) | exact (va_up_ne _ _ (by decide)).trans ((va_up_ne _ _ (by decide)).trans (by assumption)) | exact (va_up_ne _ _ (by decide)).trans ((va_up_ne _ _ (by decide)).trans (va_up_self _ _ _)) | exact (va_up_ne _ _ (by decide)).trans ((va_up_ne _ _ (by decide)).trans ((va_up_ne _ _ (by decide)).trans (by assumption))) | exact (va_up_ne _ _ (by decide)).trans ((va_up_ne _ _ (by decide)).trans ((va_up_ne _ _ (by decide)).trans ((va_up_ne _ _ (by decide)).trans (by assumption))))) (by first | assumption | rfl | exact (List.getElem?_set_ne (by decide)).trans (by assumption) | exact List.getElem?_set_self (by omega)) ?_
      refine g_aload_n (pc' := 10) dX8_isLarge_9 rfl rfl ?_
      refine g_get (pc' := 13) fl_X8_86 dX8_isLarge_10 (by omega) (by first | assumption | exact va_up_self _ _ _ | exact (va_up_ne _ _ (by decide)).trans (by assumption) | exact (va_up_ne _ _ (by decide)).trans (va_up_self _ _ _) | exact (va_up_ne _ _ (by decide)).trans ((va_up_ne _ _ (by decide)).trans (by assumption)) | exact (va_up_ne _ _ (by decide)).trans ((va_up_ne _ _ (by decide)).trans (va_up_self _ _ _)) | exact (va_up_ne _ _ (by decide)).trans ((va_up_ne _ _ (by decide)).trans ((va_up_ne _ _ (by decide)).trans (by assumption))) | exact (va_up_ne _ _ (by decide)).trans ((va_up_ne _ _ (by decide)).trans ((va_up_ne _ _ (by decide)).trans ((va_up_ne _ _ (by decide)).trans (by assumption))))) (by first | assumption | rfl | exact (List.getElem?_set_ne (by decide)).trans (by assumption) | exact List.getElem?_set_self (by omega)) ?_
      first | refine g_imulN (pc' := 14) dX8_isLarge_13 ?_ | refine g_imul (pc' := 14) dX8_isLarge_13 ?_
      rw [hm]
      refine g_icmp_geN (tgt := 40) (pc' := 17) dX8_isLarge_14 (by decide) (by omega) (by omega) (fun h1 => ?_) (fun h1 => ?_)
      · refine g_iconst (pc' := 41) (v := nI 0) dX8_isLarge_40 (by decide) ?_
        rw [decide_eq_false (by omega)] at hq
        exact g_zret dX8_isLarge_41 rfl (by decide) (Nat.le_refl _) (Nat.le_refl _) hq
      · omega
    | succ k ih =>
      intro i hi hbi
      refine g_iload_n (pc' := 5) dX8_isLarge_4 rfl rfl ?_
      refine g_aload_n (pc' := 6) dX8_isLarge_5 rfl rfl ?_
      refine g_get (pc' := 9) fl_X8_16 dX8_isLarge_6 (by omega) (by first | assumption | exact va_up_self _ _ _ | exact (va_up_ne _ _ (by decide)).trans (by assumption) | exact (va_up_ne _ _ (by decide)).trans (va_up_self _ _ _) | exact (va_up_ne _ _ (by decide)).trans ((va_up_ne _ _ (by decide)).trans (by assumption)) | exact (va_up_ne _ _ (by decide)).trans ((va_up_ne _ _ (by decide)).trans (va_up_self _ _ _)) | exact (va_up_ne _ _ (by decide)).trans ((va_up_ne _ _ (by decide)).trans ((va_up_ne _ _ (by decide)).trans (by assumption))) | exact (va_up_ne _ _ (by decide)).trans ((va_up_ne _ _ (by decide)).trans ((va_up_ne _ _ (by decide)).trans ((va_up_ne _ _ (by decide)).trans (by assumption))))) (by first | assumption | rfl | exact (List.getElem?_set_ne (by decide)).trans (by assumption) | exact List.getElem?_set_self (by omega)) ?_
      refine g_aload_n (pc' := 10) dX8_isLarge_9 rfl rfl ?_
      refine g_get (pc' := 13) fl_X8_86 dX8_isLarge_10 (by omega) (by first | assumption | exact va_up_self _ _ _ | exact (va_up_ne _ _ (by decide)).trans (by assumption) | exact (va_up_ne _ _ (by decide)).trans (va_up_self _ _ _) | exact (va_up_ne _ _ (by decide)).trans ((va_up_ne _ _ (by decide)).trans (by assumption)) | exact (va_up_ne _ _ (by decide)).trans ((va_up_ne _ _ (by decide)).trans (va_up_self _ _ _)) | exact (va_up_ne _ _ (by decide)).trans ((va_up_ne _ _ (by decide)).trans ((va_up_ne _ _ (by decide)).trans (by assumption))) | exact (va_up_ne _ _ (by decide)).trans ((va_up_ne _ _ (by decide)).trans ((va_up_ne _ _ (by decide)).trans ((va_up_ne _ _ (by decide)).trans (by assumption))))) (by first | assumption | rfl | exact (List.getElem?_set_ne (by decide)).trans (by assumption) | exact List.getElem?_set_self (by omega)) ?_
      first | refine g_imulN (pc' := 14) dX8_isLarge_13 ?_ | refine g_imul (pc' := 14) dX8_isLarge_13 ?_
      rw [hm]
      refine g_icmp_geN (tgt := 40) (pc' := 17) dX8_isLarge_14 (by decide) (by omega) (by omega) (fun h1 => ?_) (fun h1 => ?_)
      · omega
      · refine g_lload_n (pc' := 18) dX8_isLarge_17 rfl rfl ?_
        refine g_aload_n (pc' := 19) dX8_isLarge_18 rfl rfl ?_
        refine g_get (pc' := 22) fl_X8_89 dX8_isLarge_19 (by omega) (by first | assumption | exact va_up_self _ _ _ | exact (va_up_ne _ _ (by decide)).trans (by assumption) | exact (va_up_ne _ _ (by decide)).trans (va_up_self _ _ _) | exact (va_up_ne _ _ (by decide)).trans ((va_up_ne _ _ (by decide)).trans (by assumption)) | exact (va_up_ne _ _ (by decide)).trans ((va_up_ne _ _ (by decide)).trans (va_up_self _ _ _)) | exact (va_up_ne _ _ (by decide)).trans ((va_up_ne _ _ (by decide)).trans ((va_up_ne _ _ (by decide)).trans (by assumption))) | exact (va_up_ne _ _ (by decide)).trans ((va_up_ne _ _ (by decide)).trans ((va_up_ne _ _ (by decide)).trans ((va_up_ne _ _ (by decide)).trans (by assumption))))) (by first | assumption | rfl | exact (List.getElem?_set_ne (by decide)).trans (by assumption) | exact List.getElem?_set_self (by omega)) ?_
        first | refine g_lmulN (pc' := 23) dX8_isLarge_22 ?_ | refine g_lmul (pc' := 23) dX8_isLarge_22 ?_
        refine g_lstore_n (pc' := 24) dX8_isLarge_23 rfl (by decide) ?_
        refine g_lload_n (pc' := 25) dX8_isLarge_24 rfl rfl ?_
        refine g_ldc2 (pc' := 28) dX8_isLarge_25 kl_X8_97 ?_
        refine g_lcmp (pc' := 29) dX8_isLarge_28 ?_
        rw [lit15]
        have hm1 : b ^ i * b ≤ 1000000000000000 * 7776 := Nat.mul_le_mul hbi hb
        refine g_if_le (tgt := 34) (pc' := 32) dX8_isLarge_29 (by decide) (fun h3 => ?_) (fun h3 => ?_)
        · rw [lg_cmp_le, pk_lLE (by omega) (by decide)] at h3
          first | refine g_iincN (z := 1) (pc' := 37) dX8_isLarge_34 rfl rfl (by decide) ?_ | refine g_iinc (pc' := 37) dX8_isLarge_34 rfl rfl (by decide) ?_
          refine g_goto (tgt := 4) dX8_isLarge_37 (by decide) ?_
          exact ih (i + 1) (by omega) (by rw [Nat.pow_succ]; exact h3)
        · rw [lg_cmp_le, pk_lLE (by omega) (by decide)] at h3
          refine g_iconst (pc' := 33) (v := nI 1) dX8_isLarge_32 (by decide) ?_
          have hle : b ^ (i + 1) ≤ b ^ m := Nat.pow_le_pow_right hb2 (by omega)
          rw [Nat.pow_succ] at hle
          rw [decide_eq_true (by omega)] at hq
          exact g_zret dX8_isLarge_33 rfl (by decide) (Nat.le_refl _) (Nat.le_refl _) hq
  exact loop m 0 (by omega) (by simp)
theorem c_findThrown {hp : AH} {n D S T R k : Nat} {fs : List Value} {fz fm : Nat → Int32} {fv ft : Nat → Int64} {val : Nat → Nat} {Q : Option Value → AH → Nat → Prop} (hn : 64 ≤ n) (c47 : hp 47 = ob 8 fs) (F : MF fs D S T R) (h2 : 2 ≤ S) (h6 : S ≤ 6) (hD : D ≤ 5) (hk1 : 1 ≤ k) (hk3 : k ≤ 3) (f8 : fs[8]? = some (.int (nI (nh S D)))) (c52 : hp 52 = aI 462 fz) (c54 : hp 54 = aI 2772 fm) (c59 : hp 59 = aJ 1386 fv) (c60 : hp 60 = aJ 462 ft) (hz : ∀ h, h < nh S D → fz h = nI (sz S h)) (hmo : ∀ h s, h < nh S D → sz S h < D → s < S → fm (6 * h + s) = nI (nx S h s)) (hval : ∀ h, h < nh S D → sz S h = D → fv (462 * (k - 1) + h) = lN (val h))
    (hq : ∀ ft' : Nat → Int64, (∀ h, h < nh S D → ft' h = lN (th D S val h)) → Q none (va_up hp 60 (aJ 462 ft')) n) : CT yX8_findThrown cX8_findThrown 4 none (rmD 0) [.ref 47, .int (nI k)] hp n Q := by
  obtain ⟨f99, f0, f1, f2, f3, f4, f5, f6, f9, f10, f11, f12, f13, f16, f24, f25, f26, f27, f28, f29, f30⟩ := F
  obtain ⟨hN, hN1⟩ := nh_le h2 h6 hD
  show G yX8_findThrown cX8_findThrown 4 none (rmD 0) none Q 0 0 0 [.ref 47, .int (nI k), uu, uu] [] hp n
  rw [← up_id c60]
  refine g_aload_n (pc' := 1) dX8_findThrown_0 rfl rfl ?_
  refine g_get (pc' := 4) fl_X8_71 dX8_findThrown_1 (by omega) (by first | assumption | exact va_up_self _ _ _ | exact (va_up_ne _ _ (by decide)).trans (by assumption) | exact (va_up_ne _ _ (by decide)).trans (va_up_self _ _ _) | exact (va_up_ne _ _ (by decide)).trans ((va_up_ne _ _ (by decide)).trans (by assumption)) | exact (va_up_ne _ _ (by decide)).trans ((va_up_ne _ _ (by decide)).trans (va_up_self _ _ _)) | exact (va_up_ne _ _ (by decide)).trans ((va_up_ne _ _ (by decide)).trans ((va_up_ne _ _ (by decide)).trans (by assumption))) | exact (va_up_ne _ _ (by decide)).trans ((va_up_ne _ _ (by decide)).trans ((va_up_ne _ _ (by decide)).trans ((va_up_ne _ _ (by decide)).trans (by assumption))))) (by first | assumption | rfl | exact (List.getElem?_set_ne (by decide)).trans (by assumption) | exact List.getElem?_set_self (by omega)) ?_
  refine g_iconst (pc' := 5) (v := nI 1) dX8_findThrown_4 (by decide) ?_
  first | refine g_isubN (pc' := 6) dX8_findThrown_5 (by omega) ?_ | refine g_isub (pc' := 6) dX8_findThrown_5 ?_
  refine g_istore_n (pc' := 7) dX8_findThrown_6 rfl (by decide) ?_
  have loop : ∀ j ft, j ≤ nh S D → (∀ h, j ≤ h → h < nh S D → ft h = lN (th D S val h)) → ∀ w, G yX8_findThrown cX8_findThrown 4 none (rmD 0) none Q 0 0 7 [.ref 47, .int (nI k), .int (nI j - 1), w] [] (va_up hp 60 (aJ 462 ft)) n := by
    intro j
    induction j with
    | zero =>
      intro ft _ hft w
      refine g_iload_n (pc' := 8) dX8_findThrown_7 rfl rfl ?_
      refine g_if_lt (tgt := 108) (pc' := 11) dX8_findThrown_8 (by decide) (fun h1 => ?_) (fun h1 => ?_)
      · exact g_vret dX8_findThrown_108 rfl (Nat.le_refl _) (Nat.le_refl _) (hq ft (fun h hh => hft h (Nat.zero_le _) hh))
      · exact absurd (by decide) h1
    | succ h ih =>
      intro ft hj hft w
      rw [nI_pred]
      have hzl := sz_of h2 h6 hD (h := h) (by omega)
      refine g_iload_n (pc' := 8) dX8_findThrown_7 rfl rfl ?_
      refine g_if_ltN (tgt := 108) (pc' := 11) dX8_findThrown_8 (by decide) (by omega) (fun h1 => ?_) (fun h1 => ?_)
      · exact h1.elim
      · clear h1
        have inner : ∀ m s ft, s + m = S → (∀ h', h + 1 ≤ h' → h' < nh S D → ft h' = lN (th D S val h')) → (sz S h < D → ft h = lN (smF (fun s => th D S val (nx S h s)) s)) → (sz S h = D → ft h = lN (th D S val h)) → G yX8_findThrown cX8_findThrown 4 none (rmD 0) none Q 0 0 50 [.ref 47, .int (nI k), .int (nI h), .int (nI s)] [] (va_up hp 60 (aJ 462 ft)) n := by
          intro m
          induction m with
          | zero =>
            intro s ft hs hup hlo hwh
            have hs' : s = S := by omega
            subst hs'
            refine g_iload_n (pc' := 51) dX8_findThrown_50 rfl rfl ?_
            refine g_aload_n (pc' := 52) dX8_findThrown_51 rfl rfl ?_
            refine g_get (pc' := 55) fl_X8_13 dX8_findThrown_52 (by omega) (by first | assumption | exact va_up_self _ _ _ | exact (va_up_ne _ _ (by decide)).trans (by assumption) | exact (va_up_ne _ _ (by decide)).trans (va_up_self _ _ _) | exact (va_up_ne _ _ (by decide)).trans ((va_up_ne _ _ (by decide)).trans (by assumption)) | exact (va_up_ne _ _ (by decide)).trans ((va_up_ne _ _ (by decide)).trans (va_up_self _ _ _)) | exact (va_up_ne _ _ (by decide)).trans ((va_up_ne _ _ (by decide)).trans ((va_up_ne _ _ (by decide)).trans (by assumption))) | exact (va_up_ne _ _ (by decide)).trans ((va_up_ne _ _ (by decide)).trans ((va_up_ne _ _ (by decide)).trans ((va_up_ne _ _ (by decide)).trans (by assumption))))) (by first | assumption | rfl | exact (List.getElem?_set_ne (by decide)).trans (by assumption) | exact List.getElem?_set_self (by omega)) ?_
            refine g_icmp_geN (tgt := 102) (pc' := 58) dX8_findThrown_55 (by decide) (by omega) (by omega) (fun h1 => ?_) (fun h1 => ?_)
            · refine g_iinc (pc' := 105) dX8_findThrown_102 rfl (nI_m1 h) (by decide) ?_
              refine g_goto (tgt := 7) dX8_findThrown_105 (by decide) ?_
              refine ih ft (by omega) (fun h' h1 h3 => ?_) _
              rcases Nat.lt_or_ge h h' with q | q
              · exact hup h' q h3
              · have e : h' = h := by omega
                subst e
                rcases Nat.lt_or_ge (sz s h') D with z | z
                · rw [hlo z, th_step h2 h6 hD h3 z]
                · exact hwh (by omega)
            · omega
          | succ m ihm =>
            intro s ft hs hup hlo hwh
            refine g_iload_n (pc' := 51) dX8_findThrown_50 rfl rfl ?_
            refine g_aload_n (pc' := 52) dX8_findThrown_51 rfl rfl ?_
            refine g_get (pc' := 55) fl_X8_13 dX8_findThrown_52 (by omega) (by first | assumption | exact va_up_self _ _ _ | exact (va_up_ne _ _ (by decide)).trans (by assumption) | exact (va_up_ne _ _ (by decide)).trans (va_up_self _ _ _) | exact (va_up_ne _ _ (by decide)).trans ((va_up_ne _ _ (by decide)).trans (by assumption)) | exact (va_up_ne _ _ (by decide)).trans ((va_up_ne _ _ (by decide)).trans (va_up_self _ _ _)) | exact (va_up_ne _ _ (by decide)).trans ((va_up_ne _ _ (by decide)).trans ((va_up_ne _ _ (by decide)).trans (by assumption))) | exact (va_up_ne _ _ (by decide)).trans ((va_up_ne _ _ (by decide)).trans ((va_up_ne _ _ (by decide)).trans ((va_up_ne _ _ (by decide)).trans (by assumption))))) (by first | assumption | rfl | exact (List.getElem?_set_ne (by decide)).trans (by assumption) | exact List.getElem?_set_self (by omega)) ?_
            refine g_icmp_geN (tgt := 102) (pc' := 58) dX8_findThrown_55 (by decide) (by omega) (by omega) (fun h1 => ?_) (fun h1 => ?_)
            · omega
            · refine g_aload_n (pc' := 59) dX8_findThrown_58 rfl rfl ?_
              refine g_get (pc' := 62) fl_X8_32 dX8_findThrown_59 (by omega) (by first | assumption | exact va_up_self _ _ _ | exact (va_up_ne _ _ (by decide)).trans (by assumption) | exact (va_up_ne _ _ (by decide)).trans (va_up_self _ _ _) | exact (va_up_ne _ _ (by decide)).trans ((va_up_ne _ _ (by decide)).trans (by assumption)) | exact (va_up_ne _ _ (by decide)).trans ((va_up_ne _ _ (by decide)).trans (va_up_self _ _ _)) | exact (va_up_ne _ _ (by decide)).trans ((va_up_ne _ _ (by decide)).trans ((va_up_ne _ _ (by decide)).trans (by assumption))) | exact (va_up_ne _ _ (by decide)).trans ((va_up_ne _ _ (by decide)).trans ((va_up_ne _ _ (by decide)).trans ((va_up_ne _ _ (by decide)).trans (by assumption))))) (by first | assumption | rfl | exact (List.getElem?_set_ne (by decide)).trans (by assumption) | exact List.getElem?_set_self (by omega)) ?_
              refine g_iload_n (pc' := 63) dX8_findThrown_62 rfl rfl ?_
              refine g_ialdV (pc' := 64) dX8_findThrown_63 (by omega) (by first | assumption | exact va_up_self _ _ _ | exact (va_up_ne _ _ (by decide)).trans (by assumption) | exact (va_up_ne _ _ (by decide)).trans (va_up_self _ _ _) | exact (va_up_ne _ _ (by decide)).trans ((va_up_ne _ _ (by decide)).trans (by assumption)) | exact (va_up_ne _ _ (by decide)).trans ((va_up_ne _ _ (by decide)).trans (va_up_self _ _ _)) | exact (va_up_ne _ _ (by decide)).trans ((va_up_ne _ _ (by decide)).trans ((va_up_ne _ _ (by decide)).trans (by assumption))) | exact (va_up_ne _ _ (by decide)).trans ((va_up_ne _ _ (by decide)).trans ((va_up_ne _ _ (by decide)).trans ((va_up_ne _ _ (by decide)).trans (by assumption))))) ((IX_nI (by omega) (by omega))) (hz _ (by omega)) ?_
              refine g_aload_n (pc' := 65) dX8_findThrown_64 rfl rfl ?_
              refine g_get (pc' := 68) fl_X8_7 dX8_findThrown_65 (by omega) (by first | assumption | exact va_up_self _ _ _ | exact (va_up_ne _ _ (by decide)).trans (by assumption) | exact (va_up_ne _ _ (by decide)).trans (va_up_self _ _ _) | exact (va_up_ne _ _ (by decide)).trans ((va_up_ne _ _ (by decide)).trans (by assumption)) | exact (va_up_ne _ _ (by decide)).trans ((va_up_ne _ _ (by decide)).trans (va_up_self _ _ _)) | exact (va_up_ne _ _ (by decide)).trans ((va_up_ne _ _ (by decide)).trans ((va_up_ne _ _ (by decide)).trans (by assumption))) | exact (va_up_ne _ _ (by decide)).trans ((va_up_ne _ _ (by decide)).trans ((va_up_ne _ _ (by decide)).trans ((va_up_ne _ _ (by decide)).trans (by assumption))))) (by first | assumption | rfl | exact (List.getElem?_set_ne (by decide)).trans (by assumption) | exact List.getElem?_set_self (by omega)) ?_
              refine g_icmp_geN (tgt := 102) (pc' := 71) dX8_findThrown_68 (by decide) (by omega) (by omega) (fun h4 => ?_) (fun h4 => ?_)
              · refine g_iinc (pc' := 105) dX8_findThrown_102 rfl (nI_m1 h) (by decide) ?_
                refine g_goto (tgt := 7) dX8_findThrown_105 (by decide) ?_
                refine ih ft (by omega) (fun h' h1 h3 => ?_) _
                rcases Nat.lt_or_ge h h' with q | q
                · exact hup h' q h3
                · have e : h' = h := by omega
                  subst e
                  exact hwh (by omega)
              · obtain ⟨b1, b2, b3, -⟩ := nx_ok h2 h6 hD (show h < nh S D by omega) h4 (show s < S by omega)
                refine g_aload_n (pc' := 72) dX8_findThrown_71 rfl rfl ?_
                refine g_get (pc' := 75) fl_X8_57 dX8_findThrown_72 (by omega) (by first | assumption | exact va_up_self _ _ _ | exact (va_up_ne _ _ (by decide)).trans (by assumption) | exact (va_up_ne _ _ (by decide)).trans (va_up_self _ _ _) | exact (va_up_ne _ _ (by decide)).trans ((va_up_ne _ _ (by decide)).trans (by assumption)) | exact (va_up_ne _ _ (by decide)).trans ((va_up_ne _ _ (by decide)).trans (va_up_self _ _ _)) | exact (va_up_ne _ _ (by decide)).trans ((va_up_ne _ _ (by decide)).trans ((va_up_ne _ _ (by decide)).trans (by assumption))) | exact (va_up_ne _ _ (by decide)).trans ((va_up_ne _ _ (by decide)).trans ((va_up_ne _ _ (by decide)).trans ((va_up_ne _ _ (by decide)).trans (by assumption))))) (by first | assumption | rfl | exact (List.getElem?_set_ne (by decide)).trans (by assumption) | exact List.getElem?_set_self (by omega)) ?_
                refine g_iload_n (pc' := 76) dX8_findThrown_75 rfl rfl ?_
                first | refine g_dup2 (pc' := 77) dX8_findThrown_76 rfl rfl ?_ | refine g_dup2_2 (pc' := 77) dX8_findThrown_76 rfl ?_
                refine g_laldV (pc' := 78) dX8_findThrown_77 (by omega) (by first | assumption | exact va_up_self _ _ _ | exact (va_up_ne _ _ (by decide)).trans (by assumption) | exact (va_up_ne _ _ (by decide)).trans (va_up_self _ _ _) | exact (va_up_ne _ _ (by decide)).trans ((va_up_ne _ _ (by decide)).trans (by assumption)) | exact (va_up_ne _ _ (by decide)).trans ((va_up_ne _ _ (by decide)).trans (va_up_self _ _ _)) | exact (va_up_ne _ _ (by decide)).trans ((va_up_ne _ _ (by decide)).trans ((va_up_ne _ _ (by decide)).trans (by assumption))) | exact (va_up_ne _ _ (by decide)).trans ((va_up_ne _ _ (by decide)).trans ((va_up_ne _ _ (by decide)).trans ((va_up_ne _ _ (by decide)).trans (by assumption))))) ((IX_nI (by omega) (by omega))) (hlo h4) ?_
                refine g_aload_n (pc' := 79) dX8_findThrown_78 rfl rfl ?_
                refine g_get (pc' := 82) fl_X8_57 dX8_findThrown_79 (by omega) (by first | assumption | exact va_up_self _ _ _ | exact (va_up_ne _ _ (by decide)).trans (by assumption) | exact (va_up_ne _ _ (by decide)).trans (va_up_self _ _ _) | exact (va_up_ne _ _ (by decide)).trans ((va_up_ne _ _ (by decide)).trans (by assumption)) | exact (va_up_ne _ _ (by decide)).trans ((va_up_ne _ _ (by decide)).trans (va_up_self _ _ _)) | exact (va_up_ne _ _ (by decide)).trans ((va_up_ne _ _ (by decide)).trans ((va_up_ne _ _ (by decide)).trans (by assumption))) | exact (va_up_ne _ _ (by decide)).trans ((va_up_ne _ _ (by decide)).trans ((va_up_ne _ _ (by decide)).trans ((va_up_ne _ _ (by decide)).trans (by assumption))))) (by first | assumption | rfl | exact (List.getElem?_set_ne (by decide)).trans (by assumption) | exact List.getElem?_set_self (by omega)) ?_
                refine g_aload_n (pc' := 83) dX8_findThrown_82 rfl rfl ?_
                refine g_get (pc' := 86) fl_X8_38 dX8_findThrown_83 (by omega) (by first | assumption | exact va_up_self _ _ _ | exact (va_up_ne _ _ (by decide)).trans (by assumption) | exact (va_up_ne _ _ (by decide)).trans (va_up_self _ _ _) | exact (va_up_ne _ _ (by decide)).trans ((va_up_ne _ _ (by decide)).trans (by assumption)) | exact (va_up_ne _ _ (by decide)).trans ((va_up_ne _ _ (by decide)).trans (va_up_self _ _ _)) | exact (va_up_ne _ _ (by decide)).trans ((va_up_ne _ _ (by decide)).trans ((va_up_ne _ _ (by decide)).trans (by assumption))) | exact (va_up_ne _ _ (by decide)).trans ((va_up_ne _ _ (by decide)).trans ((va_up_ne _ _ (by decide)).trans ((va_up_ne _ _ (by decide)).trans (by assumption))))) (by first | assumption | rfl | exact (List.getElem?_set_ne (by decide)).trans (by assumption) | exact List.getElem?_set_self (by omega)) ?_
                refine g_bipush (pc' := 88) (v := nI 6) dX8_findThrown_86 (by decide) ?_
                refine g_iload_n (pc' := 89) dX8_findThrown_88 rfl rfl ?_
                first | refine g_imulN (pc' := 90) dX8_findThrown_89 ?_ | refine g_imul (pc' := 90) dX8_findThrown_89 ?_
                refine g_iload_n (pc' := 91) dX8_findThrown_90 rfl rfl ?_
                first | refine g_iaddN (pc' := 92) dX8_findThrown_91 ?_ | refine g_iadd (pc' := 92) dX8_findThrown_91 ?_
                refine g_ialdV (pc' := 93) dX8_findThrown_92 (by omega) (by first | assumption | exact va_up_self _ _ _ | exact (va_up_ne _ _ (by decide)).trans (by assumption) | exact (va_up_ne _ _ (by decide)).trans (va_up_self _ _ _) | exact (va_up_ne _ _ (by decide)).trans ((va_up_ne _ _ (by decide)).trans (by assumption)) | exact (va_up_ne _ _ (by decide)).trans ((va_up_ne _ _ (by decide)).trans (va_up_self _ _ _)) | exact (va_up_ne _ _ (by decide)).trans ((va_up_ne _ _ (by decide)).trans ((va_up_ne _ _ (by decide)).trans (by assumption))) | exact (va_up_ne _ _ (by decide)).trans ((va_up_ne _ _ (by decide)).trans ((va_up_ne _ _ (by decide)).trans ((va_up_ne _ _ (by decide)).trans (by assumption))))) ((IX_nI (by omega) (by omega))) (hmo _ _ (by omega) h4 (by omega)) ?_
                refine g_laldV (pc' := 94) dX8_findThrown_93 (by omega) (by first | assumption | exact va_up_self _ _ _ | exact (va_up_ne _ _ (by decide)).trans (by assumption) | exact (va_up_ne _ _ (by decide)).trans (va_up_self _ _ _) | exact (va_up_ne _ _ (by decide)).trans ((va_up_ne _ _ (by decide)).trans (by assumption)) | exact (va_up_ne _ _ (by decide)).trans ((va_up_ne _ _ (by decide)).trans (va_up_self _ _ _)) | exact (va_up_ne _ _ (by decide)).trans ((va_up_ne _ _ (by decide)).trans ((va_up_ne _ _ (by decide)).trans (by assumption))) | exact (va_up_ne _ _ (by decide)).trans ((va_up_ne _ _ (by decide)).trans ((va_up_ne _ _ (by decide)).trans ((va_up_ne _ _ (by decide)).trans (by assumption))))) ((IX_nI (by omega) (by omega))) (hup _ (by omega) b2) ?_
                first | refine g_laddN (pc' := 95) dX8_findThrown_94 ?_ | refine g_ladd (pc' := 95) dX8_findThrown_94 ?_
                refine g_last (pc' := 96) dX8_findThrown_95 (by omega) (by first | assumption | exact va_up_self _ _ _ | exact (va_up_ne _ _ (by decide)).trans (by assumption) | exact (va_up_ne _ _ (by decide)).trans (va_up_self _ _ _) | exact (va_up_ne _ _ (by decide)).trans ((va_up_ne _ _ (by decide)).trans (by assumption)) | exact (va_up_ne _ _ (by decide)).trans ((va_up_ne _ _ (by decide)).trans (va_up_self _ _ _)) | exact (va_up_ne _ _ (by decide)).trans ((va_up_ne _ _ (by decide)).trans ((va_up_ne _ _ (by decide)).trans (by assumption))) | exact (va_up_ne _ _ (by decide)).trans ((va_up_ne _ _ (by decide)).trans ((va_up_ne _ _ (by decide)).trans ((va_up_ne _ _ (by decide)).trans (by assumption))))) ((IX_nI (by omega) (by omega))) ?_
                rw [up_up]
                first | refine g_iincN (z := 1) (pc' := 99) dX8_findThrown_96 rfl rfl (by decide) ?_ | refine g_iinc (pc' := 99) dX8_findThrown_96 rfl rfl (by decide) ?_
                refine g_goto (tgt := 50) dX8_findThrown_99 (by decide) ?_
                refine ihm (s + 1) _ (by omega) (fun h' q1 q2 => ?_) (fun _ => ?_) (fun q => by omega)
                · rw [pk_uLn (by omega)]; exact hup h' q1 q2
                · rw [pk_uLs]; rfl
        refine g_aload_n (pc' := 12) dX8_findThrown_11 rfl rfl ?_
        refine g_get (pc' := 15) fl_X8_57 dX8_findThrown_12 (by omega) (by first | assumption | exact va_up_self _ _ _ | exact (va_up_ne _ _ (by decide)).trans (by assumption) | exact (va_up_ne _ _ (by decide)).trans (va_up_self _ _ _) | exact (va_up_ne _ _ (by decide)).trans ((va_up_ne _ _ (by decide)).trans (by assumption)) | exact (va_up_ne _ _ (by decide)).trans ((va_up_ne _ _ (by decide)).trans (va_up_self _ _ _)) | exact (va_up_ne _ _ (by decide)).trans ((va_up_ne _ _ (by decide)).trans ((va_up_ne _ _ (by decide)).trans (by assumption))) | exact (va_up_ne _ _ (by decide)).trans ((va_up_ne _ _ (by decide)).trans ((va_up_ne _ _ (by decide)).trans ((va_up_ne _ _ (by decide)).trans (by assumption))))) (by first | assumption | rfl | exact (List.getElem?_set_ne (by decide)).trans (by assumption) | exact List.getElem?_set_self (by omega)) ?_
        refine g_iload_n (pc' := 16) dX8_findThrown_15 rfl rfl ?_
        refine g_aload_n (pc' := 17) dX8_findThrown_16 rfl rfl ?_
        refine g_get (pc' := 20) fl_X8_32 dX8_findThrown_17 (by omega) (by first | assumption | exact va_up_self _ _ _ | exact (va_up_ne _ _ (by decide)).trans (by assumption) | exact (va_up_ne _ _ (by decide)).trans (va_up_self _ _ _) | exact (va_up_ne _ _ (by decide)).trans ((va_up_ne _ _ (by decide)).trans (by assumption)) | exact (va_up_ne _ _ (by decide)).trans ((va_up_ne _ _ (by decide)).trans (va_up_self _ _ _)) | exact (va_up_ne _ _ (by decide)).trans ((va_up_ne _ _ (by decide)).trans ((va_up_ne _ _ (by decide)).trans (by assumption))) | exact (va_up_ne _ _ (by decide)).trans ((va_up_ne _ _ (by decide)).trans ((va_up_ne _ _ (by decide)).trans ((va_up_ne _ _ (by decide)).trans (by assumption))))) (by first | assumption | rfl | exact (List.getElem?_set_ne (by decide)).trans (by assumption) | exact List.getElem?_set_self (by omega)) ?_
        refine g_iload_n (pc' := 21) dX8_findThrown_20 rfl rfl ?_
        refine g_ialdV (pc' := 22) dX8_findThrown_21 (by omega) (by first | assumption | exact va_up_self _ _ _ | exact (va_up_ne _ _ (by decide)).trans (by assumption) | exact (va_up_ne _ _ (by decide)).trans (va_up_self _ _ _) | exact (va_up_ne _ _ (by decide)).trans ((va_up_ne _ _ (by decide)).trans (by assumption)) | exact (va_up_ne _ _ (by decide)).trans ((va_up_ne _ _ (by decide)).trans (va_up_self _ _ _)) | exact (va_up_ne _ _ (by decide)).trans ((va_up_ne _ _ (by decide)).trans ((va_up_ne _ _ (by decide)).trans (by assumption))) | exact (va_up_ne _ _ (by decide)).trans ((va_up_ne _ _ (by decide)).trans ((va_up_ne _ _ (by decide)).trans ((va_up_ne _ _ (by decide)).trans (by assumption))))) ((IX_nI (by omega) (by omega))) (hz _ (by omega)) ?_
        refine g_aload_n (pc' := 23) dX8_findThrown_22 rfl rfl ?_
        refine g_get (pc' := 26) fl_X8_7 dX8_findThrown_23 (by omega) (by first | assumption | exact va_up_self _ _ _ | exact (va_up_ne _ _ (by decide)).trans (by assumption) | exact (va_up_ne _ _ (by decide)).trans (va_up_self _ _ _) | exact (va_up_ne _ _ (by decide)).trans ((va_up_ne _ _ (by decide)).trans (by assumption)) | exact (va_up_ne _ _ (by decide)).trans ((va_up_ne _ _ (by decide)).trans (va_up_self _ _ _)) | exact (va_up_ne _ _ (by decide)).trans ((va_up_ne _ _ (by decide)).trans ((va_up_ne _ _ (by decide)).trans (by assumption))) | exact (va_up_ne _ _ (by decide)).trans ((va_up_ne _ _ (by decide)).trans ((va_up_ne _ _ (by decide)).trans ((va_up_ne _ _ (by decide)).trans (by assumption))))) (by first | assumption | rfl | exact (List.getElem?_set_ne (by decide)).trans (by assumption) | exact List.getElem?_set_self (by omega)) ?_
        refine g_icmp_neN (tgt := 46) (pc' := 29) dX8_findThrown_26 (by decide) (by omega) (by omega) (fun h4 => ?_) (fun h4 => ?_)
        · refine g_lconst (pc' := 47) (v := lN 0) dX8_findThrown_46 (by decide) ?_
          refine g_last (pc' := 48) dX8_findThrown_47 (by omega) (by first | assumption | exact va_up_self _ _ _ | exact (va_up_ne _ _ (by decide)).trans (by assumption) | exact (va_up_ne _ _ (by decide)).trans (va_up_self _ _ _) | exact (va_up_ne _ _ (by decide)).trans ((va_up_ne _ _ (by decide)).trans (by assumption)) | exact (va_up_ne _ _ (by decide)).trans ((va_up_ne _ _ (by decide)).trans (va_up_self _ _ _)) | exact (va_up_ne _ _ (by decide)).trans ((va_up_ne _ _ (by decide)).trans ((va_up_ne _ _ (by decide)).trans (by assumption))) | exact (va_up_ne _ _ (by decide)).trans ((va_up_ne _ _ (by decide)).trans ((va_up_ne _ _ (by decide)).trans ((va_up_ne _ _ (by decide)).trans (by assumption))))) ((IX_nI (by omega) (by omega))) ?_
          rw [up_up]
          refine g_iconst (pc' := 49) (v := nI 0) dX8_findThrown_48 (by decide) ?_
          refine g_istore_n (pc' := 50) dX8_findThrown_49 rfl (by decide) ?_
          refine inner S 0 _ (by omega) (fun h' q1 q2 => ?_) (fun _ => ?_) (fun q => absurd q h4)
          · rw [pk_uLn (by omega)]; exact hft h' q1 q2
          · rw [pk_uLs]; rfl
        · refine g_aload_n (pc' := 30) dX8_findThrown_29 rfl rfl ?_
          refine g_get (pc' := 33) fl_X8_54 dX8_findThrown_30 (by omega) (by first | assumption | exact va_up_self _ _ _ | exact (va_up_ne _ _ (by decide)).trans (by assumption) | exact (va_up_ne _ _ (by decide)).trans (va_up_self _ _ _) | exact (va_up_ne _ _ (by decide)).trans ((va_up_ne _ _ (by decide)).trans (by assumption)) | exact (va_up_ne _ _ (by decide)).trans ((va_up_ne _ _ (by decide)).trans (va_up_self _ _ _)) | exact (va_up_ne _ _ (by decide)).trans ((va_up_ne _ _ (by decide)).trans ((va_up_ne _ _ (by decide)).trans (by assumption))) | exact (va_up_ne _ _ (by decide)).trans ((va_up_ne _ _ (by decide)).trans ((va_up_ne _ _ (by decide)).trans ((va_up_ne _ _ (by decide)).trans (by assumption))))) (by first | assumption | rfl | exact (List.getElem?_set_ne (by decide)).trans (by assumption) | exact List.getElem?_set_self (by omega)) ?_
          refine g_sipush (pc' := 36) (v := nI 462) dX8_findThrown_33 (by decide) ?_
          refine g_iload_n (pc' := 37) dX8_findThrown_36 rfl rfl ?_
          refine g_iconst (pc' := 38) (v := nI 1) dX8_findThrown_37 (by decide) ?_
          first | refine g_isubN (pc' := 39) dX8_findThrown_38 (by omega) ?_ | refine g_isub (pc' := 39) dX8_findThrown_38 ?_
          first | refine g_imulN (pc' := 40) dX8_findThrown_39 ?_ | refine g_imul (pc' := 40) dX8_findThrown_39 ?_
          refine g_iload_n (pc' := 41) dX8_findThrown_40 rfl rfl ?_
          first | refine g_iaddN (pc' := 42) dX8_findThrown_41 ?_ | refine g_iadd (pc' := 42) dX8_findThrown_41 ?_
          refine g_laldV (pc' := 43) dX8_findThrown_42 (by omega) (by first | assumption | exact va_up_self _ _ _ | exact (va_up_ne _ _ (by decide)).trans (by assumption) | exact (va_up_ne _ _ (by decide)).trans (va_up_self _ _ _) | exact (va_up_ne _ _ (by decide)).trans ((va_up_ne _ _ (by decide)).trans (by assumption)) | exact (va_up_ne _ _ (by decide)).trans ((va_up_ne _ _ (by decide)).trans (va_up_self _ _ _)) | exact (va_up_ne _ _ (by decide)).trans ((va_up_ne _ _ (by decide)).trans ((va_up_ne _ _ (by decide)).trans (by assumption))) | exact (va_up_ne _ _ (by decide)).trans ((va_up_ne _ _ (by decide)).trans ((va_up_ne _ _ (by decide)).trans ((va_up_ne _ _ (by decide)).trans (by assumption))))) ((IX_nI (by omega) (by omega))) (hval h (by omega) h4) ?_
          refine g_goto (tgt := 47) dX8_findThrown_43 (by decide) ?_
          refine g_last (pc' := 48) dX8_findThrown_47 (by omega) (by first | assumption | exact va_up_self _ _ _ | exact (va_up_ne _ _ (by decide)).trans (by assumption) | exact (va_up_ne _ _ (by decide)).trans (va_up_self _ _ _) | exact (va_up_ne _ _ (by decide)).trans ((va_up_ne _ _ (by decide)).trans (by assumption)) | exact (va_up_ne _ _ (by decide)).trans ((va_up_ne _ _ (by decide)).trans (va_up_self _ _ _)) | exact (va_up_ne _ _ (by decide)).trans ((va_up_ne _ _ (by decide)).trans ((va_up_ne _ _ (by decide)).trans (by assumption))) | exact (va_up_ne _ _ (by decide)).trans ((va_up_ne _ _ (by decide)).trans ((va_up_ne _ _ (by decide)).trans ((va_up_ne _ _ (by decide)).trans (by assumption))))) ((IX_nI (by omega) (by omega))) ?_
          rw [up_up]
          refine g_iconst (pc' := 49) (v := nI 0) dX8_findThrown_48 (by decide) ?_
          refine g_istore_n (pc' := 50) dX8_findThrown_49 rfl (by decide) ?_
          refine inner S 0 _ (by omega) (fun h' q1 q2 => ?_) (fun q => by omega) (fun _ => ?_)
          · rw [pk_uLn (by omega)]; exact hft h' q1 q2
          · rw [pk_uLs, th_whole h4]
  have e0 : nI (nh S D - 1) = nI (nh S D) - 1 := by
    obtain ⟨z, hz9⟩ : ∃ z, nh S D = z + 1 := ⟨nh S D - 1, by omega⟩
    rw [hz9, nI_pred]
    rfl
  have := loop (nh S D) ft (Nat.le_refl _) (fun h q1 q2 => absurd q2 (by omega)) uu
  rw [← e0] at this
  exact this
end
section
theorem pw_pos {a : Nat} (h : 1 ≤ a) : ∀ k, 1 ≤ a ^ k
  | 0 => Nat.le_refl 1
  | k + 1 => by
    rw [Nat.pow_succ]
    exact Nat.mul_le_mul (pw_pos h k) h
theorem lg_le {a b : Nat} (ha : a < 2 ^ 63) (hb : b < 2 ^ 63) : lg_cmp (lN a) (lN b) ≤ 0 ↔ a ≤ b := by rw [lg_cmp_le, pk_lLE ha hb]
theorem c_findTurn {hp : AH} {n D S T R M : Nat} {fs : List Value} {fsh fz fm : Nat → Int32} {fp fv ft : Nat → Int64} {gr : Nat → Nat} {Q : Option Value → AH → Nat → Prop} (hn : 64 ≤ n) (c47 : hp 47 = ob 8 fs) (F : MF fs D S T R) (h2 : 2 ≤ S) (h6 : S ≤ 6) (hD : D ≤ 5) (hT1 : 1 ≤ T) (hT3 : T ≤ 3) (f8 : fs[8]? = some (.int (nI (nh S D)))) (c51 : hp 51 = aI 2772 fsh) (c52 : hp 52 = aI 462 fz) (c54 : hp 54 = aI 2772 fm) (c57 : hp 57 = aJ 6 fp) (c59 : hp 59 = aJ 1386 fv) (c60 : hp 60 = aJ 462 ft) (hsh : ∀ h k, h < nh S D → k < 6 → fsh (6 * h + k) = nI (sh S h k)) (hz : ∀ h, h < nh S D → fz h = nI (sz S h)) (hmo : ∀ h s, h < nh S D → sz S h < D → s < S → fm (6 * h + s) = nI (nx S h s)) (hpw : ∀ k, k < 6 → fp k = lN (S ^ k)) (hval : ∀ h, h < nh S D → sz S h = D → fv h = lN (gr h)) (hM : ∀ h, h < nh S D → sz S h = D → gr h ≤ M) (hB : M * (S ^ D) ^ T < 2 ^ 63)
    (hq : ∀ fv' ft' : Nat → Int64, (∀ k h, k < T → h < nh S D → sz S h = D → fv' (462 * k + h) = lN (vl D S gr k h)) → Q none (va_up (va_up hp 59 (aJ 1386 fv')) 60 (aJ 462 ft')) n) : CT yX8_findTurn cX8_findTurn 8 none (rmD 1) [.ref 47] hp n Q := by
  have F' := F
  obtain ⟨f99, f0, f1, f2, f3, f4, f5, f6, f9, f10, f11, f12, f13, f16, f24, f25, f26, f27, f28, f29, f30⟩ := F'
  obtain ⟨hN, hN1⟩ := nh_le h2 h6 hD
  have hb1 : 1 ≤ S ^ D := pw_pos (by omega) D
  have hMk : ∀ k, k ≤ T → M * (S ^ D) ^ k < 2 ^ 63 := fun k hk => Nat.lt_of_le_of_lt (Nat.mul_le_mul_left M (Nat.pow_le_pow_right hb1 hk)) hB
  show G yX8_findTurn cX8_findTurn 8 none (rmD 1) none Q 0 0 0 [.ref 47, uu, uu, uu, uu, uu, uu, uu] [] hp n
  have e60 : va_up hp 59 (aJ 1386 fv) 60 = aJ 462 ft := (va_up_ne _ _ (by decide)).trans c60
  rw [← up_id c59]
  rw [← up_id e60]
  refine g_iconst (pc' := 1) (v := nI 1) dX8_findTurn_0 (by decide) ?_
  refine g_istore_n (pc' := 2) dX8_findTurn_1 rfl (by decide) ?_
  have loop : ∀ j k fv ft w2 w3 w4 w5 w6 w7, k + 1 + j = T → (∀ i h, i < k + 1 → h < nh S D → sz S h = D → fv (462 * i + h) = lN (vl D S gr i h)) → G yX8_findTurn cX8_findTurn 8 none (rmD 1) none Q 0 0 2 [.ref 47, .int (nI (k + 1)), w2, w3, w4, w5, w6, w7] [] (va_up (va_up hp 59 (aJ 1386 fv)) 60 (aJ 462 ft)) n := by
    intro j
    induction j with
    | zero =>
      intro k fv ft w2 w3 w4 w5 w6 w7 hk hfv
      refine g_iload_n (pc' := 3) dX8_findTurn_2 rfl rfl ?_
      refine g_aload_n (pc' := 4) dX8_findTurn_3 rfl rfl ?_
      refine g_get (pc' := 7) fl_X8_16 dX8_findTurn_4 (by omega) (by first | assumption | exact va_up_self _ _ _ | exact (va_up_ne _ _ (by decide)).trans (by assumption) | exact (va_up_ne _ _ (by decide)).trans (va_up_self _ _ _) | exact (va_up_ne _ _ (by decide)).trans ((va_up_ne _ _ (by decide)).trans (by assumption)) | exact (va_up_ne _ _ (by decide)).trans ((va_up_ne _ _ (by decide)).trans (va_up_self _ _ _)) | exact (va_up_ne _ _ (by decide)).trans ((va_up_ne _ _ (by decide)).trans ((va_up_ne _ _ (by decide)).trans (by assumption))) | exact (va_up_ne _ _ (by decide)).trans ((va_up_ne _ _ (by decide)).trans ((va_up_ne _ _ (by decide)).trans ((va_up_ne _ _ (by decide)).trans (by assumption))))) (by first | assumption | rfl | exact (List.getElem?_set_ne (by decide)).trans (by assumption) | exact List.getElem?_set_self (by omega)) ?_
      refine g_icmp_geN (tgt := 133) (pc' := 10) dX8_findTurn_7 (by decide) (by omega) (by omega) (fun h1 => ?_) (fun h1 => ?_)
      · exact g_vret dX8_findTurn_133 rfl (Nat.le_refl _) (Nat.le_refl _) (hq fv ft (fun i h hi hh hz => hfv i h (by omega) hh hz))
      · omega
    | succ j ih =>
      intro k fv ft w2 w3 w4 w5 w6 w7 hk hfv
      have hvM := vl_le h2 h6 hD hM k
      have hhv : ∀ g, g < nh S D → hv D S (vl D S gr k) g < 2 ^ 63 := fun g hg => by
        have h9 := hv_le h2 h6 hD hvM hg
        rw [Nat.mul_assoc, ← Nat.pow_succ] at h9
        exact Nat.lt_of_le_of_lt h9 (hMk (k + 1) (by omega))
      refine g_iload_n (pc' := 3) dX8_findTurn_2 rfl rfl ?_
      refine g_aload_n (pc' := 4) dX8_findTurn_3 rfl rfl ?_
      refine g_get (pc' := 7) fl_X8_16 dX8_findTurn_4 (by omega) (by first | assumption | exact va_up_self _ _ _ | exact (va_up_ne _ _ (by decide)).trans (by assumption) | exact (va_up_ne _ _ (by decide)).trans (va_up_self _ _ _) | exact (va_up_ne _ _ (by decide)).trans ((va_up_ne _ _ (by decide)).trans (by assumption)) | exact (va_up_ne _ _ (by decide)).trans ((va_up_ne _ _ (by decide)).trans (va_up_self _ _ _)) | exact (va_up_ne _ _ (by decide)).trans ((va_up_ne _ _ (by decide)).trans ((va_up_ne _ _ (by decide)).trans (by assumption))) | exact (va_up_ne _ _ (by decide)).trans ((va_up_ne _ _ (by decide)).trans ((va_up_ne _ _ (by decide)).trans ((va_up_ne _ _ (by decide)).trans (by assumption))))) (by first | assumption | rfl | exact (List.getElem?_set_ne (by decide)).trans (by assumption) | exact List.getElem?_set_self (by omega)) ?_
      refine g_icmp_geN (tgt := 133) (pc' := 10) dX8_findTurn_7 (by decide) (by omega) (by omega) (fun h1 => ?_) (fun h1 => ?_)
      · omega
      · refine g_aload_n (pc' := 11) dX8_findTurn_10 rfl rfl ?_
        refine g_iload_n (pc' := 12) dX8_findTurn_11 rfl rfl ?_
        refine gc_V 15 47 [.int (nI (k + 1))] [] cw_X8_99 im_X8_findThrown se_X8_findThrown dX8_findTurn_12 (by decide) (by decide) (Nat.le_refl _) (Nat.le_refl _) (Nat.le_of_ble_eq_true rfl) rfl (Nat.le_of_ble_eq_true rfl) (by omega) (by first | assumption | exact va_up_self _ _ _ | exact (va_up_ne _ _ (by decide)).trans (by assumption) | exact (va_up_ne _ _ (by decide)).trans (va_up_self _ _ _) | exact (va_up_ne _ _ (by decide)).trans ((va_up_ne _ _ (by decide)).trans (by assumption)) | exact (va_up_ne _ _ (by decide)).trans ((va_up_ne _ _ (by decide)).trans (va_up_self _ _ _)) | exact (va_up_ne _ _ (by decide)).trans ((va_up_ne _ _ (by decide)).trans ((va_up_ne _ _ (by decide)).trans (by assumption))) | exact (va_up_ne _ _ (by decide)).trans ((va_up_ne _ _ (by decide)).trans ((va_up_ne _ _ (by decide)).trans ((va_up_ne _ _ (by decide)).trans (by assumption))))) rfl rfl (c_findThrown (val := vl D S gr k) hn (by first | assumption | exact va_up_self _ _ _ | exact (va_up_ne _ _ (by decide)).trans (by assumption) | exact (va_up_ne _ _ (by decide)).trans (va_up_self _ _ _) | exact (va_up_ne _ _ (by decide)).trans ((va_up_ne _ _ (by decide)).trans (by assumption)) | exact (va_up_ne _ _ (by decide)).trans ((va_up_ne _ _ (by decide)).trans (va_up_self _ _ _)) | exact (va_up_ne _ _ (by decide)).trans ((va_up_ne _ _ (by decide)).trans ((va_up_ne _ _ (by decide)).trans (by assumption))) | exact (va_up_ne _ _ (by decide)).trans ((va_up_ne _ _ (by decide)).trans ((va_up_ne _ _ (by decide)).trans ((va_up_ne _ _ (by decide)).trans (by assumption))))) F h2 h6 hD (by omega) (by omega) f8 (by first | assumption | exact va_up_self _ _ _ | exact (va_up_ne _ _ (by decide)).trans (by assumption) | exact (va_up_ne _ _ (by decide)).trans (va_up_self _ _ _) | exact (va_up_ne _ _ (by decide)).trans ((va_up_ne _ _ (by decide)).trans (by assumption)) | exact (va_up_ne _ _ (by decide)).trans ((va_up_ne _ _ (by decide)).trans (va_up_self _ _ _)) | exact (va_up_ne _ _ (by decide)).trans ((va_up_ne _ _ (by decide)).trans ((va_up_ne _ _ (by decide)).trans (by assumption))) | exact (va_up_ne _ _ (by decide)).trans ((va_up_ne _ _ (by decide)).trans ((va_up_ne _ _ (by decide)).trans ((va_up_ne _ _ (by decide)).trans (by assumption))))) (by first | assumption | exact va_up_self _ _ _ | exact (va_up_ne _ _ (by decide)).trans (by assumption) | exact (va_up_ne _ _ (by decide)).trans (va_up_self _ _ _) | exact (va_up_ne _ _ (by decide)).trans ((va_up_ne _ _ (by decide)).trans (by assumption)) | exact (va_up_ne _ _ (by decide)).trans ((va_up_ne _ _ (by decide)).trans (va_up_self _ _ _)) | exact (va_up_ne _ _ (by decide)).trans ((va_up_ne _ _ (by decide)).trans ((va_up_ne _ _ (by decide)).trans (by assumption))) | exact (va_up_ne _ _ (by decide)).trans ((va_up_ne _ _ (by decide)).trans ((va_up_ne _ _ (by decide)).trans ((va_up_ne _ _ (by decide)).trans (by assumption))))) (by first | assumption | exact va_up_self _ _ _ | exact (va_up_ne _ _ (by decide)).trans (by assumption) | exact (va_up_ne _ _ (by decide)).trans (va_up_self _ _ _) | exact (va_up_ne _ _ (by decide)).trans ((va_up_ne _ _ (by decide)).trans (by assumption)) | exact (va_up_ne _ _ (by decide)).trans ((va_up_ne _ _ (by decide)).trans (va_up_self _ _ _)) | exact (va_up_ne _ _ (by decide)).trans ((va_up_ne _ _ (by decide)).trans ((va_up_ne _ _ (by decide)).trans (by assumption))) | exact (va_up_ne _ _ (by decide)).trans ((va_up_ne _ _ (by decide)).trans ((va_up_ne _ _ (by decide)).trans ((va_up_ne _ _ (by decide)).trans (by assumption))))) (by first | assumption | exact va_up_self _ _ _ | exact (va_up_ne _ _ (by decide)).trans (by assumption) | exact (va_up_ne _ _ (by decide)).trans (va_up_self _ _ _) | exact (va_up_ne _ _ (by decide)).trans ((va_up_ne _ _ (by decide)).trans (by assumption)) | exact (va_up_ne _ _ (by decide)).trans ((va_up_ne _ _ (by decide)).trans (va_up_self _ _ _)) | exact (va_up_ne _ _ (by decide)).trans ((va_up_ne _ _ (by decide)).trans ((va_up_ne _ _ (by decide)).trans (by assumption))) | exact (va_up_ne _ _ (by decide)).trans ((va_up_ne _ _ (by decide)).trans ((va_up_ne _ _ (by decide)).trans ((va_up_ne _ _ (by decide)).trans (by assumption))))) hz hmo (fun h hh hz => hfv k h (by omega) hh hz) (fun ft' hft' => ⟨rfl, ?_⟩))
        rw [up_up]
        refine g_iconst (pc' := 16) (v := nI 0) dX8_findTurn_15 (by decide) ?_
        refine g_istore_n (pc' := 17) dX8_findTurn_16 rfl (by decide) ?_
        have mid : ∀ j2 h fv w3 w4 w5 w6 w7, h + j2 = nh S D → (∀ i h, i < k + 1 → h < nh S D → sz S h = D → fv (462 * i + h) = lN (vl D S gr i h)) → (∀ h', h' < h → sz S h' = D → fv (462 * (k + 1) + h') = lN (vl D S gr (k + 1) h')) → G yX8_findTurn cX8_findTurn 8 none (rmD 1) none Q 0 0 17 [.ref 47, .int (nI (k + 1)), .int (nI h), w3, w4, w5, w6, w7] [] (va_up (va_up hp 59 (aJ 1386 fv)) 60 (aJ 462 ft')) n := by
          intro j2
          induction j2 with
          | zero =>
            intro h fv w3 w4 w5 w6 w7 hh hfv hfk
            refine g_iload_n (pc' := 18) dX8_findTurn_17 rfl rfl ?_
            refine g_aload_n (pc' := 19) dX8_findTurn_18 rfl rfl ?_
            refine g_get (pc' := 22) fl_X8_71 dX8_findTurn_19 (by omega) (by first | assumption | exact va_up_self _ _ _ | exact (va_up_ne _ _ (by decide)).trans (by assumption) | exact (va_up_ne _ _ (by decide)).trans (va_up_self _ _ _) | exact (va_up_ne _ _ (by decide)).trans ((va_up_ne _ _ (by decide)).trans (by assumption)) | exact (va_up_ne _ _ (by decide)).trans ((va_up_ne _ _ (by decide)).trans (va_up_self _ _ _)) | exact (va_up_ne _ _ (by decide)).trans ((va_up_ne _ _ (by decide)).trans ((va_up_ne _ _ (by decide)).trans (by assumption))) | exact (va_up_ne _ _ (by decide)).trans ((va_up_ne _ _ (by decide)).trans ((va_up_ne _ _ (by decide)).trans ((va_up_ne _ _ (by decide)).trans (by assumption))))) (by first | assumption | rfl | exact (List.getElem?_set_ne (by decide)).trans (by assumption) | exact List.getElem?_set_self (by omega)) ?_
            refine g_icmp_geN (tgt := 127) (pc' := 25) dX8_findTurn_22 (by decide) (by omega) (by omega) (fun h3 => ?_) (fun h3 => ?_)
            · first | refine g_iincN (z := 1) (pc' := 130) dX8_findTurn_127 rfl rfl (by decide) ?_ | refine g_iinc (pc' := 130) dX8_findTurn_127 rfl rfl (by decide) ?_
              refine g_goto (tgt := 2) dX8_findTurn_130 (by decide) ?_
              refine ih (k + 1) fv ft' _ _ _ _ _ _ (by omega) (fun i h' hi hh' hz => ?_)
              rcases Nat.lt_or_ge i (k + 1) with q | q
              · exact hfv i h' q hh' hz
              · have e : i = k + 1 := by omega
                subst e
                exact hfk h' (by omega) hz
            · omega
          | succ j2 ih2 =>
            intro h fv w3 w4 w5 w6 w7 hh hfv hfk
            have zl := sz_le S h
            refine g_iload_n (pc' := 18) dX8_findTurn_17 rfl rfl ?_
            refine g_aload_n (pc' := 19) dX8_findTurn_18 rfl rfl ?_
            refine g_get (pc' := 22) fl_X8_71 dX8_findTurn_19 (by omega) (by first | assumption | exact va_up_self _ _ _ | exact (va_up_ne _ _ (by decide)).trans (by assumption) | exact (va_up_ne _ _ (by decide)).trans (va_up_self _ _ _) | exact (va_up_ne _ _ (by decide)).trans ((va_up_ne _ _ (by decide)).trans (by assumption)) | exact (va_up_ne _ _ (by decide)).trans ((va_up_ne _ _ (by decide)).trans (va_up_self _ _ _)) | exact (va_up_ne _ _ (by decide)).trans ((va_up_ne _ _ (by decide)).trans ((va_up_ne _ _ (by decide)).trans (by assumption))) | exact (va_up_ne _ _ (by decide)).trans ((va_up_ne _ _ (by decide)).trans ((va_up_ne _ _ (by decide)).trans ((va_up_ne _ _ (by decide)).trans (by assumption))))) (by first | assumption | rfl | exact (List.getElem?_set_ne (by decide)).trans (by assumption) | exact List.getElem?_set_self (by omega)) ?_
            refine g_icmp_geN (tgt := 127) (pc' := 25) dX8_findTurn_22 (by decide) (by omega) (by omega) (fun h3 => ?_) (fun h3 => ?_)
            · omega
            · refine g_aload_n (pc' := 26) dX8_findTurn_25 rfl rfl ?_
              refine g_get (pc' := 29) fl_X8_32 dX8_findTurn_26 (by omega) (by first | assumption | exact va_up_self _ _ _ | exact (va_up_ne _ _ (by decide)).trans (by assumption) | exact (va_up_ne _ _ (by decide)).trans (va_up_self _ _ _) | exact (va_up_ne _ _ (by decide)).trans ((va_up_ne _ _ (by decide)).trans (by assumption)) | exact (va_up_ne _ _ (by decide)).trans ((va_up_ne _ _ (by decide)).trans (va_up_self _ _ _)) | exact (va_up_ne _ _ (by decide)).trans ((va_up_ne _ _ (by decide)).trans ((va_up_ne _ _ (by decide)).trans (by assumption))) | exact (va_up_ne _ _ (by decide)).trans ((va_up_ne _ _ (by decide)).trans ((va_up_ne _ _ (by decide)).trans ((va_up_ne _ _ (by decide)).trans (by assumption))))) (by first | assumption | rfl | exact (List.getElem?_set_ne (by decide)).trans (by assumption) | exact List.getElem?_set_self (by omega)) ?_
              refine g_iload_n (pc' := 30) dX8_findTurn_29 rfl rfl ?_
              refine g_ialdV (pc' := 31) dX8_findTurn_30 (by omega) (by first | assumption | exact va_up_self _ _ _ | exact (va_up_ne _ _ (by decide)).trans (by assumption) | exact (va_up_ne _ _ (by decide)).trans (va_up_self _ _ _) | exact (va_up_ne _ _ (by decide)).trans ((va_up_ne _ _ (by decide)).trans (by assumption)) | exact (va_up_ne _ _ (by decide)).trans ((va_up_ne _ _ (by decide)).trans (va_up_self _ _ _)) | exact (va_up_ne _ _ (by decide)).trans ((va_up_ne _ _ (by decide)).trans ((va_up_ne _ _ (by decide)).trans (by assumption))) | exact (va_up_ne _ _ (by decide)).trans ((va_up_ne _ _ (by decide)).trans ((va_up_ne _ _ (by decide)).trans ((va_up_ne _ _ (by decide)).trans (by assumption))))) ((IX_nI (by omega) (by omega))) (hz _ (by omega)) ?_
              refine g_aload_n (pc' := 32) dX8_findTurn_31 rfl rfl ?_
              refine g_get (pc' := 35) fl_X8_7 dX8_findTurn_32 (by omega) (by first | assumption | exact va_up_self _ _ _ | exact (va_up_ne _ _ (by decide)).trans (by assumption) | exact (va_up_ne _ _ (by decide)).trans (va_up_self _ _ _) | exact (va_up_ne _ _ (by decide)).trans ((va_up_ne _ _ (by decide)).trans (by assumption)) | exact (va_up_ne _ _ (by decide)).trans ((va_up_ne _ _ (by decide)).trans (va_up_self _ _ _)) | exact (va_up_ne _ _ (by decide)).trans ((va_up_ne _ _ (by decide)).trans ((va_up_ne _ _ (by decide)).trans (by assumption))) | exact (va_up_ne _ _ (by decide)).trans ((va_up_ne _ _ (by decide)).trans ((va_up_ne _ _ (by decide)).trans ((va_up_ne _ _ (by decide)).trans (by assumption))))) (by first | assumption | rfl | exact (List.getElem?_set_ne (by decide)).trans (by assumption) | exact List.getElem?_set_self (by omega)) ?_
              refine g_icmp_neN (tgt := 121) (pc' := 38) dX8_findTurn_35 (by decide) (by omega) (by omega) (fun h4 => ?_) (fun h4 => ?_)
              · first | refine g_iincN (z := 1) (pc' := 124) dX8_findTurn_121 rfl rfl (by decide) ?_ | refine g_iinc (pc' := 124) dX8_findTurn_121 rfl rfl (by decide) ?_
                refine g_goto (tgt := 17) dX8_findTurn_124 (by decide) ?_
                refine ih2 (h + 1) fv _ _ _ _ _ (by omega) hfv (fun h' q hz => ?_)
                rcases Nat.lt_or_ge h' h with q2 | q2
                · exact hfk h' q2 hz
                · have e : h' = h := by omega
                  subst e
                  exact absurd hz h4
              · refine g_lconst (pc' := 39) (v := lN 0) dX8_findTurn_38 (by decide) ?_
                refine g_lstore_n (pc' := 40) dX8_findTurn_39 rfl (by decide) ?_
                refine g_iconst (pc' := 41) (v := nI 0) dX8_findTurn_40 (by decide) ?_
                refine g_istore (pc' := 43) dX8_findTurn_41 (by decide) ?_
                have inner : ∀ j3 g w6 w7, g + j3 = nh S D → G yX8_findTurn cX8_findTurn 8 none (rmD 1) none Q 0 0 43 [.ref 47, .int (nI (k + 1)), .int (nI h), .long (lN (mxF (fun g => if ptb S g h then hv D S (vl D S gr k) g else 0) g)), uu, .int (nI g), w6, w7] [] (va_up (va_up hp 59 (aJ 1386 fv)) 60 (aJ 462 ft')) n := by
                  intro j3
                  induction j3 with
                  | zero =>
                    intro g w6 w7 hg
                    have hg' : g = nh S D := by omega
                    subst hg'
                    refine g_iload (pc' := 45) dX8_findTurn_43 rfl ?_
                    refine g_aload_n (pc' := 46) dX8_findTurn_45 rfl rfl ?_
                    refine g_get (pc' := 49) fl_X8_71 dX8_findTurn_46 (by omega) (by first | assumption | exact va_up_self _ _ _ | exact (va_up_ne _ _ (by decide)).trans (by assumption) | exact (va_up_ne _ _ (by decide)).trans (va_up_self _ _ _) | exact (va_up_ne _ _ (by decide)).trans ((va_up_ne _ _ (by decide)).trans (by assumption)) | exact (va_up_ne _ _ (by decide)).trans ((va_up_ne _ _ (by decide)).trans (va_up_self _ _ _)) | exact (va_up_ne _ _ (by decide)).trans ((va_up_ne _ _ (by decide)).trans ((va_up_ne _ _ (by decide)).trans (by assumption))) | exact (va_up_ne _ _ (by decide)).trans ((va_up_ne _ _ (by decide)).trans ((va_up_ne _ _ (by decide)).trans ((va_up_ne _ _ (by decide)).trans (by assumption))))) (by first | assumption | rfl | exact (List.getElem?_set_ne (by decide)).trans (by assumption) | exact List.getElem?_set_self (by omega)) ?_
                    refine g_icmp_geN (tgt := 108) (pc' := 52) dX8_findTurn_49 (by decide) (by omega) (by omega) (fun h5 => ?_) (fun h5 => ?_)
                    · refine g_aload_n (pc' := 109) dX8_findTurn_108 rfl rfl ?_
                      refine g_get (pc' := 112) fl_X8_54 dX8_findTurn_109 (by omega) (by first | assumption | exact va_up_self _ _ _ | exact (va_up_ne _ _ (by decide)).trans (by assumption) | exact (va_up_ne _ _ (by decide)).trans (va_up_self _ _ _) | exact (va_up_ne _ _ (by decide)).trans ((va_up_ne _ _ (by decide)).trans (by assumption)) | exact (va_up_ne _ _ (by decide)).trans ((va_up_ne _ _ (by decide)).trans (va_up_self _ _ _)) | exact (va_up_ne _ _ (by decide)).trans ((va_up_ne _ _ (by decide)).trans ((va_up_ne _ _ (by decide)).trans (by assumption))) | exact (va_up_ne _ _ (by decide)).trans ((va_up_ne _ _ (by decide)).trans ((va_up_ne _ _ (by decide)).trans ((va_up_ne _ _ (by decide)).trans (by assumption))))) (by first | assumption | rfl | exact (List.getElem?_set_ne (by decide)).trans (by assumption) | exact List.getElem?_set_self (by omega)) ?_
                      refine g_sipush (pc' := 115) (v := nI 462) dX8_findTurn_112 (by decide) ?_
                      refine g_iload_n (pc' := 116) dX8_findTurn_115 rfl rfl ?_
                      first | refine g_imulN (pc' := 117) dX8_findTurn_116 ?_ | refine g_imul (pc' := 117) dX8_findTurn_116 ?_
                      refine g_iload_n (pc' := 118) dX8_findTurn_117 rfl rfl ?_
                      first | refine g_iaddN (pc' := 119) dX8_findTurn_118 ?_ | refine g_iadd (pc' := 119) dX8_findTurn_118 ?_
                      refine g_lload_n (pc' := 120) dX8_findTurn_119 rfl rfl ?_
                      refine g_last (pc' := 121) dX8_findTurn_120 (by omega) (by first | assumption | exact va_up_self _ _ _ | exact (va_up_ne _ _ (by decide)).trans (by assumption) | exact (va_up_ne _ _ (by decide)).trans (va_up_self _ _ _) | exact (va_up_ne _ _ (by decide)).trans ((va_up_ne _ _ (by decide)).trans (by assumption)) | exact (va_up_ne _ _ (by decide)).trans ((va_up_ne _ _ (by decide)).trans (va_up_self _ _ _)) | exact (va_up_ne _ _ (by decide)).trans ((va_up_ne _ _ (by decide)).trans ((va_up_ne _ _ (by decide)).trans (by assumption))) | exact (va_up_ne _ _ (by decide)).trans ((va_up_ne _ _ (by decide)).trans ((va_up_ne _ _ (by decide)).trans ((va_up_ne _ _ (by decide)).trans (by assumption))))) ((IX_nI (by omega) (by omega))) ?_
                      rw [up_comm _ (by decide), up_up]
                      first | refine g_iincN (z := 1) (pc' := 124) dX8_findTurn_121 rfl rfl (by decide) ?_ | refine g_iinc (pc' := 124) dX8_findTurn_121 rfl rfl (by decide) ?_
                      refine g_goto (tgt := 17) dX8_findTurn_124 (by decide) ?_
                      refine ih2 (h + 1) _ _ _ _ _ _ (by omega) (fun i h' hi hh' hz => ?_) (fun h' q hz => ?_)
                      · rw [pk_uLn (by omega)]; exact hfv i h' hi hh' hz
                      · rcases Nat.lt_or_ge h' h with q2 | q2
                        · rw [pk_uLn (by omega)]; exact hfk h' q2 hz
                        · have e : h' = h := by omega
                          subst e
                          rw [pk_uLs]; rfl
                    · omega
                  | succ j3 ih3 =>
                    intro g w6 w7 hg
                    have zg := sz_le S g
                    have hhg := hhv g (by omega)
                    have hmx : mxF (fun g => if ptb S g h then hv D S (vl D S gr k) g else 0) g < 2 ^ 63 := by
                      have : mxF (fun g => if ptb S g h then hv D S (vl D S gr k) g else 0) g ≤ 2 ^ 63 - 1 := mxF_le (fun i hi => by
                        split
                        · have := hhv i (by omega); omega
                        · exact Nat.zero_le _)
                      omega
                    have hb9 := bI_le (ptb S g h)
                    refine g_iload (pc' := 45) dX8_findTurn_43 rfl ?_
                    refine g_aload_n (pc' := 46) dX8_findTurn_45 rfl rfl ?_
                    refine g_get (pc' := 49) fl_X8_71 dX8_findTurn_46 (by omega) (by first | assumption | exact va_up_self _ _ _ | exact (va_up_ne _ _ (by decide)).trans (by assumption) | exact (va_up_ne _ _ (by decide)).trans (va_up_self _ _ _) | exact (va_up_ne _ _ (by decide)).trans ((va_up_ne _ _ (by decide)).trans (by assumption)) | exact (va_up_ne _ _ (by decide)).trans ((va_up_ne _ _ (by decide)).trans (va_up_self _ _ _)) | exact (va_up_ne _ _ (by decide)).trans ((va_up_ne _ _ (by decide)).trans ((va_up_ne _ _ (by decide)).trans (by assumption))) | exact (va_up_ne _ _ (by decide)).trans ((va_up_ne _ _ (by decide)).trans ((va_up_ne _ _ (by decide)).trans ((va_up_ne _ _ (by decide)).trans (by assumption))))) (by first | assumption | rfl | exact (List.getElem?_set_ne (by decide)).trans (by assumption) | exact List.getElem?_set_self (by omega)) ?_
                    refine g_icmp_geN (tgt := 108) (pc' := 52) dX8_findTurn_49 (by decide) (by omega) (by omega) (fun h5 => ?_) (fun h5 => ?_)
                    · omega
                    · have fin : ∀ v, v < 2 ^ 63 → (if ptb S g h then hv D S (vl D S gr k) g else 0) = v → ∀ w6 w7, G yX8_findTurn cX8_findTurn 8 none (rmD 1) none Q 0 0 86 [.ref 47, .int (nI (k + 1)), .int (nI h), .long (lN (mxF (fun g => if ptb S g h then hv D S (vl D S gr k) g else 0) g)), uu, .int (nI g), w6, w7] [.long (lN v)] (va_up (va_up hp 59 (aJ 1386 fv)) 60 (aJ 462 ft')) n := by
                        intro v hv9 ev w6 w7
                        have emx : mxF (fun g => if ptb S g h then hv D S (vl D S gr k) g else 0) (g + 1) = max (mxF (fun g => if ptb S g h then hv D S (vl D S gr k) g else 0) g) v := by rw [← ev]; rfl
                        refine g_lstore (pc' := 88) dX8_findTurn_86 (by decide) ?_
                        refine g_lload (pc' := 90) dX8_findTurn_88 rfl ?_
                        refine g_lload_n (pc' := 91) dX8_findTurn_90 rfl rfl ?_
                        refine g_lcmp (pc' := 92) dX8_findTurn_91 ?_
                        refine g_if_le (tgt := 100) (pc' := 95) dX8_findTurn_92 (by decide) (fun h7 => ?_) (fun h7 => ?_)
                        · rw [lg_le hv9 hmx] at h7
                          refine g_lload_n (pc' := 101) dX8_findTurn_100 rfl rfl ?_
                          refine g_lstore_n (pc' := 102) dX8_findTurn_101 rfl (by decide) ?_
                          first | refine g_iincN (z := 1) (pc' := 105) dX8_findTurn_102 rfl rfl (by decide) ?_ | refine g_iinc (pc' := 105) dX8_findTurn_102 rfl rfl (by decide) ?_
                          refine g_goto (tgt := 43) dX8_findTurn_105 (by decide) ?_
                          have := ih3 (g + 1) (.long (lN v)) uu (by omega)
                          rw [emx, Nat.max_eq_left h7] at this
                          exact this
                        · rw [lg_le hv9 hmx] at h7
                          refine g_lload (pc' := 97) dX8_findTurn_95 rfl ?_
                          refine g_goto (tgt := 101) dX8_findTurn_97 (by decide) ?_
                          refine g_lstore_n (pc' := 102) dX8_findTurn_101 rfl (by decide) ?_
                          first | refine g_iincN (z := 1) (pc' := 105) dX8_findTurn_102 rfl rfl (by decide) ?_ | refine g_iinc (pc' := 105) dX8_findTurn_102 rfl rfl (by decide) ?_
                          refine g_goto (tgt := 43) dX8_findTurn_105 (by decide) ?_
                          have := ih3 (g + 1) (.long (lN v)) uu (by omega)
                          rw [emx, Nat.max_eq_right (by omega)] at this
                          exact this
                      refine g_aload_n (pc' := 53) dX8_findTurn_52 rfl rfl ?_
                      refine g_iload (pc' := 55) dX8_findTurn_53 rfl ?_
                      refine g_iload_n (pc' := 56) dX8_findTurn_55 rfl rfl ?_
                      refine gc_V 59 47 [.int (nI g), .int (nI h)] [] cw_X8_103 im_X8_isPart se_X8_isPart dX8_findTurn_56 (by decide) (by decide) (Nat.le_refl _) (Nat.le_refl _) (Nat.le_of_ble_eq_true rfl) rfl (Nat.le_of_ble_eq_true rfl) (by omega) (by first | assumption | exact va_up_self _ _ _ | exact (va_up_ne _ _ (by decide)).trans (by assumption) | exact (va_up_ne _ _ (by decide)).trans (va_up_self _ _ _) | exact (va_up_ne _ _ (by decide)).trans ((va_up_ne _ _ (by decide)).trans (by assumption)) | exact (va_up_ne _ _ (by decide)).trans ((va_up_ne _ _ (by decide)).trans (va_up_self _ _ _)) | exact (va_up_ne _ _ (by decide)).trans ((va_up_ne _ _ (by decide)).trans ((va_up_ne _ _ (by decide)).trans (by assumption))) | exact (va_up_ne _ _ (by decide)).trans ((va_up_ne _ _ (by decide)).trans ((va_up_ne _ _ (by decide)).trans ((va_up_ne _ _ (by decide)).trans (by assumption))))) rfl rfl (c_isPart hn (by first | assumption | exact va_up_self _ _ _ | exact (va_up_ne _ _ (by decide)).trans (by assumption) | exact (va_up_ne _ _ (by decide)).trans (va_up_self _ _ _) | exact (va_up_ne _ _ (by decide)).trans ((va_up_ne _ _ (by decide)).trans (by assumption)) | exact (va_up_ne _ _ (by decide)).trans ((va_up_ne _ _ (by decide)).trans (va_up_self _ _ _)) | exact (va_up_ne _ _ (by decide)).trans ((va_up_ne _ _ (by decide)).trans ((va_up_ne _ _ (by decide)).trans (by assumption))) | exact (va_up_ne _ _ (by decide)).trans ((va_up_ne _ _ (by decide)).trans ((va_up_ne _ _ (by decide)).trans ((va_up_ne _ _ (by decide)).trans (by assumption))))) F (by first | assumption | exact va_up_self _ _ _ | exact (va_up_ne _ _ (by decide)).trans (by assumption) | exact (va_up_ne _ _ (by decide)).trans (va_up_self _ _ _) | exact (va_up_ne _ _ (by decide)).trans ((va_up_ne _ _ (by decide)).trans (by assumption)) | exact (va_up_ne _ _ (by decide)).trans ((va_up_ne _ _ (by decide)).trans (va_up_self _ _ _)) | exact (va_up_ne _ _ (by decide)).trans ((va_up_ne _ _ (by decide)).trans ((va_up_ne _ _ (by decide)).trans (by assumption))) | exact (va_up_ne _ _ (by decide)).trans ((va_up_ne _ _ (by decide)).trans ((va_up_ne _ _ (by decide)).trans ((va_up_ne _ _ (by decide)).trans (by assumption))))) (by omega) (by omega) (fun k hk => hsh g k (by omega) hk) (fun k hk => hsh h k (by omega) hk) ⟨rfl, ?_⟩)
                      refine g_if_eqN (tgt := 85) (pc' := 62) dX8_findTurn_59 (by decide) (by omega) (fun h6' => ?_) (fun h6' => ?_)
                      · refine g_lconst (pc' := 86) (v := lN 0) dX8_findTurn_85 (by decide) ?_
                        have ep : ptb S g h = false := by
                          cases hx : ptb S g h with
                          | false => rfl
                          | true => rw [hx] at h6'; exact absurd h6' (by decide)
                        exact fin 0 (by decide) (by rw [ep]; rfl) _ _
                      · have ep : ptb S g h = true := by
                          cases hx : ptb S g h with
                          | true => rfl
                          | false => rw [hx] at h6'; exact absurd rfl h6'
                        refine g_aload_n (pc' := 63) dX8_findTurn_62 rfl rfl ?_
                        refine g_get (pc' := 66) fl_X8_57 dX8_findTurn_63 (by omega) (by first | assumption | exact va_up_self _ _ _ | exact (va_up_ne _ _ (by decide)).trans (by assumption) | exact (va_up_ne _ _ (by decide)).trans (va_up_self _ _ _) | exact (va_up_ne _ _ (by decide)).trans ((va_up_ne _ _ (by decide)).trans (by assumption)) | exact (va_up_ne _ _ (by decide)).trans ((va_up_ne _ _ (by decide)).trans (va_up_self _ _ _)) | exact (va_up_ne _ _ (by decide)).trans ((va_up_ne _ _ (by decide)).trans ((va_up_ne _ _ (by decide)).trans (by assumption))) | exact (va_up_ne _ _ (by decide)).trans ((va_up_ne _ _ (by decide)).trans ((va_up_ne _ _ (by decide)).trans ((va_up_ne _ _ (by decide)).trans (by assumption))))) (by first | assumption | rfl | exact (List.getElem?_set_ne (by decide)).trans (by assumption) | exact List.getElem?_set_self (by omega)) ?_
                        refine g_iload (pc' := 68) dX8_findTurn_66 rfl ?_
                        refine g_laldV (pc' := 69) dX8_findTurn_68 (by omega) (by first | assumption | exact va_up_self _ _ _ | exact (va_up_ne _ _ (by decide)).trans (by assumption) | exact (va_up_ne _ _ (by decide)).trans (va_up_self _ _ _) | exact (va_up_ne _ _ (by decide)).trans ((va_up_ne _ _ (by decide)).trans (by assumption)) | exact (va_up_ne _ _ (by decide)).trans ((va_up_ne _ _ (by decide)).trans (va_up_self _ _ _)) | exact (va_up_ne _ _ (by decide)).trans ((va_up_ne _ _ (by decide)).trans ((va_up_ne _ _ (by decide)).trans (by assumption))) | exact (va_up_ne _ _ (by decide)).trans ((va_up_ne _ _ (by decide)).trans ((va_up_ne _ _ (by decide)).trans ((va_up_ne _ _ (by decide)).trans (by assumption))))) ((IX_nI (by omega) (by omega))) (hft' _ (by omega)) ?_
                        refine g_aload_n (pc' := 70) dX8_findTurn_69 rfl rfl ?_
                        refine g_get (pc' := 73) fl_X8_47 dX8_findTurn_70 (by omega) (by first | assumption | exact va_up_self _ _ _ | exact (va_up_ne _ _ (by decide)).trans (by assumption) | exact (va_up_ne _ _ (by decide)).trans (va_up_self _ _ _) | exact (va_up_ne _ _ (by decide)).trans ((va_up_ne _ _ (by decide)).trans (by assumption)) | exact (va_up_ne _ _ (by decide)).trans ((va_up_ne _ _ (by decide)).trans (va_up_self _ _ _)) | exact (va_up_ne _ _ (by decide)).trans ((va_up_ne _ _ (by decide)).trans ((va_up_ne _ _ (by decide)).trans (by assumption))) | exact (va_up_ne _ _ (by decide)).trans ((va_up_ne _ _ (by decide)).trans ((va_up_ne _ _ (by decide)).trans ((va_up_ne _ _ (by decide)).trans (by assumption))))) (by first | assumption | rfl | exact (List.getElem?_set_ne (by decide)).trans (by assumption) | exact List.getElem?_set_self (by omega)) ?_
                        refine g_aload_n (pc' := 74) dX8_findTurn_73 rfl rfl ?_
                        refine g_get (pc' := 77) fl_X8_32 dX8_findTurn_74 (by omega) (by first | assumption | exact va_up_self _ _ _ | exact (va_up_ne _ _ (by decide)).trans (by assumption) | exact (va_up_ne _ _ (by decide)).trans (va_up_self _ _ _) | exact (va_up_ne _ _ (by decide)).trans ((va_up_ne _ _ (by decide)).trans (by assumption)) | exact (va_up_ne _ _ (by decide)).trans ((va_up_ne _ _ (by decide)).trans (va_up_self _ _ _)) | exact (va_up_ne _ _ (by decide)).trans ((va_up_ne _ _ (by decide)).trans ((va_up_ne _ _ (by decide)).trans (by assumption))) | exact (va_up_ne _ _ (by decide)).trans ((va_up_ne _ _ (by decide)).trans ((va_up_ne _ _ (by decide)).trans ((va_up_ne _ _ (by decide)).trans (by assumption))))) (by first | assumption | rfl | exact (List.getElem?_set_ne (by decide)).trans (by assumption) | exact List.getElem?_set_self (by omega)) ?_
                        refine g_iload (pc' := 79) dX8_findTurn_77 rfl ?_
                        refine g_ialdV (pc' := 80) dX8_findTurn_79 (by omega) (by first | assumption | exact va_up_self _ _ _ | exact (va_up_ne _ _ (by decide)).trans (by assumption) | exact (va_up_ne _ _ (by decide)).trans (va_up_self _ _ _) | exact (va_up_ne _ _ (by decide)).trans ((va_up_ne _ _ (by decide)).trans (by assumption)) | exact (va_up_ne _ _ (by decide)).trans ((va_up_ne _ _ (by decide)).trans (va_up_self _ _ _)) | exact (va_up_ne _ _ (by decide)).trans ((va_up_ne _ _ (by decide)).trans ((va_up_ne _ _ (by decide)).trans (by assumption))) | exact (va_up_ne _ _ (by decide)).trans ((va_up_ne _ _ (by decide)).trans ((va_up_ne _ _ (by decide)).trans ((va_up_ne _ _ (by decide)).trans (by assumption))))) ((IX_nI (by omega) (by omega))) (hz _ (by omega)) ?_
                        refine g_laldV (pc' := 81) dX8_findTurn_80 (by omega) (by first | assumption | exact va_up_self _ _ _ | exact (va_up_ne _ _ (by decide)).trans (by assumption) | exact (va_up_ne _ _ (by decide)).trans (va_up_self _ _ _) | exact (va_up_ne _ _ (by decide)).trans ((va_up_ne _ _ (by decide)).trans (by assumption)) | exact (va_up_ne _ _ (by decide)).trans ((va_up_ne _ _ (by decide)).trans (va_up_self _ _ _)) | exact (va_up_ne _ _ (by decide)).trans ((va_up_ne _ _ (by decide)).trans ((va_up_ne _ _ (by decide)).trans (by assumption))) | exact (va_up_ne _ _ (by decide)).trans ((va_up_ne _ _ (by decide)).trans ((va_up_ne _ _ (by decide)).trans ((va_up_ne _ _ (by decide)).trans (by assumption))))) ((IX_nI (by omega) (by omega))) (hpw _ (by omega)) ?_
                        first | refine g_lmulN (pc' := 82) dX8_findTurn_81 ?_ | refine g_lmul (pc' := 82) dX8_findTurn_81 ?_
                        refine g_goto (tgt := 86) dX8_findTurn_82 (by decide) ?_
                        exact fin _ hhg (by rw [ep]; rfl) _ _
                exact inner (nh S D) 0 _ _ (by omega)
        exact mid (nh S D) 0 fv _ _ _ _ _ (by omega) hfv (fun h' q => absurd q (Nat.not_lt_zero _))
  obtain ⟨t, ht⟩ : ∃ t, T = t + 1 := ⟨T - 1, by omega⟩
  exact loop t 0 fv ft _ _ _ _ _ _ (by omega) (fun i h hi hh hz => by
    have e : i = 0 := by omega
    subst e
    rw [Nat.mul_zero, Nat.zero_add]
    exact hval h hh hz)
end
section
theorem set_id {fs : List Value} {k : Nat} {v : Value} (h : fs[k]? = some v) : fs.set k v = fs := by
  apply List.ext_getElem?
  intro i
  have hk : k < fs.length := (List.getElem?_eq_some_iff.mp h).1
  rw [List.getElem?_set]
  by_cases e : k = i
  · subst e
    rw [if_pos rfl, if_pos hk, h]
  · rw [if_neg e]
/-- the first of the places below i, of those with p, that has the greatest f -/
def argF (p : Nat → Bool) (f : Nat → Nat) : Nat → Option Nat
  | 0 => none
  | i + 1 => match argF p f i with
    | none => if p i then some i else none
    | some j => if p i && decide (f j < f i) then some i else some j
theorem argF_spec (p : Nat → Bool) (f : Nat → Nat) : ∀ i, match argF p f i with
    | none => (∀ r, r < i → p r = false) ∧ mxF (fun r => if p r then f r else 0) i = 0
    | some j => j < i ∧ p j = true ∧ mxF (fun r => if p r then f r else 0) i = f j
  | 0 => ⟨fun r h => absurd h (Nat.not_lt_zero r), rfl⟩
  | i + 1 => by
    have ih := argF_spec p f i
    unfold argF
    cases ha : argF p f i with
    | none =>
      rw [ha] at ih
      simp only at ih ⊢
      cases hp : p i with
      | false =>
        simp only [Bool.false_eq_true, if_false]
        refine ⟨fun r hr => ?_, ?_⟩
        · rcases Nat.lt_or_ge r i with q | q
          · exact ih.1 r q
          · have e : r = i := by omega
            subst e; exact hp
        · show max (mxF _ i) (if p i then f i else 0) = 0
          rw [ih.2, hp]; rfl
      | true =>
        simp only [if_true]
        refine ⟨Nat.lt_succ_self i, hp, ?_⟩
        show max (mxF _ i) (if p i then f i else 0) = f i
        rw [ih.2, hp]
        simp
    | some j =>
      rw [ha] at ih
      simp only at ih ⊢
      obtain ⟨h1, h2, h3⟩ := ih
      cases hp : p i with
      | false =>
        simp only [Bool.false_and, Bool.false_eq_true, if_false]
        refine ⟨by omega, h2, ?_⟩
        show max (mxF _ i) (if p i then f i else 0) = f j
        rw [h3, hp]
        simp
      | true =>
        by_cases hl : f j < f i
        · simp only [hl, decide_true, Bool.and_self, if_true]
          refine ⟨Nat.lt_succ_self i, hp, ?_⟩
          show max (mxF _ i) (if p i then f i else 0) = f i
          rw [h3, hp]
          simp only [if_true]
          omega
        · simp only [hl, decide_false, Bool.and_false, Bool.false_eq_true, if_false]
          refine ⟨by omega, h2, ?_⟩
          show max (mxF _ i) (if p i then f i else 0) = f j
          rw [h3, hp]
          simp only [if_true]
          omega
theorem opn_pos {s : Nat} : ∀ {R : Nat}, 1 ≤ opn s R → ∃ r, r < R ∧ bt0 s r = true
  | 0, h => absurd (show 1 ≤ 0 from h) (by decide)
  | R + 1, h => by
    unfold opn at h
    cases hb : bt0 s R with
    | true => exact ⟨R, Nat.lt_succ_self R, hb⟩
    | false =>
      rw [hb] at h
      obtain ⟨r, h1, h2⟩ := opn_pos (s := s) (R := R) (by simpa using h)
      exact ⟨r, by omega, h2⟩
theorem or_lt {s r : Nat} (hs : s < 256) (hr : r < 8) : s ||| 2 ^ r < 256 := Nat.or_lt_two_pow (n := 8) hs (Nat.pow_lt_pow_right (by decide) hr)
/-- points in a row and what is behind it -/
def gw (P : Nat → Nat → Nat) (U : Nat) (Wt : Nat → Nat) (s h r : Nat) : Nat := P r h * U + Wt (s ||| 2 ^ r)
def bestL : Option Nat → (Nat → Nat) → Int64
  | none, _ => -1
  | some j, f => lN (f j)
theorem lg_m1 {a : Nat} (ha : a < 2 ^ 63) : ¬ lg_cmp (lN a) (-1) ≤ 0 := by
  rw [lg_cmp_le]
  intro h
  have h1 := Int64.le_iff_toInt_le.mp h
  rw [pk_lT ha] at h1
  have : (-1 : Int64).toInt = -1 := by decide
  omega
theorem c_bestRowOf {hp : AH} {n D S T R b s h : Nat} {fs : List Value} {x0 : Int32} {fpt : Nat → Int32} {fw : Nat → Int64} {P : Nat → Nat → Nat} {Wt : Nat → Nat} {Q : Option Value → AH → Nat → Prop} (hn : 64 ≤ n) (c47 : hp 47 = ob 8 fs) (F : MF fs D S T R) (hT3 : T ≤ 3) (hR : R ≤ 8) (hs : s < 256) (hop : 1 ≤ opn s R) (f23 : fs[23]? = some (.long (lN b))) (f31 : fs[31]? = some (.int x0)) (c55 : hp 55 = aI 3696 fpt) (c58 : hp 58 = aJ 256 fw) (hh : h < 462) (hpt : ∀ r, r < R → fpt (8 * h + r) = nI (P r h)) (hP : ∀ r, r < R → P r h < 2 ^ 31) (hw : ∀ r, r < R → bt0 s r = true → fw (s ||| 2 ^ r) = lN (Wt (s ||| 2 ^ r))) (hB : ∀ r, r < R → bt0 s r = true → gw P (b ^ (T * (opn s R - 1))) Wt s h r < 2 ^ 63)
    (hq : ∀ j, argF (bt0 s) (gw P (b ^ (T * (opn s R - 1))) Wt s h) R = some j → Q (some (.long (lN (gw P (b ^ (T * (opn s R - 1))) Wt s h j)))) (va_up hp 47 (ob 8 (fs.set 31 (.int (nI j))))) n) : CT yX8_bestRowOf cX8_bestRowOf 10 (some .long) (rmD 2) [.ref 47, .int (nI h), .int (nI s)] hp n Q := by
  have F' := F
  obtain ⟨f99, f0, f1, f2, f3, f4, f5, f6, f9, f10, f11, f12, f13, f16, f24, f25, f26, f27, f28, f29, f30⟩ := F'
  have hol := opn_le s R
  show G yX8_bestRowOf cX8_bestRowOf 10 (some .long) (rmD 2) none Q 0 0 0 [.ref 47, .int (nI h), .int (nI s), uu, uu, uu, uu, uu, uu, uu] [] hp n
  refine g_aload_n (pc' := 1) dX8_bestRowOf_0 rfl rfl ?_
  refine g_aload_n (pc' := 2) dX8_bestRowOf_1 rfl rfl ?_
  refine g_iload_n (pc' := 3) dX8_bestRowOf_2 rfl rfl ?_
  refine gc_V 6 47 [.int (nI s)] [.ref 47] cw_X8_107 im_X8_open se_X8_open dX8_bestRowOf_3 (by decide) (by decide) (Nat.le_refl _) (Nat.le_refl _) (Nat.le_of_ble_eq_true rfl) rfl (Nat.le_of_ble_eq_true rfl) (by omega) (by first | assumption | exact va_up_self _ _ _ | exact (va_up_ne _ _ (by decide)).trans (by assumption) | exact (va_up_ne _ _ (by decide)).trans (va_up_self _ _ _) | exact (va_up_ne _ _ (by decide)).trans ((va_up_ne _ _ (by decide)).trans (by assumption)) | exact (va_up_ne _ _ (by decide)).trans ((va_up_ne _ _ (by decide)).trans (va_up_self _ _ _)) | exact (va_up_ne _ _ (by decide)).trans ((va_up_ne _ _ (by decide)).trans ((va_up_ne _ _ (by decide)).trans (by assumption))) | exact (va_up_ne _ _ (by decide)).trans ((va_up_ne _ _ (by decide)).trans ((va_up_ne _ _ (by decide)).trans ((va_up_ne _ _ (by decide)).trans (by assumption))))) rfl rfl (c_open hn c47 f3 hR hs ⟨rfl, ?_⟩)
  refine g_iconst (pc' := 7) (v := nI 1) dX8_bestRowOf_6 (by decide) ?_
  first | refine g_isubN (pc' := 8) dX8_bestRowOf_7 (by omega) ?_ | refine g_isub (pc' := 8) dX8_bestRowOf_7 ?_
  refine gc_V 11 47 [.int (nI (opn s R - 1))] [] cw_X8_111 im_X8_unitOf se_X8_unitOf dX8_bestRowOf_8 (by decide) (by decide) (Nat.le_refl _) (Nat.le_refl _) (Nat.le_of_ble_eq_true rfl) rfl (Nat.le_of_ble_eq_true rfl) (by omega) (by first | assumption | exact va_up_self _ _ _ | exact (va_up_ne _ _ (by decide)).trans (by assumption) | exact (va_up_ne _ _ (by decide)).trans (va_up_self _ _ _) | exact (va_up_ne _ _ (by decide)).trans ((va_up_ne _ _ (by decide)).trans (by assumption)) | exact (va_up_ne _ _ (by decide)).trans ((va_up_ne _ _ (by decide)).trans (va_up_self _ _ _)) | exact (va_up_ne _ _ (by decide)).trans ((va_up_ne _ _ (by decide)).trans ((va_up_ne _ _ (by decide)).trans (by assumption))) | exact (va_up_ne _ _ (by decide)).trans ((va_up_ne _ _ (by decide)).trans ((va_up_ne _ _ (by decide)).trans ((va_up_ne _ _ (by decide)).trans (by assumption))))) rfl rfl (c_unitOf hn c47 F hT3 (by omega) f23 ⟨rfl, ?_⟩)
  generalize hU : b ^ (T * (opn s R - 1)) = U at hq hB
  refine g_lstore_n (pc' := 12) dX8_bestRowOf_11 rfl (by decide) ?_
  refine g_ldc2 (pc' := 15) dX8_bestRowOf_12 kl_X8_115 ?_
  refine g_lstore (pc' := 17) dX8_bestRowOf_15 (by decide) ?_
  refine g_iconst (pc' := 18) (v := nI 0) dX8_bestRowOf_17 (by decide) ?_
  refine g_istore (pc' := 20) dX8_bestRowOf_18 (by decide) ?_
  have e0 : fs.set 31 (.int x0) = fs := set_id f31
  have loop : ∀ k i x w8 w9, i + k = R → (∀ j, argF (bt0 s) (gw P U Wt s h) i = some j → x = nI j) → G yX8_bestRowOf cX8_bestRowOf 10 (some .long) (rmD 2) none Q 0 0 20 [.ref 47, .int (nI h), .int (nI s), .long (lN U), uu, .long (bestL (argF (bt0 s) (gw P U Wt s h) i) (gw P U Wt s h)), uu, .int (nI i), w8, w9] [] (va_up hp 47 (ob 8 (fs.set 31 (.int x)))) n := by
    intro k
    induction k with
    | zero =>
      intro i x w8 w9 hi hx
      have hi' : i = R := by omega
      subst hi'
      have sp := argF_spec (bt0 s) (gw P U Wt s h) i
      refine g_iload (pc' := 22) dX8_bestRowOf_20 rfl ?_
      refine g_aload_n (pc' := 23) dX8_bestRowOf_22 rfl rfl ?_
      refine g_get (pc' := 26) fl_X8_86 dX8_bestRowOf_23 (by omega) (by first | assumption | exact va_up_self _ _ _ | exact (va_up_ne _ _ (by decide)).trans (by assumption) | exact (va_up_ne _ _ (by decide)).trans (va_up_self _ _ _) | exact (va_up_ne _ _ (by decide)).trans ((va_up_ne _ _ (by decide)).trans (by assumption)) | exact (va_up_ne _ _ (by decide)).trans ((va_up_ne _ _ (by decide)).trans (va_up_self _ _ _)) | exact (va_up_ne _ _ (by decide)).trans ((va_up_ne _ _ (by decide)).trans ((va_up_ne _ _ (by decide)).trans (by assumption))) | exact (va_up_ne _ _ (by decide)).trans ((va_up_ne _ _ (by decide)).trans ((va_up_ne _ _ (by decide)).trans ((va_up_ne _ _ (by decide)).trans (by assumption))))) (by first | assumption | rfl | exact (List.getElem?_set_ne (by decide)).trans (by assumption) | exact List.getElem?_set_self (by omega)) ?_
      refine g_icmp_geN (tgt := 111) (pc' := 29) dX8_bestRowOf_26 (by decide) (by omega) (by omega) (fun h1 => ?_) (fun h1 => ?_)
      · refine g_lload (pc' := 113) dX8_bestRowOf_111 rfl ?_
        cases ha : argF (bt0 s) (gw P U Wt s h) i with
        | none =>
          rw [ha] at sp
          obtain ⟨r, hr1, hr2⟩ := opn_pos hop
          exact absurd (sp.1 r hr1) (by rw [hr2]; decide)
        | some j =>
          rw [hx j ha]
          exact g_lret dX8_bestRowOf_113 rfl (Nat.le_refl _) (Nat.le_refl _) (hq j ha)
      · omega
    | succ k ih =>
      intro i x w8 w9 hi hx
      have sp := argF_spec (bt0 s) (gw P U Wt s h) i
      refine g_iload (pc' := 22) dX8_bestRowOf_20 rfl ?_
      refine g_aload_n (pc' := 23) dX8_bestRowOf_22 rfl rfl ?_
      refine g_get (pc' := 26) fl_X8_86 dX8_bestRowOf_23 (by omega) (by first | assumption | exact va_up_self _ _ _ | exact (va_up_ne _ _ (by decide)).trans (by assumption) | exact (va_up_ne _ _ (by decide)).trans (va_up_self _ _ _) | exact (va_up_ne _ _ (by decide)).trans ((va_up_ne _ _ (by decide)).trans (by assumption)) | exact (va_up_ne _ _ (by decide)).trans ((va_up_ne _ _ (by decide)).trans (va_up_self _ _ _)) | exact (va_up_ne _ _ (by decide)).trans ((va_up_ne _ _ (by decide)).trans ((va_up_ne _ _ (by decide)).trans (by assumption))) | exact (va_up_ne _ _ (by decide)).trans ((va_up_ne _ _ (by decide)).trans ((va_up_ne _ _ (by decide)).trans ((va_up_ne _ _ (by decide)).trans (by assumption))))) (by first | assumption | rfl | exact (List.getElem?_set_ne (by decide)).trans (by assumption) | exact List.getElem?_set_self (by omega)) ?_
      refine g_icmp_geN (tgt := 111) (pc' := 29) dX8_bestRowOf_26 (by decide) (by omega) (by omega) (fun h1 => ?_) (fun h1 => ?_)
      · omega
      · refine g_iload_n (pc' := 30) dX8_bestRowOf_29 rfl rfl ?_
        refine g_iload (pc' := 32) dX8_bestRowOf_30 rfl ?_
        refine g_ishr (pc' := 33) dX8_bestRowOf_32 ?_
        refine g_iconst (pc' := 34) (v := nI 1) dX8_bestRowOf_33 (by decide) ?_
        refine g_iand (pc' := 35) dX8_bestRowOf_34 ?_
        rw [sh_b (by omega) (by omega)]
        have hm2 : s / 2 ^ i % 2 < 2 := Nat.mod_lt _ (by decide)
        refine g_if_neN (tgt := 105) (pc' := 38) dX8_bestRowOf_35 (by decide) (by omega) (fun h3 => ?_) (fun h3 => ?_)
        · first | refine g_iincN (z := 1) (pc' := 108) dX8_bestRowOf_105 rfl rfl (by decide) ?_ | refine g_iinc (pc' := 108) dX8_bestRowOf_105 rfl rfl (by decide) ?_
          refine g_goto (tgt := 20) dX8_bestRowOf_108 (by decide) ?_
          have hb0 : bt0 s i = false := by simp [bt0, h3]
          have e1 : argF (bt0 s) (gw P U Wt s h) (i + 1) = argF (bt0 s) (gw P U Wt s h) i := by
            show (match argF (bt0 s) (gw P U Wt s h) i with | none => if bt0 s i then some i else none | some j => if bt0 s i && decide (gw P U Wt s h j < gw P U Wt s h i) then some i else some j) = _
            rw [hb0]
            cases argF (bt0 s) (gw P U Wt s h) i <;> rfl
          have := ih (i + 1) x w8 w9 (by omega) (by rw [e1]; exact hx)
          rw [e1] at this
          exact this
        · have hb0 : bt0 s i = true := by simp [bt0, h3]
          have hPi := hP i (by omega)
          refine g_aload_n (pc' := 39) dX8_bestRowOf_38 rfl rfl ?_
          refine g_get (pc' := 42) fl_X8_41 dX8_bestRowOf_39 (by omega) (by first | assumption | exact va_up_self _ _ _ | exact (va_up_ne _ _ (by decide)).trans (by assumption) | exact (va_up_ne _ _ (by decide)).trans (va_up_self _ _ _) | exact (va_up_ne _ _ (by decide)).trans ((va_up_ne _ _ (by decide)).trans (by assumption)) | exact (va_up_ne _ _ (by decide)).trans ((va_up_ne _ _ (by decide)).trans (va_up_self _ _ _)) | exact (va_up_ne _ _ (by decide)).trans ((va_up_ne _ _ (by decide)).trans ((va_up_ne _ _ (by decide)).trans (by assumption))) | exact (va_up_ne _ _ (by decide)).trans ((va_up_ne _ _ (by decide)).trans ((va_up_ne _ _ (by decide)).trans ((va_up_ne _ _ (by decide)).trans (by assumption))))) (by first | assumption | rfl | exact (List.getElem?_set_ne (by decide)).trans (by assumption) | exact List.getElem?_set_self (by omega)) ?_
          refine g_bipush (pc' := 44) (v := nI 8) dX8_bestRowOf_42 (by decide) ?_
          refine g_iload_n (pc' := 45) dX8_bestRowOf_44 rfl rfl ?_
          first | refine g_imulN (pc' := 46) dX8_bestRowOf_45 ?_ | refine g_imul (pc' := 46) dX8_bestRowOf_45 ?_
          refine g_iload (pc' := 48) dX8_bestRowOf_46 rfl ?_
          first | refine g_iaddN (pc' := 49) dX8_bestRowOf_48 ?_ | refine g_iadd (pc' := 49) dX8_bestRowOf_48 ?_
          refine g_ialdV (pc' := 50) dX8_bestRowOf_49 (by omega) (by first | assumption | exact va_up_self _ _ _ | exact (va_up_ne _ _ (by decide)).trans (by assumption) | exact (va_up_ne _ _ (by decide)).trans (va_up_self _ _ _) | exact (va_up_ne _ _ (by decide)).trans ((va_up_ne _ _ (by decide)).trans (by assumption)) | exact (va_up_ne _ _ (by decide)).trans ((va_up_ne _ _ (by decide)).trans (va_up_self _ _ _)) | exact (va_up_ne _ _ (by decide)).trans ((va_up_ne _ _ (by decide)).trans ((va_up_ne _ _ (by decide)).trans (by assumption))) | exact (va_up_ne _ _ (by decide)).trans ((va_up_ne _ _ (by decide)).trans ((va_up_ne _ _ (by decide)).trans ((va_up_ne _ _ (by decide)).trans (by assumption))))) ((IX_nI (by omega) (by omega))) (hpt _ (by omega)) ?_
          first | refine g_i2lN (pc' := 51) dX8_bestRowOf_50 (by omega) ?_ | refine g_i2l (pc' := 51) dX8_bestRowOf_50 ?_
          refine g_lload_n (pc' := 52) dX8_bestRowOf_51 rfl rfl ?_
          first | refine g_lmulN (pc' := 53) dX8_bestRowOf_52 ?_ | refine g_lmul (pc' := 53) dX8_bestRowOf_52 ?_
          refine g_aload_n (pc' := 54) dX8_bestRowOf_53 rfl rfl ?_
          refine g_get (pc' := 57) fl_X8_51 dX8_bestRowOf_54 (by omega) (by first | assumption | exact va_up_self _ _ _ | exact (va_up_ne _ _ (by decide)).trans (by assumption) | exact (va_up_ne _ _ (by decide)).trans (va_up_self _ _ _) | exact (va_up_ne _ _ (by decide)).trans ((va_up_ne _ _ (by decide)).trans (by assumption)) | exact (va_up_ne _ _ (by decide)).trans ((va_up_ne _ _ (by decide)).trans (va_up_self _ _ _)) | exact (va_up_ne _ _ (by decide)).trans ((va_up_ne _ _ (by decide)).trans ((va_up_ne _ _ (by decide)).trans (by assumption))) | exact (va_up_ne _ _ (by decide)).trans ((va_up_ne _ _ (by decide)).trans ((va_up_ne _ _ (by decide)).trans ((va_up_ne _ _ (by decide)).trans (by assumption))))) (by first | assumption | rfl | exact (List.getElem?_set_ne (by decide)).trans (by assumption) | exact List.getElem?_set_self (by omega)) ?_
          refine g_iload_n (pc' := 58) dX8_bestRowOf_57 rfl rfl ?_
          refine g_iconst (pc' := 59) (v := nI 1) dX8_bestRowOf_58 (by decide) ?_
          refine g_iload (pc' := 61) dX8_bestRowOf_59 rfl ?_
          refine g_ishl (pc' := 62) dX8_bestRowOf_61 ?_
          rw [sh_l (by omega) (by rw [Nat.one_mul]; exact Nat.lt_trans (Nat.pow_lt_pow_right (by decide) (show i < 8 by omega)) (by decide)), Nat.one_mul]
          refine g_ior (pc' := 63) dX8_bestRowOf_62 ?_
          rw [or_n]
          have hol2 := or_lt hs (show i < 8 by omega)
          refine g_laldV (pc' := 64) dX8_bestRowOf_63 (by omega) (by first | assumption | exact va_up_self _ _ _ | exact (va_up_ne _ _ (by decide)).trans (by assumption) | exact (va_up_ne _ _ (by decide)).trans (va_up_self _ _ _) | exact (va_up_ne _ _ (by decide)).trans ((va_up_ne _ _ (by decide)).trans (by assumption)) | exact (va_up_ne _ _ (by decide)).trans ((va_up_ne _ _ (by decide)).trans (va_up_self _ _ _)) | exact (va_up_ne _ _ (by decide)).trans ((va_up_ne _ _ (by decide)).trans ((va_up_ne _ _ (by decide)).trans (by assumption))) | exact (va_up_ne _ _ (by decide)).trans ((va_up_ne _ _ (by decide)).trans ((va_up_ne _ _ (by decide)).trans ((va_up_ne _ _ (by decide)).trans (by assumption))))) (IX_nI hol2 (by decide)) (hw _ (by omega) hb0) ?_
          first | refine g_laddN (pc' := 65) dX8_bestRowOf_64 ?_ | refine g_ladd (pc' := 65) dX8_bestRowOf_64 ?_
          refine g_lstore (pc' := 67) dX8_bestRowOf_65 (by decide) ?_
          refine g_aload_n (pc' := 68) dX8_bestRowOf_67 rfl rfl ?_
          refine g_lload (pc' := 70) dX8_bestRowOf_68 rfl ?_
          refine g_lload (pc' := 72) dX8_bestRowOf_70 rfl ?_
          have hBi := hB i (by omega) hb0
          have ev : P i h * U + Wt (s ||| 2 ^ i) = gw P U Wt s h i := rfl
          rw [ev]
          refine g_lcmp (pc' := 73) dX8_bestRowOf_72 ?_
          have hdec : lg_cmp (lN (gw P U Wt s h i)) (bestL (argF (bt0 s) (gw P U Wt s h) i) (gw P U Wt s h)) ≤ 0 ↔ argF (bt0 s) (gw P U Wt s h) (i + 1) = argF (bt0 s) (gw P U Wt s h) i := by
            show _ ↔ (match argF (bt0 s) (gw P U Wt s h) i with | none => if bt0 s i then some i else none | some j => if bt0 s i && decide (gw P U Wt s h j < gw P U Wt s h i) then some i else some j) = _
            rw [hb0]
            cases ha : argF (bt0 s) (gw P U Wt s h) i with
            | none =>
              simp only [bestL, if_true]
              exact ⟨fun q => absurd q (lg_m1 hBi), fun q => by cases q⟩
            | some j =>
              rw [ha] at sp
              have hBj := hB j (by omega) sp.2.1
              simp only [bestL, Bool.true_and]
              rw [lg_le hBi hBj]
              by_cases hl : gw P U Wt s h j < gw P U Wt s h i
              · simp only [hl, decide_true, if_true]
                constructor
                · intro q; omega
                · intro q
                  have : i = j := Option.some.inj q
                  omega
              · simp only [hl, decide_false, Bool.false_eq_true, if_false]
                exact ⟨fun _ => trivial, fun _ => by omega⟩
          have hnew : ¬ argF (bt0 s) (gw P U Wt s h) (i + 1) = argF (bt0 s) (gw P U Wt s h) i → argF (bt0 s) (gw P U Wt s h) (i + 1) = some i := by
            show ¬ (match argF (bt0 s) (gw P U Wt s h) i with | none => if bt0 s i then some i else none | some j => if bt0 s i && decide (gw P U Wt s h j < gw P U Wt s h i) then some i else some j) = _ → (match argF (bt0 s) (gw P U Wt s h) i with | none => if bt0 s i then some i else none | some j => if bt0 s i && decide (gw P U Wt s h j < gw P U Wt s h i) then some i else some j) = some i
            rw [hb0]
            cases ha : argF (bt0 s) (gw P U Wt s h) i with
            | none => intro _; rfl
            | some j =>
              simp only [Bool.true_and]
              by_cases hl : gw P U Wt s h j < gw P U Wt s h i
              · simp [hl]
              · simp [hl]
          refine g_if_le (tgt := 81) (pc' := 76) dX8_bestRowOf_73 (by decide) (fun h7 => ?_) (fun h7 => ?_)
          · have h8 := hdec.mp h7
            refine g_aload_n (pc' := 82) dX8_bestRowOf_81 rfl rfl ?_
            refine g_get (pc' := 85) fl_X8_117 dX8_bestRowOf_82 (by omega) (by first | assumption | exact va_up_self _ _ _ | exact (va_up_ne _ _ (by decide)).trans (by assumption) | exact (va_up_ne _ _ (by decide)).trans (va_up_self _ _ _) | exact (va_up_ne _ _ (by decide)).trans ((va_up_ne _ _ (by decide)).trans (by assumption)) | exact (va_up_ne _ _ (by decide)).trans ((va_up_ne _ _ (by decide)).trans (va_up_self _ _ _)) | exact (va_up_ne _ _ (by decide)).trans ((va_up_ne _ _ (by decide)).trans ((va_up_ne _ _ (by decide)).trans (by assumption))) | exact (va_up_ne _ _ (by decide)).trans ((va_up_ne _ _ (by decide)).trans ((va_up_ne _ _ (by decide)).trans ((va_up_ne _ _ (by decide)).trans (by assumption))))) (by first | assumption | rfl | exact (List.getElem?_set_ne (by decide)).trans (by assumption) | exact List.getElem?_set_self (by omega)) ?_
            refine g_put (pc' := 88) fl_X8_117 ft_8_31 dX8_bestRowOf_85 (by omega) (by first | assumption | exact va_up_self _ _ _ | exact (va_up_ne _ _ (by decide)).trans (by assumption) | exact (va_up_ne _ _ (by decide)).trans (va_up_self _ _ _) | exact (va_up_ne _ _ (by decide)).trans ((va_up_ne _ _ (by decide)).trans (by assumption)) | exact (va_up_ne _ _ (by decide)).trans ((va_up_ne _ _ (by decide)).trans (va_up_self _ _ _)) | exact (va_up_ne _ _ (by decide)).trans ((va_up_ne _ _ (by decide)).trans ((va_up_ne _ _ (by decide)).trans (by assumption))) | exact (va_up_ne _ _ (by decide)).trans ((va_up_ne _ _ (by decide)).trans ((va_up_ne _ _ (by decide)).trans ((va_up_ne _ _ (by decide)).trans (by assumption))))) (by first | exact Nat.le_of_ble_eq_true rfl | (simp only [List.length_set]; omega)) rfl rfl ?_
            rw [up_up, List.set_set]
            refine g_lload (pc' := 90) dX8_bestRowOf_88 rfl ?_
            refine g_lload (pc' := 92) dX8_bestRowOf_90 rfl ?_
            refine g_lcmp (pc' := 93) dX8_bestRowOf_92 ?_
            refine g_if_le (tgt := 101) (pc' := 96) dX8_bestRowOf_93 (by decide) (fun h9 => ?_) (fun h9 => ?_)
            · refine g_lload (pc' := 103) dX8_bestRowOf_101 rfl ?_
              refine g_lstore (pc' := 105) dX8_bestRowOf_103 (by decide) ?_
              first | refine g_iincN (z := 1) (pc' := 108) dX8_bestRowOf_105 rfl rfl (by decide) ?_ | refine g_iinc (pc' := 108) dX8_bestRowOf_105 rfl rfl (by decide) ?_
              refine g_goto (tgt := 20) dX8_bestRowOf_108 (by decide) ?_
              have := ih (i + 1) x (.long (lN (gw P U Wt s h i))) uu (by omega) (by rw [h8]; exact hx)
              rw [h8] at this
              exact this
            · exact absurd h7 h9
          · have h8 := hnew (fun q => h7 (hdec.mpr q))
            refine g_iload (pc' := 78) dX8_bestRowOf_76 rfl ?_
            refine g_goto (tgt := 85) dX8_bestRowOf_78 (by decide) ?_
            refine g_put (pc' := 88) fl_X8_117 ft_8_31 dX8_bestRowOf_85 (by omega) (by first | assumption | exact va_up_self _ _ _ | exact (va_up_ne _ _ (by decide)).trans (by assumption) | exact (va_up_ne _ _ (by decide)).trans (va_up_self _ _ _) | exact (va_up_ne _ _ (by decide)).trans ((va_up_ne _ _ (by decide)).trans (by assumption)) | exact (va_up_ne _ _ (by decide)).trans ((va_up_ne _ _ (by decide)).trans (va_up_self _ _ _)) | exact (va_up_ne _ _ (by decide)).trans ((va_up_ne _ _ (by decide)).trans ((va_up_ne _ _ (by decide)).trans (by assumption))) | exact (va_up_ne _ _ (by decide)).trans ((va_up_ne _ _ (by decide)).trans ((va_up_ne _ _ (by decide)).trans ((va_up_ne _ _ (by decide)).trans (by assumption))))) (by first | exact Nat.le_of_ble_eq_true rfl | (simp only [List.length_set]; omega)) rfl rfl ?_
            rw [up_up, List.set_set]
            refine g_lload (pc' := 90) dX8_bestRowOf_88 rfl ?_
            refine g_lload (pc' := 92) dX8_bestRowOf_90 rfl ?_
            refine g_lcmp (pc' := 93) dX8_bestRowOf_92 ?_
            refine g_if_le (tgt := 101) (pc' := 96) dX8_bestRowOf_93 (by decide) (fun h9 => ?_) (fun h9 => ?_)
            · exact absurd h9 h7
            · refine g_lload (pc' := 98) dX8_bestRowOf_96 rfl ?_
              refine g_goto (tgt := 103) dX8_bestRowOf_98 (by decide) ?_
              refine g_lstore (pc' := 105) dX8_bestRowOf_103 (by decide) ?_
              first | refine g_iincN (z := 1) (pc' := 108) dX8_bestRowOf_105 rfl rfl (by decide) ?_ | refine g_iinc (pc' := 108) dX8_bestRowOf_105 rfl rfl (by decide) ?_
              refine g_goto (tgt := 20) dX8_bestRowOf_108 (by decide) ?_
              have := ih (i + 1) (nI i) (.long (lN (gw P U Wt s h i))) uu (by omega) (fun j hj => by rw [h8] at hj; cases hj; rfl)
              rw [h8] at this
              exact this
  have := loop R 0 x0 uu uu (by omega) (fun j hj => by cases hj)
  rw [e0, up_id c47] at this
  exact this
end
section
theorem MF_set {fs : List Value} {D S T R : Nat} (k : Nat) (v : Value) (F : MF fs D S T R) (hk : k ∉ [0, 1, 2, 3, 4, 5, 6, 9, 10, 11, 12, 13, 16, 24, 25, 26, 27, 28, 29, 30]) : MF (fs.set k v) D S T R := by
  obtain ⟨f99, f0, f1, f2, f3, f4, f5, f6, f9, f10, f11, f12, f13, f16, f24, f25, f26, f27, f28, f29, f30⟩ := F
  have g : ∀ j w, j ∈ [0, 1, 2, 3, 4, 5, 6, 9, 10, 11, 12, 13, 16, 24, 25, 26, 27, 28, 29, 30] → fs[j]? = some w → (fs.set k v)[j]? = some w := fun j w hj h => by
    rw [List.getElem?_set_ne (by rintro rfl; exact hk hj)]
    exact h
  exact ⟨by rw [List.length_set]; exact f99, g 0 _ (by decide) f0, g 1 _ (by decide) f1, g 2 _ (by decide) f2, g 3 _ (by decide) f3, g 4 _ (by decide) f4, g 5 _ (by decide) f5, g 6 _ (by decide) f6, g 9 _ (by decide) f9, g 10 _ (by decide) f10, g 11 _ (by decide) f11, g 12 _ (by decide) f12, g 13 _ (by decide) f13, g 16 _ (by decide) f16, g 24 _ (by decide) f24, g 25 _ (by decide) f25, g 26 _ (by decide) f26, g 27 _ (by decide) f27, g 28 _ (by decide) f28, g 29 _ (by decide) f29, g 30 _ (by decide) f30⟩
/-- the worth of a whole heap when no throws are left -/
def grW (P : Nat → Nat → Nat) (U : Nat) (Wt : Nat → Nat) (R s h : Nat) : Nat := mxF (fun r => if bt0 s r then gw P U Wt s h r else 0) R
theorem grW_arg {P : Nat → Nat → Nat} {U : Nat} {Wt : Nat → Nat} {R s h j : Nat} (hj : argF (bt0 s) (gw P U Wt s h) R = some j) : grW P U Wt R s h = gw P U Wt s h j := by
  have := argF_spec (bt0 s) (gw P U Wt s h) R
  rw [hj] at this
  exact this.2.2
theorem c_findWorths {hp : AH} {n D S T R b s M : Nat} {fs : List Value} {x0 : Int32} {fsh fz fm fpt : Nat → Int32} {fp fw fv ft : Nat → Int64} {P : Nat → Nat → Nat} {Wt : Nat → Nat} {Q : Option Value → AH → Nat → Prop} (hn : 64 ≤ n) (c47 : hp 47 = ob 8 fs) (F : MF fs D S T R) (h2 : 2 ≤ S) (h6 : S ≤ 6) (hD : D ≤ 5) (hT1 : 1 ≤ T) (hT3 : T ≤ 3) (hR : R ≤ 8) (hs : s < 256) (hop : 1 ≤ opn s R) (f8 : fs[8]? = some (.int (nI (nh S D)))) (f23 : fs[23]? = some (.long (lN b))) (f31 : fs[31]? = some (.int x0)) (c51 : hp 51 = aI 2772 fsh) (c52 : hp 52 = aI 462 fz) (c54 : hp 54 = aI 2772 fm) (c55 : hp 55 = aI 3696 fpt) (c57 : hp 57 = aJ 6 fp) (c58 : hp 58 = aJ 256 fw) (c59 : hp 59 = aJ 1386 fv) (c60 : hp 60 = aJ 462 ft) (hsh : ∀ h k, h < nh S D → k < 6 → fsh (6 * h + k) = nI (sh S h k)) (hz : ∀ h, h < nh S D → fz h = nI (sz S h)) (hmo : ∀ h s, h < nh S D → sz S h < D → s < S → fm (6 * h + s) = nI (nx S h s)) (hpw : ∀ k, k < 6 → fp k = lN (S ^ k))
    (hpt : ∀ h r, h < nh S D → sz S h = D → r < R → fpt (8 * h + r) = nI (P r h)) (hP : ∀ h r, h < nh S D → sz S h = D → r < R → P r h < 2 ^ 31) (hw : ∀ r, r < R → bt0 s r = true → fw (s ||| 2 ^ r) = lN (Wt (s ||| 2 ^ r))) (hM : ∀ h, h < nh S D → sz S h = D → grW P (b ^ (T * (opn s R - 1))) Wt R s h ≤ M) (hB : M * (S ^ D) ^ T < 2 ^ 63)
    (hq : ∀ (x : Int32) (fv' ft' : Nat → Int64), (∀ k h, k < T → h < nh S D → sz S h = D → fv' (462 * k + h) = lN (vl D S (grW P (b ^ (T * (opn s R - 1))) Wt R s) k h)) → Q none (va_up (va_up (va_up hp 47 (ob 8 (fs.set 31 (.int x)))) 59 (aJ 1386 fv')) 60 (aJ 462 ft')) n) : CT yX8_findWorths cX8_findWorths 3 none (rmD 3) [.ref 47, .int (nI s)] hp n Q := by
  have F' := F
  obtain ⟨f99, f0, f1, f2, f3, f4, f5, f6, f9, f10, f11, f12, f13, f16, f24, f25, f26, f27, f28, f29, f30⟩ := F'
  obtain ⟨hN, hN1⟩ := nh_le h2 h6 hD
  generalize hU : b ^ (T * (opn s R - 1)) = U at hM hq
  have hMb : M < 2 ^ 63 := by
    have := Nat.le_mul_of_pos_right M (pw_pos (pw_pos (show 1 ≤ S by omega) D) T)
    omega
  show G yX8_findWorths cX8_findWorths 3 none (rmD 3) none Q 0 0 0 [.ref 47, .int (nI s), uu] [] hp n
  have e47 : va_up hp 47 (ob 8 (fs.set 31 (.int x0))) = hp := by rw [set_id f31]; exact up_id c47
  rw [← up_id c59, ← e47]
  refine g_iconst (pc' := 1) (v := nI 0) dX8_findWorths_0 (by decide) ?_
  refine g_istore_n (pc' := 2) dX8_findWorths_1 rfl (by decide) ?_
  have loop : ∀ k h x fv, h + k = nh S D → (∀ h', h' < h → sz S h' = D → fv h' = lN (grW P U Wt R s h')) → G yX8_findWorths cX8_findWorths 3 none (rmD 3) none Q 0 0 2 [.ref 47, .int (nI s), .int (nI h)] [] (va_up (va_up hp 47 (ob 8 (fs.set 31 (.int x)))) 59 (aJ 1386 fv)) n := by
    intro k
    induction k with
    | zero =>
      intro h x fv hh hfv
      refine g_iload_n (pc' := 3) dX8_findWorths_2 rfl rfl ?_
      refine g_aload_n (pc' := 4) dX8_findWorths_3 rfl rfl ?_
      refine g_get (pc' := 7) fl_X8_71 dX8_findWorths_4 (by omega) (by first | assumption | exact va_up_self _ _ _ | exact (va_up_ne _ _ (by decide)).trans (by assumption) | exact (va_up_ne _ _ (by decide)).trans (va_up_self _ _ _) | exact (va_up_ne _ _ (by decide)).trans ((va_up_ne _ _ (by decide)).trans (by assumption)) | exact (va_up_ne _ _ (by decide)).trans ((va_up_ne _ _ (by decide)).trans (va_up_self _ _ _)) | exact (va_up_ne _ _ (by decide)).trans ((va_up_ne _ _ (by decide)).trans ((va_up_ne _ _ (by decide)).trans (by assumption))) | exact (va_up_ne _ _ (by decide)).trans ((va_up_ne _ _ (by decide)).trans ((va_up_ne _ _ (by decide)).trans ((va_up_ne _ _ (by decide)).trans (by assumption))))) (by first | assumption | rfl | exact (List.getElem?_set_ne (by decide)).trans (by assumption) | exact List.getElem?_set_self (by omega)) ?_
      refine g_icmp_geN (tgt := 41) (pc' := 10) dX8_findWorths_7 (by decide) (by omega) (by omega) (fun h1 => ?_) (fun h1 => ?_)
      · refine g_aload_n (pc' := 42) dX8_findWorths_41 rfl rfl ?_
        refine gc_V 45 47 [] [] cw_X8_124 im_X8_findTurn se_X8_findTurn dX8_findWorths_42 (by decide) (by decide) (Nat.le_refl _) (Nat.le_refl _) (Nat.le_of_ble_eq_true rfl) rfl (Nat.le_of_ble_eq_true rfl) (by omega) (by first | assumption | exact va_up_self _ _ _ | exact (va_up_ne _ _ (by decide)).trans (by assumption) | exact (va_up_ne _ _ (by decide)).trans (va_up_self _ _ _) | exact (va_up_ne _ _ (by decide)).trans ((va_up_ne _ _ (by decide)).trans (by assumption)) | exact (va_up_ne _ _ (by decide)).trans ((va_up_ne _ _ (by decide)).trans (va_up_self _ _ _)) | exact (va_up_ne _ _ (by decide)).trans ((va_up_ne _ _ (by decide)).trans ((va_up_ne _ _ (by decide)).trans (by assumption))) | exact (va_up_ne _ _ (by decide)).trans ((va_up_ne _ _ (by decide)).trans ((va_up_ne _ _ (by decide)).trans ((va_up_ne _ _ (by decide)).trans (by assumption))))) rfl rfl (c_findTurn (gr := grW P U Wt R s) (M := M) hn (by first | assumption | exact va_up_self _ _ _ | exact (va_up_ne _ _ (by decide)).trans (by assumption) | exact (va_up_ne _ _ (by decide)).trans (va_up_self _ _ _) | exact (va_up_ne _ _ (by decide)).trans ((va_up_ne _ _ (by decide)).trans (by assumption)) | exact (va_up_ne _ _ (by decide)).trans ((va_up_ne _ _ (by decide)).trans (va_up_self _ _ _)) | exact (va_up_ne _ _ (by decide)).trans ((va_up_ne _ _ (by decide)).trans ((va_up_ne _ _ (by decide)).trans (by assumption))) | exact (va_up_ne _ _ (by decide)).trans ((va_up_ne _ _ (by decide)).trans ((va_up_ne _ _ (by decide)).trans ((va_up_ne _ _ (by decide)).trans (by assumption))))) (MF_set 31 (.int x) F (by decide)) h2 h6 hD hT1 hT3 ((List.getElem?_set_ne (by decide)).trans f8) (by first | assumption | exact va_up_self _ _ _ | exact (va_up_ne _ _ (by decide)).trans (by assumption) | exact (va_up_ne _ _ (by decide)).trans (va_up_self _ _ _) | exact (va_up_ne _ _ (by decide)).trans ((va_up_ne _ _ (by decide)).trans (by assumption)) | exact (va_up_ne _ _ (by decide)).trans ((va_up_ne _ _ (by decide)).trans (va_up_self _ _ _)) | exact (va_up_ne _ _ (by decide)).trans ((va_up_ne _ _ (by decide)).trans ((va_up_ne _ _ (by decide)).trans (by assumption))) | exact (va_up_ne _ _ (by decide)).trans ((va_up_ne _ _ (by decide)).trans ((va_up_ne _ _ (by decide)).trans ((va_up_ne _ _ (by decide)).trans (by assumption))))) (by first | assumption | exact va_up_self _ _ _ | exact (va_up_ne _ _ (by decide)).trans (by assumption) | exact (va_up_ne _ _ (by decide)).trans (va_up_self _ _ _) | exact (va_up_ne _ _ (by decide)).trans ((va_up_ne _ _ (by decide)).trans (by assumption)) | exact (va_up_ne _ _ (by decide)).trans ((va_up_ne _ _ (by decide)).trans (va_up_self _ _ _)) | exact (va_up_ne _ _ (by decide)).trans ((va_up_ne _ _ (by decide)).trans ((va_up_ne _ _ (by decide)).trans (by assumption))) | exact (va_up_ne _ _ (by decide)).trans ((va_up_ne _ _ (by decide)).trans ((va_up_ne _ _ (by decide)).trans ((va_up_ne _ _ (by decide)).trans (by assumption))))) (by first | assumption | exact va_up_self _ _ _ | exact (va_up_ne _ _ (by decide)).trans (by assumption) | exact (va_up_ne _ _ (by decide)).trans (va_up_self _ _ _) | exact (va_up_ne _ _ (by decide)).trans ((va_up_ne _ _ (by decide)).trans (by assumption)) | exact (va_up_ne _ _ (by decide)).trans ((va_up_ne _ _ (by decide)).trans (va_up_self _ _ _)) | exact (va_up_ne _ _ (by decide)).trans ((va_up_ne _ _ (by decide)).trans ((va_up_ne _ _ (by decide)).trans (by assumption))) | exact (va_up_ne _ _ (by decide)).trans ((va_up_ne _ _ (by decide)).trans ((va_up_ne _ _ (by decide)).trans ((va_up_ne _ _ (by decide)).trans (by assumption))))) (by first | assumption | exact va_up_self _ _ _ | exact (va_up_ne _ _ (by decide)).trans (by assumption) | exact (va_up_ne _ _ (by decide)).trans (va_up_self _ _ _) | exact (va_up_ne _ _ (by decide)).trans ((va_up_ne _ _ (by decide)).trans (by assumption)) | exact (va_up_ne _ _ (by decide)).trans ((va_up_ne _ _ (by decide)).trans (va_up_self _ _ _)) | exact (va_up_ne _ _ (by decide)).trans ((va_up_ne _ _ (by decide)).trans ((va_up_ne _ _ (by decide)).trans (by assumption))) | exact (va_up_ne _ _ (by decide)).trans ((va_up_ne _ _ (by decide)).trans ((va_up_ne _ _ (by decide)).trans ((va_up_ne _ _ (by decide)).trans (by assumption))))) (by first | assumption | exact va_up_self _ _ _ | exact (va_up_ne _ _ (by decide)).trans (by assumption) | exact (va_up_ne _ _ (by decide)).trans (va_up_self _ _ _) | exact (va_up_ne _ _ (by decide)).trans ((va_up_ne _ _ (by decide)).trans (by assumption)) | exact (va_up_ne _ _ (by decide)).trans ((va_up_ne _ _ (by decide)).trans (va_up_self _ _ _)) | exact (va_up_ne _ _ (by decide)).trans ((va_up_ne _ _ (by decide)).trans ((va_up_ne _ _ (by decide)).trans (by assumption))) | exact (va_up_ne _ _ (by decide)).trans ((va_up_ne _ _ (by decide)).trans ((va_up_ne _ _ (by decide)).trans ((va_up_ne _ _ (by decide)).trans (by assumption))))) (by first | assumption | exact va_up_self _ _ _ | exact (va_up_ne _ _ (by decide)).trans (by assumption) | exact (va_up_ne _ _ (by decide)).trans (va_up_self _ _ _) | exact (va_up_ne _ _ (by decide)).trans ((va_up_ne _ _ (by decide)).trans (by assumption)) | exact (va_up_ne _ _ (by decide)).trans ((va_up_ne _ _ (by decide)).trans (va_up_self _ _ _)) | exact (va_up_ne _ _ (by decide)).trans ((va_up_ne _ _ (by decide)).trans ((va_up_ne _ _ (by decide)).trans (by assumption))) | exact (va_up_ne _ _ (by decide)).trans ((va_up_ne _ _ (by decide)).trans ((va_up_ne _ _ (by decide)).trans ((va_up_ne _ _ (by decide)).trans (by assumption))))) hsh hz hmo hpw (fun h' hh' hz' => hfv h' (by omega) hz') hM hB (fun fv' ft' hf => ⟨rfl, ?_⟩))
        rw [up_up]
        exact g_vret dX8_findWorths_45 rfl (Nat.le_refl _) (Nat.le_refl _) (hq x fv' ft' hf)
      · omega
    | succ k ih =>
      intro h x fv hh hfv
      have zl := sz_le S h
      refine g_iload_n (pc' := 3) dX8_findWorths_2 rfl rfl ?_
      refine g_aload_n (pc' := 4) dX8_findWorths_3 rfl rfl ?_
      refine g_get (pc' := 7) fl_X8_71 dX8_findWorths_4 (by omega) (by first | assumption | exact va_up_self _ _ _ | exact (va_up_ne _ _ (by decide)).trans (by assumption) | exact (va_up_ne _ _ (by decide)).trans (va_up_self _ _ _) | exact (va_up_ne _ _ (by decide)).trans ((va_up_ne _ _ (by decide)).trans (by assumption)) | exact (va_up_ne _ _ (by decide)).trans ((va_up_ne _ _ (by decide)).trans (va_up_self _ _ _)) | exact (va_up_ne _ _ (by decide)).trans ((va_up_ne _ _ (by decide)).trans ((va_up_ne _ _ (by decide)).trans (by assumption))) | exact (va_up_ne _ _ (by decide)).trans ((va_up_ne _ _ (by decide)).trans ((va_up_ne _ _ (by decide)).trans ((va_up_ne _ _ (by decide)).trans (by assumption))))) (by first | assumption | rfl | exact (List.getElem?_set_ne (by decide)).trans (by assumption) | exact List.getElem?_set_self (by omega)) ?_
      refine g_icmp_geN (tgt := 41) (pc' := 10) dX8_findWorths_7 (by decide) (by omega) (by omega) (fun h1 => ?_) (fun h1 => ?_)
      · omega
      · refine g_aload_n (pc' := 11) dX8_findWorths_10 rfl rfl ?_
        refine g_get (pc' := 14) fl_X8_32 dX8_findWorths_11 (by omega) (by first | assumption | exact va_up_self _ _ _ | exact (va_up_ne _ _ (by decide)).trans (by assumption) | exact (va_up_ne _ _ (by decide)).trans (va_up_self _ _ _) | exact (va_up_ne _ _ (by decide)).trans ((va_up_ne _ _ (by decide)).trans (by assumption)) | exact (va_up_ne _ _ (by decide)).trans ((va_up_ne _ _ (by decide)).trans (va_up_self _ _ _)) | exact (va_up_ne _ _ (by decide)).trans ((va_up_ne _ _ (by decide)).trans ((va_up_ne _ _ (by decide)).trans (by assumption))) | exact (va_up_ne _ _ (by decide)).trans ((va_up_ne _ _ (by decide)).trans ((va_up_ne _ _ (by decide)).trans ((va_up_ne _ _ (by decide)).trans (by assumption))))) (by first | assumption | rfl | exact (List.getElem?_set_ne (by decide)).trans (by assumption) | exact List.getElem?_set_self (by omega)) ?_
        refine g_iload_n (pc' := 15) dX8_findWorths_14 rfl rfl ?_
        refine g_ialdV (pc' := 16) dX8_findWorths_15 (by omega) (by first | assumption | exact va_up_self _ _ _ | exact (va_up_ne _ _ (by decide)).trans (by assumption) | exact (va_up_ne _ _ (by decide)).trans (va_up_self _ _ _) | exact (va_up_ne _ _ (by decide)).trans ((va_up_ne _ _ (by decide)).trans (by assumption)) | exact (va_up_ne _ _ (by decide)).trans ((va_up_ne _ _ (by decide)).trans (va_up_self _ _ _)) | exact (va_up_ne _ _ (by decide)).trans ((va_up_ne _ _ (by decide)).trans ((va_up_ne _ _ (by decide)).trans (by assumption))) | exact (va_up_ne _ _ (by decide)).trans ((va_up_ne _ _ (by decide)).trans ((va_up_ne _ _ (by decide)).trans ((va_up_ne _ _ (by decide)).trans (by assumption))))) ((IX_nI (by omega) (by omega))) (hz _ (by omega)) ?_
        refine g_aload_n (pc' := 17) dX8_findWorths_16 rfl rfl ?_
        refine g_get (pc' := 20) fl_X8_7 dX8_findWorths_17 (by omega) (by first | assumption | exact va_up_self _ _ _ | exact (va_up_ne _ _ (by decide)).trans (by assumption) | exact (va_up_ne _ _ (by decide)).trans (va_up_self _ _ _) | exact (va_up_ne _ _ (by decide)).trans ((va_up_ne _ _ (by decide)).trans (by assumption)) | exact (va_up_ne _ _ (by decide)).trans ((va_up_ne _ _ (by decide)).trans (va_up_self _ _ _)) | exact (va_up_ne _ _ (by decide)).trans ((va_up_ne _ _ (by decide)).trans ((va_up_ne _ _ (by decide)).trans (by assumption))) | exact (va_up_ne _ _ (by decide)).trans ((va_up_ne _ _ (by decide)).trans ((va_up_ne _ _ (by decide)).trans ((va_up_ne _ _ (by decide)).trans (by assumption))))) (by first | assumption | rfl | exact (List.getElem?_set_ne (by decide)).trans (by assumption) | exact List.getElem?_set_self (by omega)) ?_
        refine g_icmp_neN (tgt := 35) (pc' := 23) dX8_findWorths_20 (by decide) (by omega) (by omega) (fun h3 => ?_) (fun h3 => ?_)
        · first | refine g_iincN (z := 1) (pc' := 38) dX8_findWorths_35 rfl rfl (by decide) ?_ | refine g_iinc (pc' := 38) dX8_findWorths_35 rfl rfl (by decide) ?_
          refine g_goto (tgt := 2) dX8_findWorths_38 (by decide) ?_
          refine ih (h + 1) x fv (by omega) (fun h' q hz' => ?_)
          rcases Nat.lt_or_ge h' h with q2 | q2
          · exact hfv h' q2 hz'
          · have e : h' = h := by omega
            subst e
            exact absurd hz' h3
        · refine g_aload_n (pc' := 24) dX8_findWorths_23 rfl rfl ?_
          refine g_get (pc' := 27) fl_X8_54 dX8_findWorths_24 (by omega) (by first | assumption | exact va_up_self _ _ _ | exact (va_up_ne _ _ (by decide)).trans (by assumption) | exact (va_up_ne _ _ (by decide)).trans (va_up_self _ _ _) | exact (va_up_ne _ _ (by decide)).trans ((va_up_ne _ _ (by decide)).trans (by assumption)) | exact (va_up_ne _ _ (by decide)).trans ((va_up_ne _ _ (by decide)).trans (va_up_self _ _ _)) | exact (va_up_ne _ _ (by decide)).trans ((va_up_ne _ _ (by decide)).trans ((va_up_ne _ _ (by decide)).trans (by assumption))) | exact (va_up_ne _ _ (by decide)).trans ((va_up_ne _ _ (by decide)).trans ((va_up_ne _ _ (by decide)).trans ((va_up_ne _ _ (by decide)).trans (by assumption))))) (by first | assumption | rfl | exact (List.getElem?_set_ne (by decide)).trans (by assumption) | exact List.getElem?_set_self (by omega)) ?_
          refine g_iload_n (pc' := 28) dX8_findWorths_27 rfl rfl ?_
          refine g_aload_n (pc' := 29) dX8_findWorths_28 rfl rfl ?_
          refine g_iload_n (pc' := 30) dX8_findWorths_29 rfl rfl ?_
          refine g_iload_n (pc' := 31) dX8_findWorths_30 rfl rfl ?_
          refine gc_V 34 47 [.int (nI h), .int (nI s)] [.int (nI h), .ref 59] cw_X8_120 im_X8_bestRowOf se_X8_bestRowOf dX8_findWorths_31 (by decide) (by decide) (Nat.le_refl _) (Nat.le_refl _) (Nat.le_of_ble_eq_true rfl) rfl (Nat.le_of_ble_eq_true rfl) (by omega) (by first | assumption | exact va_up_self _ _ _ | exact (va_up_ne _ _ (by decide)).trans (by assumption) | exact (va_up_ne _ _ (by decide)).trans (va_up_self _ _ _) | exact (va_up_ne _ _ (by decide)).trans ((va_up_ne _ _ (by decide)).trans (by assumption)) | exact (va_up_ne _ _ (by decide)).trans ((va_up_ne _ _ (by decide)).trans (va_up_self _ _ _)) | exact (va_up_ne _ _ (by decide)).trans ((va_up_ne _ _ (by decide)).trans ((va_up_ne _ _ (by decide)).trans (by assumption))) | exact (va_up_ne _ _ (by decide)).trans ((va_up_ne _ _ (by decide)).trans ((va_up_ne _ _ (by decide)).trans ((va_up_ne _ _ (by decide)).trans (by assumption))))) rfl rfl (c_bestRowOf (P := P) (Wt := Wt) (b := b) (x0 := x) hn (by first | assumption | exact va_up_self _ _ _ | exact (va_up_ne _ _ (by decide)).trans (by assumption) | exact (va_up_ne _ _ (by decide)).trans (va_up_self _ _ _) | exact (va_up_ne _ _ (by decide)).trans ((va_up_ne _ _ (by decide)).trans (by assumption)) | exact (va_up_ne _ _ (by decide)).trans ((va_up_ne _ _ (by decide)).trans (va_up_self _ _ _)) | exact (va_up_ne _ _ (by decide)).trans ((va_up_ne _ _ (by decide)).trans ((va_up_ne _ _ (by decide)).trans (by assumption))) | exact (va_up_ne _ _ (by decide)).trans ((va_up_ne _ _ (by decide)).trans ((va_up_ne _ _ (by decide)).trans ((va_up_ne _ _ (by decide)).trans (by assumption))))) (MF_set 31 (.int x) F (by decide)) hT3 hR hs hop ((List.getElem?_set_ne (by decide)).trans f23) (List.getElem?_set_self (by omega)) (by first | assumption | exact va_up_self _ _ _ | exact (va_up_ne _ _ (by decide)).trans (by assumption) | exact (va_up_ne _ _ (by decide)).trans (va_up_self _ _ _) | exact (va_up_ne _ _ (by decide)).trans ((va_up_ne _ _ (by decide)).trans (by assumption)) | exact (va_up_ne _ _ (by decide)).trans ((va_up_ne _ _ (by decide)).trans (va_up_self _ _ _)) | exact (va_up_ne _ _ (by decide)).trans ((va_up_ne _ _ (by decide)).trans ((va_up_ne _ _ (by decide)).trans (by assumption))) | exact (va_up_ne _ _ (by decide)).trans ((va_up_ne _ _ (by decide)).trans ((va_up_ne _ _ (by decide)).trans ((va_up_ne _ _ (by decide)).trans (by assumption))))) (by first | assumption | exact va_up_self _ _ _ | exact (va_up_ne _ _ (by decide)).trans (by assumption) | exact (va_up_ne _ _ (by decide)).trans (va_up_self _ _ _) | exact (va_up_ne _ _ (by decide)).trans ((va_up_ne _ _ (by decide)).trans (by assumption)) | exact (va_up_ne _ _ (by decide)).trans ((va_up_ne _ _ (by decide)).trans (va_up_self _ _ _)) | exact (va_up_ne _ _ (by decide)).trans ((va_up_ne _ _ (by decide)).trans ((va_up_ne _ _ (by decide)).trans (by assumption))) | exact (va_up_ne _ _ (by decide)).trans ((va_up_ne _ _ (by decide)).trans ((va_up_ne _ _ (by decide)).trans ((va_up_ne _ _ (by decide)).trans (by assumption))))) (by omega) (fun r hr => hpt h r (by omega) h3 hr) (fun r hr => hP h r (by omega) h3 hr) hw (fun r hr hb => ?_) (fun j hj => ⟨rfl, ?_⟩))
          · have h9 := hM h (by omega) h3
            have h8 := mxF_ge (f := fun r => if bt0 s r then gw P U Wt s h r else 0) hr
            simp only [hb, if_true] at h8
            rw [hU]
            have : grW P U Wt R s h = mxF (fun r => if bt0 s r then gw P U Wt s h r else 0) R := rfl
            omega
          · rw [up_comm _ (by decide), up_up, List.set_set]
            rw [hU] at hj ⊢
            show G yX8_findWorths cX8_findWorths 3 none (rmD 3) none Q 0 0 34 [.ref 47, .int (nI s), .int (nI h)] [.long (lN (gw P U Wt s h j)), .int (nI h), .ref 59] (va_up (va_up hp 47 (ob 8 (fs.set 31 (.int (nI j))))) 59 (aJ 1386 fv)) n
            refine g_last (pc' := 35) dX8_findWorths_34 (by omega) (by first | assumption | exact va_up_self _ _ _ | exact (va_up_ne _ _ (by decide)).trans (by assumption) | exact (va_up_ne _ _ (by decide)).trans (va_up_self _ _ _) | exact (va_up_ne _ _ (by decide)).trans ((va_up_ne _ _ (by decide)).trans (by assumption)) | exact (va_up_ne _ _ (by decide)).trans ((va_up_ne _ _ (by decide)).trans (va_up_self _ _ _)) | exact (va_up_ne _ _ (by decide)).trans ((va_up_ne _ _ (by decide)).trans ((va_up_ne _ _ (by decide)).trans (by assumption))) | exact (va_up_ne _ _ (by decide)).trans ((va_up_ne _ _ (by decide)).trans ((va_up_ne _ _ (by decide)).trans ((va_up_ne _ _ (by decide)).trans (by assumption))))) ((IX_nI (by omega) (by omega))) ?_
            rw [up_up]
            first | refine g_iincN (z := 1) (pc' := 38) dX8_findWorths_35 rfl rfl (by decide) ?_ | refine g_iinc (pc' := 38) dX8_findWorths_35 rfl rfl (by decide) ?_
            refine g_goto (tgt := 2) dX8_findWorths_38 (by decide) ?_
            refine ih (h + 1) (nI j) _ (by omega) (fun h' q hz' => ?_)
            rcases Nat.lt_or_ge h' h with q2 | q2
            · rw [pk_uLn (by omega)]; exact hfv h' q2 hz'
            · have e : h' = h := by omega
              subst e
              rw [pk_uLs, grW_arg hj]
  exact loop (nh S D) 0 x0 fv (by omega) (fun h' q => absurd q (Nat.not_lt_zero _))
end
