section
-- ===== PART A: goes FIRST, ahead of the names: the tables' words, and 'selects' of the private methods out of them =====
/-- a private method of a class that the tables say can be made, by its rows of tables_1 -/
def lw_okq (q : MethodName × Nat) : Prop := (q.1.cls ≠ "java/lang/invoke/MethodHandle" ∧ q.1.cls ≠ "java/lang/invoke/VarHandle") ∧ Cond.instantiable q.1.cls q.2 ∈ tables_1 ∧ Cond.privateMethod q.1 ∈ tables_1 ∧ Cond.instanceMethod q.1 ∈ tables_1
theorem lw_p0 : lw_okq (⟨"LoanHouse", "remember", "()V"⟩, 6) := ⟨⟨by decide +kernel, by decide +kernel⟩, List.mem_of_getElem? (i := 14) (by decide +kernel), List.mem_of_getElem? (i := 175) (by decide +kernel), List.mem_of_getElem? (i := 176) (by decide +kernel)⟩
theorem lw_p1 : lw_okq (⟨"LoanHouse$House", "serve", "()V"⟩, 4) := ⟨⟨by decide +kernel, by decide +kernel⟩, List.mem_of_getElem? (i := 22) (by decide +kernel), List.mem_of_getElem? (i := 232) (by decide +kernel), List.mem_of_getElem? (i := 233) (by decide +kernel)⟩
theorem lw_p2 : lw_okq (⟨"LoanHouse$Holds", "isInRow", "(II)Z"⟩, 3) := ⟨⟨by decide +kernel, by decide +kernel⟩, List.mem_of_getElem? (i := 87) (by decide +kernel), List.mem_of_getElem? (i := 240) (by decide +kernel), List.mem_of_getElem? (i := 241) (by decide +kernel)⟩
theorem lw_p3 : lw_okq (⟨"LoanHouse$House", "assign", "(II)V"⟩, 4) := ⟨⟨by decide +kernel, by decide +kernel⟩, List.mem_of_getElem? (i := 22) (by decide +kernel), List.mem_of_getElem? (i := 279) (by decide +kernel), List.mem_of_getElem? (i := 280) (by decide +kernel)⟩
theorem lw_p4 : lw_okq (⟨"LoanHouse", "refusalToLend", "(II)I"⟩, 6) := ⟨⟨by decide +kernel, by decide +kernel⟩, List.mem_of_getElem? (i := 14) (by decide +kernel), List.mem_of_getElem? (i := 304) (by decide +kernel), List.mem_of_getElem? (i := 305) (by decide +kernel)⟩
theorem lw_p5 : lw_okq (⟨"LoanHouse", "isCopy", "(I)Z"⟩, 6) := ⟨⟨by decide +kernel, by decide +kernel⟩, List.mem_of_getElem? (i := 14) (by decide +kernel), List.mem_of_getElem? (i := 308) (by decide +kernel), List.mem_of_getElem? (i := 309) (by decide +kernel)⟩
theorem lw_p6 : lw_okq (⟨"LoanHouse$Copies", "isOutTo", "(II)Z"⟩, 2) := ⟨⟨by decide +kernel, by decide +kernel⟩, List.mem_of_getElem? (i := 52) (by decide +kernel), List.mem_of_getElem? (i := 334) (by decide +kernel), List.mem_of_getElem? (i := 335) (by decide +kernel)⟩
theorem lw_p7 : lw_okq (⟨"LoanHouse", "refusalToTakeBack", "(II)I"⟩, 6) := ⟨⟨by decide +kernel, by decide +kernel⟩, List.mem_of_getElem? (i := 14) (by decide +kernel), List.mem_of_getElem? (i := 371) (by decide +kernel), List.mem_of_getElem? (i := 372) (by decide +kernel)⟩
theorem lw_p8 : lw_okq (⟨"LoanHouse", "refusalToHold", "(IIII)I"⟩, 6) := ⟨⟨by decide +kernel, by decide +kernel⟩, List.mem_of_getElem? (i := 14) (by decide +kernel), List.mem_of_getElem? (i := 416) (by decide +kernel), List.mem_of_getElem? (i := 417) (by decide +kernel)⟩
theorem lw_p9 : lw_okq (⟨"LoanHouse$House", "seeToday", "(I)V"⟩, 4) := ⟨⟨by decide +kernel, by decide +kernel⟩, List.mem_of_getElem? (i := 22) (by decide +kernel), List.mem_of_getElem? (i := 463) (by decide +kernel), List.mem_of_getElem? (i := 464) (by decide +kernel)⟩
theorem lw_p10 : lw_okq (⟨"LoanHouse", "drawHold", "()V"⟩, 6) := ⟨⟨by decide +kernel, by decide +kernel⟩, List.mem_of_getElem? (i := 14) (by decide +kernel), List.mem_of_getElem? (i := 494) (by decide +kernel), List.mem_of_getElem? (i := 495) (by decide +kernel)⟩
theorem lw_p11 : lw_okq (⟨"LoanHouse", "drawLending", "()V"⟩, 6) := ⟨⟨by decide +kernel, by decide +kernel⟩, List.mem_of_getElem? (i := 14) (by decide +kernel), List.mem_of_getElem? (i := 498) (by decide +kernel), List.mem_of_getElem? (i := 499) (by decide +kernel)⟩
theorem lw_p12 : lw_okq (⟨"LoanHouse", "drawGivingBack", "()V"⟩, 6) := ⟨⟨by decide +kernel, by decide +kernel⟩, List.mem_of_getElem? (i := 14) (by decide +kernel), List.mem_of_getElem? (i := 502) (by decide +kernel), List.mem_of_getElem? (i := 503) (by decide +kernel)⟩
theorem lw_p13 : lw_okq (⟨"LoanHouse$Holds", "isAhead", "(II)Z"⟩, 3) := ⟨⟨by decide +kernel, by decide +kernel⟩, List.mem_of_getElem? (i := 87) (by decide +kernel), List.mem_of_getElem? (i := 561) (by decide +kernel), List.mem_of_getElem? (i := 562) (by decide +kernel)⟩
theorem lw_p14 : lw_okq (⟨"LoanHouse$Copies", "placeOfDay", "(III)I"⟩, 2) := ⟨⟨by decide +kernel, by decide +kernel⟩, List.mem_of_getElem? (i := 52) (by decide +kernel), List.mem_of_getElem? (i := 576) (by decide +kernel), List.mem_of_getElem? (i := 577) (by decide +kernel)⟩
theorem lw_p15 : lw_okq (⟨"LoanHouse$Copies", "dayIn", "(III)I"⟩, 2) := ⟨⟨by decide +kernel, by decide +kernel⟩, List.mem_of_getElem? (i := 52) (by decide +kernel), List.mem_of_getElem? (i := 580) (by decide +kernel), List.mem_of_getElem? (i := 581) (by decide +kernel)⟩
def lw_privs_1 : List (MethodName × Nat) := [(⟨"LoanHouse", "remember", "()V"⟩, 6), (⟨"LoanHouse$House", "serve", "()V"⟩, 4), (⟨"LoanHouse$Holds", "isInRow", "(II)Z"⟩, 3), (⟨"LoanHouse$House", "assign", "(II)V"⟩, 4), (⟨"LoanHouse", "refusalToLend", "(II)I"⟩, 6), (⟨"LoanHouse", "isCopy", "(I)Z"⟩, 6), (⟨"LoanHouse$Copies", "isOutTo", "(II)Z"⟩, 2), (⟨"LoanHouse", "refusalToTakeBack", "(II)I"⟩, 6), (⟨"LoanHouse", "refusalToHold", "(IIII)I"⟩, 6), (⟨"LoanHouse$House", "seeToday", "(I)V"⟩, 4), (⟨"LoanHouse", "drawHold", "()V"⟩, 6), (⟨"LoanHouse", "drawLending", "()V"⟩, 6), (⟨"LoanHouse", "drawGivingBack", "()V"⟩, 6), (⟨"LoanHouse$Holds", "isAhead", "(II)Z"⟩, 3), (⟨"LoanHouse$Copies", "placeOfDay", "(III)I"⟩, 2), (⟨"LoanHouse$Copies", "dayIn", "(III)I"⟩, 2)]
theorem lw_r1 : ∀ q ∈ lw_privs_1, lw_okq q := List.forall_mem_cons.mpr ⟨lw_p0, List.forall_mem_cons.mpr ⟨lw_p1, List.forall_mem_cons.mpr ⟨lw_p2, List.forall_mem_cons.mpr ⟨lw_p3, List.forall_mem_cons.mpr ⟨lw_p4, List.forall_mem_cons.mpr ⟨lw_p5, List.forall_mem_cons.mpr ⟨lw_p6, List.forall_mem_cons.mpr ⟨lw_p7, List.forall_mem_cons.mpr ⟨lw_p8, List.forall_mem_cons.mpr ⟨lw_p9, List.forall_mem_cons.mpr ⟨lw_p10, List.forall_mem_cons.mpr ⟨lw_p11, List.forall_mem_cons.mpr ⟨lw_p12, List.forall_mem_cons.mpr ⟨lw_p13, List.forall_mem_cons.mpr ⟨lw_p14, List.forall_mem_cons.mpr ⟨lw_p15, fun _ h => absurd h List.not_mem_nil⟩⟩⟩⟩⟩⟩⟩⟩⟩⟩⟩⟩⟩⟩⟩⟩
theorem lw_p16 : lw_okq (⟨"LoanHouseModel", "note", "()V"⟩, 6) := ⟨⟨by decide +kernel, by decide +kernel⟩, List.mem_of_getElem? (i := 627) (by decide +kernel), List.mem_of_getElem? (i := 670) (by decide +kernel), List.mem_of_getElem? (i := 671) (by decide +kernel)⟩
theorem lw_p17 : lw_okq (⟨"LoanHouseModel", "setCopy", "(IIII)V"⟩, 6) := ⟨⟨by decide +kernel, by decide +kernel⟩, List.mem_of_getElem? (i := 627) (by decide +kernel), List.mem_of_getElem? (i := 674) (by decide +kernel), List.mem_of_getElem? (i := 675) (by decide +kernel)⟩
theorem lw_p18 : lw_okq (⟨"LoanHouseModel", "serve", "()V"⟩, 6) := ⟨⟨by decide +kernel, by decide +kernel⟩, List.mem_of_getElem? (i := 627) (by decide +kernel), List.mem_of_getElem? (i := 678) (by decide +kernel), List.mem_of_getElem? (i := 679) (by decide +kernel)⟩
theorem lw_p19 : lw_okq (⟨"LoanHouseModel", "firstOf", "(I)I"⟩, 6) := ⟨⟨by decide +kernel, by decide +kernel⟩, List.mem_of_getElem? (i := 627) (by decide +kernel), List.mem_of_getElem? (i := 682) (by decide +kernel), List.mem_of_getElem? (i := 683) (by decide +kernel)⟩
theorem lw_p20 : lw_okq (⟨"LoanHouseModel", "waitsFor", "(II)Z"⟩, 6) := ⟨⟨by decide +kernel, by decide +kernel⟩, List.mem_of_getElem? (i := 627) (by decide +kernel), List.mem_of_getElem? (i := 686) (by decide +kernel), List.mem_of_getElem? (i := 687) (by decide +kernel)⟩
theorem lw_p21 : lw_okq (⟨"LoanHouseModel", "holdAt", "(II)I"⟩, 6) := ⟨⟨by decide +kernel, by decide +kernel⟩, List.mem_of_getElem? (i := 627) (by decide +kernel), List.mem_of_getElem? (i := 690) (by decide +kernel), List.mem_of_getElem? (i := 691) (by decide +kernel)⟩
theorem lw_p22 : lw_okq (⟨"LoanHouseModel", "isAhead", "(II)Z"⟩, 6) := ⟨⟨by decide +kernel, by decide +kernel⟩, List.mem_of_getElem? (i := 627) (by decide +kernel), List.mem_of_getElem? (i := 694) (by decide +kernel), List.mem_of_getElem? (i := 695) (by decide +kernel)⟩
theorem lw_p23 : lw_okq (⟨"LoanHouseModel", "nearest", "(II)I"⟩, 6) := ⟨⟨by decide +kernel, by decide +kernel⟩, List.mem_of_getElem? (i := 627) (by decide +kernel), List.mem_of_getElem? (i := 698) (by decide +kernel), List.mem_of_getElem? (i := 699) (by decide +kernel)⟩
theorem lw_p24 : lw_okq (⟨"LoanHouseModel", "copyAt", "(II)I"⟩, 6) := ⟨⟨by decide +kernel, by decide +kernel⟩, List.mem_of_getElem? (i := 627) (by decide +kernel), List.mem_of_getElem? (i := 702) (by decide +kernel), List.mem_of_getElem? (i := 703) (by decide +kernel)⟩
theorem lw_p25 : lw_okq (⟨"LoanHouseModel", "give", "(II)V"⟩, 6) := ⟨⟨by decide +kernel, by decide +kernel⟩, List.mem_of_getElem? (i := 627) (by decide +kernel), List.mem_of_getElem? (i := 709) (by decide +kernel), List.mem_of_getElem? (i := 710) (by decide +kernel)⟩
theorem lw_p26 : lw_okq (⟨"LoanHouseModel", "isCopy", "(I)Z"⟩, 6) := ⟨⟨by decide +kernel, by decide +kernel⟩, List.mem_of_getElem? (i := 627) (by decide +kernel), List.mem_of_getElem? (i := 717) (by decide +kernel), List.mem_of_getElem? (i := 718) (by decide +kernel)⟩
theorem lw_p27 : lw_okq (⟨"LoanHouseModel", "mayLend", "(II)Z"⟩, 6) := ⟨⟨by decide +kernel, by decide +kernel⟩, List.mem_of_getElem? (i := 627) (by decide +kernel), List.mem_of_getElem? (i := 725) (by decide +kernel), List.mem_of_getElem? (i := 726) (by decide +kernel)⟩
theorem lw_p28 : lw_okq (⟨"LoanHouseModel", "findHold", "(I)I"⟩, 6) := ⟨⟨by decide +kernel, by decide +kernel⟩, List.mem_of_getElem? (i := 627) (by decide +kernel), List.mem_of_getElem? (i := 729) (by decide +kernel), List.mem_of_getElem? (i := 730) (by decide +kernel)⟩
theorem lw_p29 : lw_okq (⟨"LoanHouseModel", "outsOf", "(I)I"⟩, 6) := ⟨⟨by decide +kernel, by decide +kernel⟩, List.mem_of_getElem? (i := 627) (by decide +kernel), List.mem_of_getElem? (i := 733) (by decide +kernel), List.mem_of_getElem? (i := 734) (by decide +kernel)⟩
theorem lw_p30 : lw_okq (⟨"LoanHouseModel", "doLend", "(II)V"⟩, 6) := ⟨⟨by decide +kernel, by decide +kernel⟩, List.mem_of_getElem? (i := 627) (by decide +kernel), List.mem_of_getElem? (i := 741) (by decide +kernel), List.mem_of_getElem? (i := 742) (by decide +kernel)⟩
theorem lw_p31 : lw_okq (⟨"LoanHouseModel", "removeHold", "(I)V"⟩, 6) := ⟨⟨by decide +kernel, by decide +kernel⟩, List.mem_of_getElem? (i := 627) (by decide +kernel), List.mem_of_getElem? (i := 745) (by decide +kernel), List.mem_of_getElem? (i := 746) (by decide +kernel)⟩
def lw_privs_2 : List (MethodName × Nat) := [(⟨"LoanHouseModel", "note", "()V"⟩, 6), (⟨"LoanHouseModel", "setCopy", "(IIII)V"⟩, 6), (⟨"LoanHouseModel", "serve", "()V"⟩, 6), (⟨"LoanHouseModel", "firstOf", "(I)I"⟩, 6), (⟨"LoanHouseModel", "waitsFor", "(II)Z"⟩, 6), (⟨"LoanHouseModel", "holdAt", "(II)I"⟩, 6), (⟨"LoanHouseModel", "isAhead", "(II)Z"⟩, 6), (⟨"LoanHouseModel", "nearest", "(II)I"⟩, 6), (⟨"LoanHouseModel", "copyAt", "(II)I"⟩, 6), (⟨"LoanHouseModel", "give", "(II)V"⟩, 6), (⟨"LoanHouseModel", "isCopy", "(I)Z"⟩, 6), (⟨"LoanHouseModel", "mayLend", "(II)Z"⟩, 6), (⟨"LoanHouseModel", "findHold", "(I)I"⟩, 6), (⟨"LoanHouseModel", "outsOf", "(I)I"⟩, 6), (⟨"LoanHouseModel", "doLend", "(II)V"⟩, 6), (⟨"LoanHouseModel", "removeHold", "(I)V"⟩, 6)]
theorem lw_r2 : ∀ q ∈ lw_privs_2, lw_okq q := List.forall_mem_cons.mpr ⟨lw_p16, List.forall_mem_cons.mpr ⟨lw_p17, List.forall_mem_cons.mpr ⟨lw_p18, List.forall_mem_cons.mpr ⟨lw_p19, List.forall_mem_cons.mpr ⟨lw_p20, List.forall_mem_cons.mpr ⟨lw_p21, List.forall_mem_cons.mpr ⟨lw_p22, List.forall_mem_cons.mpr ⟨lw_p23, List.forall_mem_cons.mpr ⟨lw_p24, List.forall_mem_cons.mpr ⟨lw_p25, List.forall_mem_cons.mpr ⟨lw_p26, List.forall_mem_cons.mpr ⟨lw_p27, List.forall_mem_cons.mpr ⟨lw_p28, List.forall_mem_cons.mpr ⟨lw_p29, List.forall_mem_cons.mpr ⟨lw_p30, List.forall_mem_cons.mpr ⟨lw_p31, fun _ h => absurd h List.not_mem_nil⟩⟩⟩⟩⟩⟩⟩⟩⟩⟩⟩⟩⟩⟩⟩⟩
theorem lw_p32 : lw_okq (⟨"LoanHouseModel", "openDay", "(I)I"⟩, 6) := ⟨⟨by decide +kernel, by decide +kernel⟩, List.mem_of_getElem? (i := 627) (by decide +kernel), List.mem_of_getElem? (i := 749) (by decide +kernel), List.mem_of_getElem? (i := 750) (by decide +kernel)⟩
theorem lw_p33 : lw_okq (⟨"LoanHouseModel", "isClosed", "(I)Z"⟩, 6) := ⟨⟨by decide +kernel, by decide +kernel⟩, List.mem_of_getElem? (i := 627) (by decide +kernel), List.mem_of_getElem? (i := 753) (by decide +kernel), List.mem_of_getElem? (i := 754) (by decide +kernel)⟩
theorem lw_p34 : lw_okq (⟨"LoanHouseModel", "mayGiveBack", "(I)Z"⟩, 6) := ⟨⟨by decide +kernel, by decide +kernel⟩, List.mem_of_getElem? (i := 627) (by decide +kernel), List.mem_of_getElem? (i := 764) (by decide +kernel), List.mem_of_getElem? (i := 765) (by decide +kernel)⟩
theorem lw_p35 : lw_okq (⟨"LoanHouseModel", "stepOf", "(I)I"⟩, 6) := ⟨⟨by decide +kernel, by decide +kernel⟩, List.mem_of_getElem? (i := 627) (by decide +kernel), List.mem_of_getElem? (i := 768) (by decide +kernel), List.mem_of_getElem? (i := 769) (by decide +kernel)⟩
theorem lw_p36 : lw_okq (⟨"LoanHouseModel", "doGiveBack", "(II)V"⟩, 6) := ⟨⟨by decide +kernel, by decide +kernel⟩, List.mem_of_getElem? (i := 627) (by decide +kernel), List.mem_of_getElem? (i := 772) (by decide +kernel), List.mem_of_getElem? (i := 773) (by decide +kernel)⟩
theorem lw_p37 : lw_okq (⟨"LoanHouseModel", "rowOf", "(I)I"⟩, 6) := ⟨⟨by decide +kernel, by decide +kernel⟩, List.mem_of_getElem? (i := 627) (by decide +kernel), List.mem_of_getElem? (i := 780) (by decide +kernel), List.mem_of_getElem? (i := 781) (by decide +kernel)⟩
theorem lw_p38 : lw_okq (⟨"LoanHouseModel", "mayHold", "(II)Z"⟩, 6) := ⟨⟨by decide +kernel, by decide +kernel⟩, List.mem_of_getElem? (i := 627) (by decide +kernel), List.mem_of_getElem? (i := 793) (by decide +kernel), List.mem_of_getElem? (i := 794) (by decide +kernel)⟩
theorem lw_p39 : lw_okq (⟨"LoanHouseModel", "doHold", "(IIII)I"⟩, 6) := ⟨⟨by decide +kernel, by decide +kernel⟩, List.mem_of_getElem? (i := 627) (by decide +kernel), List.mem_of_getElem? (i := 797) (by decide +kernel), List.mem_of_getElem? (i := 798) (by decide +kernel)⟩
theorem lw_p40 : lw_okq (⟨"LoanHouseModel", "copyFor", "(I)I"⟩, 6) := ⟨⟨by decide +kernel, by decide +kernel⟩, List.mem_of_getElem? (i := 627) (by decide +kernel), List.mem_of_getElem? (i := 805) (by decide +kernel), List.mem_of_getElem? (i := 806) (by decide +kernel)⟩
theorem lw_p41 : lw_okq (⟨"LoanHouseModel", "passDay", "()V"⟩, 6) := ⟨⟨by decide +kernel, by decide +kernel⟩, List.mem_of_getElem? (i := 627) (by decide +kernel), List.mem_of_getElem? (i := 814) (by decide +kernel), List.mem_of_getElem? (i := 815) (by decide +kernel)⟩
theorem lw_p42 : lw_okq (⟨"LoanHouseModel", "lotOf", "(I)I"⟩, 6) := ⟨⟨by decide +kernel, by decide +kernel⟩, List.mem_of_getElem? (i := 627) (by decide +kernel), List.mem_of_getElem? (i := 831) (by decide +kernel), List.mem_of_getElem? (i := 832) (by decide +kernel)⟩
theorem lw_p43 : lw_okq (⟨"LoanHouseModel", "drawHold", "()V"⟩, 6) := ⟨⟨by decide +kernel, by decide +kernel⟩, List.mem_of_getElem? (i := 627) (by decide +kernel), List.mem_of_getElem? (i := 837) (by decide +kernel), List.mem_of_getElem? (i := 838) (by decide +kernel)⟩
theorem lw_p44 : lw_okq (⟨"LoanHouseModel", "drawCopy", "(Z)V"⟩, 6) := ⟨⟨by decide +kernel, by decide +kernel⟩, List.mem_of_getElem? (i := 627) (by decide +kernel), List.mem_of_getElem? (i := 841) (by decide +kernel), List.mem_of_getElem? (i := 842) (by decide +kernel)⟩
theorem lw_p45 : lw_okq (⟨"LoanHouseModel", "copiesThat", "(I)I"⟩, 6) := ⟨⟨by decide +kernel, by decide +kernel⟩, List.mem_of_getElem? (i := 627) (by decide +kernel), List.mem_of_getElem? (i := 853) (by decide +kernel), List.mem_of_getElem? (i := 854) (by decide +kernel)⟩
theorem lw_p46 : lw_okq (⟨"LoanHouseModel", "waiting", "()I"⟩, 6) := ⟨⟨by decide +kernel, by decide +kernel⟩, List.mem_of_getElem? (i := 627) (by decide +kernel), List.mem_of_getElem? (i := 857) (by decide +kernel), List.mem_of_getElem? (i := 858) (by decide +kernel)⟩
theorem lw_p47 : lw_okq (⟨"LoanHouseModel", "overdue", "()I"⟩, 6) := ⟨⟨by decide +kernel, by decide +kernel⟩, List.mem_of_getElem? (i := 627) (by decide +kernel), List.mem_of_getElem? (i := 861) (by decide +kernel), List.mem_of_getElem? (i := 862) (by decide +kernel)⟩
def lw_privs_3 : List (MethodName × Nat) := [(⟨"LoanHouseModel", "openDay", "(I)I"⟩, 6), (⟨"LoanHouseModel", "isClosed", "(I)Z"⟩, 6), (⟨"LoanHouseModel", "mayGiveBack", "(I)Z"⟩, 6), (⟨"LoanHouseModel", "stepOf", "(I)I"⟩, 6), (⟨"LoanHouseModel", "doGiveBack", "(II)V"⟩, 6), (⟨"LoanHouseModel", "rowOf", "(I)I"⟩, 6), (⟨"LoanHouseModel", "mayHold", "(II)Z"⟩, 6), (⟨"LoanHouseModel", "doHold", "(IIII)I"⟩, 6), (⟨"LoanHouseModel", "copyFor", "(I)I"⟩, 6), (⟨"LoanHouseModel", "passDay", "()V"⟩, 6), (⟨"LoanHouseModel", "lotOf", "(I)I"⟩, 6), (⟨"LoanHouseModel", "drawHold", "()V"⟩, 6), (⟨"LoanHouseModel", "drawCopy", "(Z)V"⟩, 6), (⟨"LoanHouseModel", "copiesThat", "(I)I"⟩, 6), (⟨"LoanHouseModel", "waiting", "()I"⟩, 6), (⟨"LoanHouseModel", "overdue", "()I"⟩, 6)]
theorem lw_r3 : ∀ q ∈ lw_privs_3, lw_okq q := List.forall_mem_cons.mpr ⟨lw_p32, List.forall_mem_cons.mpr ⟨lw_p33, List.forall_mem_cons.mpr ⟨lw_p34, List.forall_mem_cons.mpr ⟨lw_p35, List.forall_mem_cons.mpr ⟨lw_p36, List.forall_mem_cons.mpr ⟨lw_p37, List.forall_mem_cons.mpr ⟨lw_p38, List.forall_mem_cons.mpr ⟨lw_p39, List.forall_mem_cons.mpr ⟨lw_p40, List.forall_mem_cons.mpr ⟨lw_p41, List.forall_mem_cons.mpr ⟨lw_p42, List.forall_mem_cons.mpr ⟨lw_p43, List.forall_mem_cons.mpr ⟨lw_p44, List.forall_mem_cons.mpr ⟨lw_p45, List.forall_mem_cons.mpr ⟨lw_p46, List.forall_mem_cons.mpr ⟨lw_p47, fun _ h => absurd h List.not_mem_nil⟩⟩⟩⟩⟩⟩⟩⟩⟩⟩⟩⟩⟩⟩⟩⟩
theorem lw_p48 : lw_okq (⟨"LoanHouseModel", "placeOf", "(I)I"⟩, 6) := ⟨⟨by decide +kernel, by decide +kernel⟩, List.mem_of_getElem? (i := 627) (by decide +kernel), List.mem_of_getElem? (i := 873) (by decide +kernel), List.mem_of_getElem? (i := 874) (by decide +kernel)⟩
theorem lw_p49 : lw_okq (⟨"LoanHouseModel", "soonOf", "(I)I"⟩, 6) := ⟨⟨by decide +kernel, by decide +kernel⟩, List.mem_of_getElem? (i := 627) (by decide +kernel), List.mem_of_getElem? (i := 877) (by decide +kernel), List.mem_of_getElem? (i := 878) (by decide +kernel)⟩
theorem lw_p50 : lw_okq (⟨"LoanHouseModel", "dayOf", "(I)I"⟩, 6) := ⟨⟨by decide +kernel, by decide +kernel⟩, List.mem_of_getElem? (i := 627) (by decide +kernel), List.mem_of_getElem? (i := 881) (by decide +kernel), List.mem_of_getElem? (i := 882) (by decide +kernel)⟩
theorem lw_p51 : lw_okq (⟨"LoanHouseModel", "copiesOf", "(IZ)I"⟩, 6) := ⟨⟨by decide +kernel, by decide +kernel⟩, List.mem_of_getElem? (i := 627) (by decide +kernel), List.mem_of_getElem? (i := 890) (by decide +kernel), List.mem_of_getElem? (i := 891) (by decide +kernel)⟩
theorem lw_p52 : lw_okq (⟨"LoanHouseModel", "longestOf", "(I)I"⟩, 6) := ⟨⟨by decide +kernel, by decide +kernel⟩, List.mem_of_getElem? (i := 627) (by decide +kernel), List.mem_of_getElem? (i := 894) (by decide +kernel), List.mem_of_getElem? (i := 895) (by decide +kernel)⟩
theorem lw_p53 : lw_okq (⟨"LoanHouseModel", "holdsOf", "(I)I"⟩, 6) := ⟨⟨by decide +kernel, by decide +kernel⟩, List.mem_of_getElem? (i := 627) (by decide +kernel), List.mem_of_getElem? (i := 902) (by decide +kernel), List.mem_of_getElem? (i := 903) (by decide +kernel)⟩
theorem lw_p54 : lw_okq (⟨"LoanHouseModel", "owedBy", "(I)I"⟩, 6) := ⟨⟨by decide +kernel, by decide +kernel⟩, List.mem_of_getElem? (i := 627) (by decide +kernel), List.mem_of_getElem? (i := 906) (by decide +kernel), List.mem_of_getElem? (i := 907) (by decide +kernel)⟩
theorem lw_p55 : lw_okq (⟨"LoanHouseModel", "greatestStep", "(I)I"⟩, 6) := ⟨⟨by decide +kernel, by decide +kernel⟩, List.mem_of_getElem? (i := 627) (by decide +kernel), List.mem_of_getElem? (i := 910) (by decide +kernel), List.mem_of_getElem? (i := 911) (by decide +kernel)⟩
def lw_privs_4 : List (MethodName × Nat) := [(⟨"LoanHouseModel", "placeOf", "(I)I"⟩, 6), (⟨"LoanHouseModel", "soonOf", "(I)I"⟩, 6), (⟨"LoanHouseModel", "dayOf", "(I)I"⟩, 6), (⟨"LoanHouseModel", "copiesOf", "(IZ)I"⟩, 6), (⟨"LoanHouseModel", "longestOf", "(I)I"⟩, 6), (⟨"LoanHouseModel", "holdsOf", "(I)I"⟩, 6), (⟨"LoanHouseModel", "owedBy", "(I)I"⟩, 6), (⟨"LoanHouseModel", "greatestStep", "(I)I"⟩, 6)]
theorem lw_r4 : ∀ q ∈ lw_privs_4, lw_okq q := List.forall_mem_cons.mpr ⟨lw_p48, List.forall_mem_cons.mpr ⟨lw_p49, List.forall_mem_cons.mpr ⟨lw_p50, List.forall_mem_cons.mpr ⟨lw_p51, List.forall_mem_cons.mpr ⟨lw_p52, List.forall_mem_cons.mpr ⟨lw_p53, List.forall_mem_cons.mpr ⟨lw_p54, List.forall_mem_cons.mpr ⟨lw_p55, fun _ h => absurd h List.not_mem_nil⟩⟩⟩⟩⟩⟩⟩⟩
def lw_privs : List (MethodName × Nat) := lw_privs_1 ++ (lw_privs_2 ++ (lw_privs_3 ++ (lw_privs_4)))
def lw_tbl : List Cond := k2_sels lw_privs ++ tables_1
theorem lw_privs_ok : ∀ q ∈ lw_privs, lw_okq q := by
  show ∀ q ∈ lw_privs_1 ++ (lw_privs_2 ++ (lw_privs_3 ++ (lw_privs_4))), lw_okq q
  exact List.forall_mem_append.mpr ⟨lw_r1, List.forall_mem_append.mpr ⟨lw_r2, List.forall_mem_append.mpr ⟨lw_r3, lw_r4⟩⟩⟩
end
section
/-! ===== BEGIN words of one list among another's, by their places ===== -/
theorem goodIn_r {big : List Cond} (ws : List Cond) (ps : List Nat) (hp : ws = ps.filterMap (fun i => big[i]?)) (h : ws.all goodWord = true) : GoodIn big ws := by
  intro w hw
  have h1 := List.all_eq_true.mp h w hw
  rw [hp] at hw
  obtain ⟨i, -, hi⟩ := List.mem_filterMap.mp hw
  have hm : w ∈ big := by first | exact List.mem_of_getElem? hi | exact List.getElem?_mem hi
  exact ⟨hm, good_of_word h1⟩
theorem goodIn_app {big a b : List Cond} (ha : GoodIn big a) (hb : GoodIn big b) : GoodIn big (a ++ b) := fun w h => (List.mem_append.mp h).elim (ha w) (hb w)
theorem goodIn_ca {big a b : List Cond} {c : Cond} (ha : GoodIn big (c :: a)) (hb : GoodIn big b) : GoodIn big (c :: (a ++ b)) := fun w h => (List.mem_cons.mp h).elim (fun e => ha w (List.mem_cons.mpr (Or.inl e))) (fun h => (List.mem_append.mp h).elim (fun h => ha w (List.mem_cons.mpr (Or.inr h))) (hb w))
theorem goodIn_sub {big ws : List Cond} (hm : ∀ w ∈ ws, w ∈ big) (h : ws.all goodWord = true) : GoodIn big ws := fun w hw => ⟨hm w hw, good_of_word (List.all_eq_true.mp h w hw)⟩
/-! ===== END ===== -/

/-! ===== BEGIN printed: names, fields, word lists, decode rows ===== -/
def RX0 : String := "LoanHouse$Calendar"
def TX0 : u_T := fun k => match k with
  | 0 => ("LoanHouse$Calendar", "now", "I", false)
  | 1 => ("LoanHouse$Calendar", "term", "I", false)
  | 2 => ("LoanHouse$Calendar", "patience", "I", false)
  | _ => ("LoanHouse$Calendar", "closed", "I", false)
def tyX0 : Nat → FieldType := fun k => match k with
  | 0 => .int
  | 1 => .int
  | 2 => .int
  | _ => .int
abbrev wsX00 : List Cond := u_ws RX0 TX0 4
theorem nmX0 : ∀ a, a < 4 → ∀ b, b < 4 → a ≠ b → (TX0 a).2.1 ≠ (TX0 b).2.1 := by decide +kernel
theorem tyX0_ok : ∀ k, k < 4 → parseFieldDescriptor (TX0 k).2.2.1 = some (tyX0 k) := by decide +kernel
abbrev cX0_init : ByteArray := prog_2_method_1_code
def yX0_init : MethodName := ⟨RX0, "<init>", "()V"⟩
abbrev cX0_allows : ByteArray := prog_2_method_2_code
def yX0_allows : MethodName := ⟨RX0, "allows", "(II)Z"⟩
abbrev cX0_change : ByteArray := prog_2_method_3_code
def yX0_change : MethodName := ⟨RX0, "change", "(II)I"⟩
abbrev cX0_isClosed : ByteArray := prog_2_method_4_code
def yX0_isClosed : MethodName := ⟨RX0, "isClosed", "(I)Z"⟩
abbrev cX0_dueFromNow : ByteArray := prog_2_method_5_code
def yX0_dueFromNow : MethodName := ⟨RX0, "dueFromNow", "()I"⟩
abbrev cX0_lastOfPatience : ByteArray := prog_2_method_6_code
def yX0_lastOfPatience : MethodName := ⟨RX0, "lastOfPatience", "()I"⟩
abbrev cX0_become : ByteArray := prog_2_method_7_code
def yX0_become : MethodName := ⟨RX0, "become", "(LLoanHouse$Calendar;)V"⟩
def RX1 : String := "LoanHouse$Copies"
def TX1 : u_T := fun k => match k with
  | 0 => ("LoanHouse$Copies", "grid", "LLoanHouse$Grid;", true)
  | _ => ("LoanHouse$Copies", "count", "I", false)
def tyX1 : Nat → FieldType := fun k => match k with
  | 0 => .object "LoanHouse$Grid"
  | _ => .int
abbrev wsX10 : List Cond := u_ws RX1 TX1 2
theorem nmX1 : ∀ a, a < 2 → ∀ b, b < 2 → a ≠ b → (TX1 a).2.1 ≠ (TX1 b).2.1 := by decide +kernel
theorem tyX1_ok : ∀ k, k < 2 → parseFieldDescriptor (TX1 k).2.2.1 = some (tyX1 k) := by decide +kernel
abbrev cX1_init : ByteArray := prog_3_method_1_code
def yX1_init : MethodName := ⟨RX1, "<init>", "()V"⟩
abbrev cX1_title : ByteArray := prog_3_method_2_code
def yX1_title : MethodName := ⟨RX1, "title", "(I)I"⟩
abbrev cX1_branch : ByteArray := prog_3_method_3_code
def yX1_branch : MethodName := ⟨RX1, "branch", "(I)I"⟩
abbrev cX1_state : ByteArray := prog_3_method_4_code
def yX1_state : MethodName := ⟨RX1, "state", "(I)I"⟩
abbrev cX1_whose : ByteArray := prog_3_method_5_code
def yX1_whose : MethodName := ⟨RX1, "whose", "(I)I"⟩
abbrev cX1_day : ByteArray := prog_3_method_6_code
def yX1_day : MethodName := ⟨RX1, "day", "(I)I"⟩
abbrev cX1_add : ByteArray := prog_3_method_7_code
def yX1_add : MethodName := ⟨RX1, "add", "(II)I"⟩
abbrev cX1_write : ByteArray := prog_3_method_8_code
def yX1_write : MethodName := ⟨RX1, "write", "(IIIII)V"⟩
abbrev cX1_thatAre : ByteArray := prog_3_method_9_code
def yX1_thatAre : MethodName := ⟨RX1, "thatAre", "(I)I"⟩
abbrev cX1_ofTitle : ByteArray := prog_3_method_10_code
def yX1_ofTitle : MethodName := ⟨RX1, "ofTitle", "(I)I"⟩
abbrev cX1_outTo : ByteArray := prog_3_method_11_code
def yX1_outTo : MethodName := ⟨RX1, "outTo", "(I)I"⟩
abbrev cX1_overdue : ByteArray := prog_3_method_12_code
def yX1_overdue : MethodName := ⟨RX1, "overdue", "(I)I"⟩
abbrev cX1_step : ByteArray := prog_3_method_13_code
def yX1_step : MethodName := ⟨RX1, "step", "(II)I"⟩
abbrev cX1_owedBy : ByteArray := prog_3_method_14_code
def yX1_owedBy : MethodName := ⟨RX1, "owedBy", "(II)I"⟩
abbrev cX1_greatestStep : ByteArray := prog_3_method_15_code
def yX1_greatestStep : MethodName := ⟨RX1, "greatestStep", "(II)I"⟩
abbrev cX1_nearestIn : ByteArray := prog_3_method_16_code
def yX1_nearestIn : MethodName := ⟨RX1, "nearestIn", "(II)I"⟩
abbrev cX1_dayAtPlace : ByteArray := prog_3_method_17_code
def yX1_dayAtPlace : MethodName := ⟨RX1, "dayAtPlace", "(III)I"⟩
abbrev cX1_placeOfDay : ByteArray := prog_3_method_18_code
def yX1_placeOfDay : MethodName := ⟨RX1, "placeOfDay", "(III)I"⟩
abbrev cX1_dayIn : ByteArray := prog_3_method_19_code
def yX1_dayIn : MethodName := ⟨RX1, "dayIn", "(III)I"⟩
abbrev cX1_isOutTo : ByteArray := prog_3_method_20_code
def yX1_isOutTo : MethodName := ⟨RX1, "isOutTo", "(II)Z"⟩
abbrev cX1_become : ByteArray := prog_3_method_21_code
def yX1_become : MethodName := ⟨RX1, "become", "(LLoanHouse$Copies;)V"⟩
def RX2 : String := "LoanHouse$Grid"
def TX2 : u_T := fun k => match k with
  | 0 => ("LoanHouse$Grid", "rows", "I", true)
  | 1 => ("LoanHouse$Grid", "columns", "I", true)
  | _ => ("LoanHouse$Grid", "cells", "[I", true)
def tyX2 : Nat → FieldType := fun k => match k with
  | 0 => .int
  | 1 => .int
  | _ => .array .int
abbrev wsX20 : List Cond := u_ws RX2 TX2 3
theorem nmX2 : ∀ a, a < 3 → ∀ b, b < 3 → a ≠ b → (TX2 a).2.1 ≠ (TX2 b).2.1 := by decide +kernel
theorem tyX2_ok : ∀ k, k < 3 → parseFieldDescriptor (TX2 k).2.2.1 = some (tyX2 k) := by decide +kernel
abbrev cX2_init : ByteArray := prog_4_method_1_code
def yX2_init : MethodName := ⟨RX2, "<init>", "(II)V"⟩
abbrev cX2_at : ByteArray := prog_4_method_2_code
def yX2_at : MethodName := ⟨RX2, "at", "(II)I"⟩
abbrev cX2_put : ByteArray := prog_4_method_3_code
def yX2_put : MethodName := ⟨RX2, "put", "(III)V"⟩
abbrev cX2_takeOut : ByteArray := prog_4_method_4_code
def yX2_takeOut : MethodName := ⟨RX2, "takeOut", "(I)V"⟩
abbrev cX2_become : ByteArray := prog_4_method_5_code
def yX2_become : MethodName := ⟨RX2, "become", "(LLoanHouse$Grid;)V"⟩
def RX3 : String := "LoanHouse$Holds"
def TX3 : u_T := fun k => match k with
  | 0 => ("LoanHouse$Holds", "grid", "LLoanHouse$Grid;", true)
  | 1 => ("LoanHouse$Holds", "count", "I", false)
  | _ => ("LoanHouse$Holds", "nextNumber", "I", false)
def tyX3 : Nat → FieldType := fun k => match k with
  | 0 => .object "LoanHouse$Grid"
  | 1 => .int
  | _ => .int
abbrev wsX30 : List Cond := u_ws RX3 TX3 3
theorem nmX3 : ∀ a, a < 3 → ∀ b, b < 3 → a ≠ b → (TX3 a).2.1 ≠ (TX3 b).2.1 := by decide +kernel
theorem tyX3_ok : ∀ k, k < 3 → parseFieldDescriptor (TX3 k).2.2.1 = some (tyX3 k) := by decide +kernel
abbrev cX3_init : ByteArray := prog_5_method_1_code
def yX3_init : MethodName := ⟨RX3, "<init>", "()V"⟩
abbrev cX3_reader : ByteArray := prog_5_method_2_code
def yX3_reader : MethodName := ⟨RX3, "reader", "(I)I"⟩
abbrev cX3_title : ByteArray := prog_5_method_3_code
def yX3_title : MethodName := ⟨RX3, "title", "(I)I"⟩
abbrev cX3_branch : ByteArray := prog_5_method_4_code
def yX3_branch : MethodName := ⟨RX3, "branch", "(I)I"⟩
abbrev cX3_need : ByteArray := prog_5_method_5_code
def yX3_need : MethodName := ⟨RX3, "need", "(I)I"⟩
abbrev cX3_made : ByteArray := prog_5_method_6_code
def yX3_made : MethodName := ⟨RX3, "made", "(I)I"⟩
abbrev cX3_copyFor : ByteArray := prog_5_method_7_code
def yX3_copyFor : MethodName := ⟨RX3, "copyFor", "(I)I"⟩
abbrev cX3_number : ByteArray := prog_5_method_8_code
def yX3_number : MethodName := ⟨RX3, "number", "(I)I"⟩
abbrev cX3_slotOf : ByteArray := prog_5_method_9_code
def yX3_slotOf : MethodName := ⟨RX3, "slotOf", "(I)I"⟩
abbrev cX3_add : ByteArray := prog_5_method_10_code
def yX3_add : MethodName := ⟨RX3, "add", "(IIIII)I"⟩
abbrev cX3_takeOut : ByteArray := prog_5_method_11_code
def yX3_takeOut : MethodName := ⟨RX3, "takeOut", "(I)V"⟩
abbrev cX3_putCopy : ByteArray := prog_5_method_12_code
def yX3_putCopy : MethodName := ⟨RX3, "putCopy", "(II)V"⟩
abbrev cX3_waiting : ByteArray := prog_5_method_13_code
def yX3_waiting : MethodName := ⟨RX3, "waiting", "()I"⟩
abbrev cX3_ofReader : ByteArray := prog_5_method_14_code
def yX3_ofReader : MethodName := ⟨RX3, "ofReader", "(I)I"⟩
abbrev cX3_has : ByteArray := prog_5_method_15_code
def yX3_has : MethodName := ⟨RX3, "has", "(II)Z"⟩
abbrev cX3_rowLength : ByteArray := prog_5_method_16_code
def yX3_rowLength : MethodName := ⟨RX3, "rowLength", "(I)I"⟩
abbrev cX3_firstOfRow : ByteArray := prog_5_method_17_code
def yX3_firstOfRow : MethodName := ⟨RX3, "firstOfRow", "(I)I"⟩
abbrev cX3_placeInRow : ByteArray := prog_5_method_18_code
def yX3_placeInRow : MethodName := ⟨RX3, "placeInRow", "(I)I"⟩
abbrev cX3_longestWait : ByteArray := prog_5_method_19_code
def yX3_longestWait : MethodName := ⟨RX3, "longestWait", "(II)I"⟩
abbrev cX3_isInRow : ByteArray := prog_5_method_20_code
def yX3_isInRow : MethodName := ⟨RX3, "isInRow", "(II)Z"⟩
abbrev cX3_isAhead : ByteArray := prog_5_method_21_code
def yX3_isAhead : MethodName := ⟨RX3, "isAhead", "(II)Z"⟩
abbrev cX3_become : ByteArray := prog_5_method_22_code
def yX3_become : MethodName := ⟨RX3, "become", "(LLoanHouse$Holds;)V"⟩
def RX4 : String := "LoanHouse$House"
def TX4 : u_T := fun k => match k with
  | 0 => ("LoanHouse$House", "calendar", "LLoanHouse$Calendar;", true)
  | 1 => ("LoanHouse$House", "copies", "LLoanHouse$Copies;", true)
  | 2 => ("LoanHouse$House", "holds", "LLoanHouse$Holds;", true)
  | _ => ("LoanHouse$House", "trips", "I", false)
def tyX4 : Nat → FieldType := fun k => match k with
  | 0 => .object "LoanHouse$Calendar"
  | 1 => .object "LoanHouse$Copies"
  | 2 => .object "LoanHouse$Holds"
  | _ => .int
abbrev wsX40 : List Cond := u_ws RX4 TX4 4
theorem nmX4 : ∀ a, a < 4 → ∀ b, b < 4 → a ≠ b → (TX4 a).2.1 ≠ (TX4 b).2.1 := by decide +kernel
theorem tyX4_ok : ∀ k, k < 4 → parseFieldDescriptor (TX4 k).2.2.1 = some (tyX4 k) := by decide +kernel
abbrev cX4_init : ByteArray := prog_6_method_1_code
def yX4_init : MethodName := ⟨RX4, "<init>", "()V"⟩
abbrev cX4_addCopy : ByteArray := prog_6_method_2_code
def yX4_addCopy : MethodName := ⟨RX4, "addCopy", "(II)I"⟩
abbrev cX4_mayTake : ByteArray := prog_6_method_3_code
def yX4_mayTake : MethodName := ⟨RX4, "mayTake", "(II)Z"⟩
abbrev cX4_lendTo : ByteArray := prog_6_method_4_code
def yX4_lendTo : MethodName := ⟨RX4, "lendTo", "(II)I"⟩
abbrev cX4_lendAgain : ByteArray := prog_6_method_5_code
def yX4_lendAgain : MethodName := ⟨RX4, "lendAgain", "(I)I"⟩
abbrev cX4_takeBack : ByteArray := prog_6_method_6_code
def yX4_takeBack : MethodName := ⟨RX4, "takeBack", "(II)I"⟩
abbrev cX4_loseCopy : ByteArray := prog_6_method_7_code
def yX4_loseCopy : MethodName := ⟨RX4, "loseCopy", "(I)I"⟩
abbrev cX4_addHold : ByteArray := prog_6_method_8_code
def yX4_addHold : MethodName := ⟨RX4, "addHold", "(IIII)I"⟩
abbrev cX4_dropHold : ByteArray := prog_6_method_9_code
def yX4_dropHold : MethodName := ⟨RX4, "dropHold", "(I)I"⟩
abbrev cX4_dayPasses : ByteArray := prog_6_method_10_code
def yX4_dayPasses : MethodName := ⟨RX4, "dayPasses", "()V"⟩
abbrev cX4_seeToday : ByteArray := prog_6_method_11_code
def yX4_seeToday : MethodName := ⟨RX4, "seeToday", "(I)V"⟩
abbrev cX4_serve : ByteArray := prog_6_method_12_code
def yX4_serve : MethodName := ⟨RX4, "serve", "()V"⟩
abbrev cX4_assign : ByteArray := prog_6_method_13_code
def yX4_assign : MethodName := ⟨RX4, "assign", "(II)V"⟩
abbrev cX4_stateOfHold : ByteArray := prog_6_method_14_code
def yX4_stateOfHold : MethodName := ⟨RX4, "stateOfHold", "(I)I"⟩
abbrev cX4_soon : ByteArray := prog_6_method_15_code
def yX4_soon : MethodName := ⟨RX4, "soon", "(I)I"⟩
abbrev cX4_become : ByteArray := prog_6_method_16_code
def yX4_become : MethodName := ⟨RX4, "become", "(LLoanHouse$House;)V"⟩
def RX5 : String := "LoanHouse$Lots"
def TX5 : u_T := fun k => match k with
  | _ => ("LoanHouse$Lots", "x", "J", false)
def tyX5 : Nat → FieldType := fun k => match k with
  | _ => .long
abbrev wsX50 : List Cond := u_ws RX5 TX5 1
theorem nmX5 : ∀ a, a < 1 → ∀ b, b < 1 → a ≠ b → (TX5 a).2.1 ≠ (TX5 b).2.1 := by decide +kernel
theorem tyX5_ok : ∀ k, k < 1 → parseFieldDescriptor (TX5 k).2.2.1 = some (tyX5 k) := by decide +kernel
abbrev cX5_init : ByteArray := prog_7_method_1_code
def yX5_init : MethodName := ⟨RX5, "<init>", "()V"⟩
abbrev cX5_begin : ByteArray := prog_7_method_2_code
def yX5_begin : MethodName := ⟨RX5, "begin", "(I)V"⟩
abbrev cX5_below : ByteArray := prog_7_method_3_code
def yX5_below : MethodName := ⟨RX5, "below", "(I)I"⟩
def RX6 : String := "LoanHouse$Pictures"
def TX6 : u_T := fun k => match k with
  | _ => ("LoanHouse$Pictures", "places", "[LLoanHouse$House;", true)
def tyX6 : Nat → FieldType := fun k => match k with
  | _ => .array (.object "LoanHouse$House")
abbrev wsX60 : List Cond := u_ws RX6 TX6 1
theorem nmX6 : ∀ a, a < 1 → ∀ b, b < 1 → a ≠ b → (TX6 a).2.1 ≠ (TX6 b).2.1 := by decide +kernel
theorem tyX6_ok : ∀ k, k < 1 → parseFieldDescriptor (TX6 k).2.2.1 = some (tyX6 k) := by decide +kernel
abbrev cX6_init : ByteArray := prog_8_method_1_code
def yX6_init : MethodName := ⟨RX6, "<init>", "(I)V"⟩
abbrev cX6_has : ByteArray := prog_8_method_2_code
def yX6_has : MethodName := ⟨RX6, "has", "(I)Z"⟩
abbrev cX6_take : ByteArray := prog_8_method_3_code
def yX6_take : MethodName := ⟨RX6, "take", "(ILLoanHouse$House;)V"⟩
abbrev cX6_show : ByteArray := prog_8_method_4_code
def yX6_show : MethodName := ⟨RX6, "show", "(ILLoanHouse$House;)V"⟩
def RX7 : String := "LoanHouse"
def TX7 : u_T := fun k => match k with
  | 0 => ("LoanHouse", "house", "LLoanHouse$House;", true)
  | 1 => ("LoanHouse", "past", "LLoanHouse$Pictures;", true)
  | 2 => ("LoanHouse", "images", "LLoanHouse$Pictures;", true)
  | 3 => ("LoanHouse", "lots", "LLoanHouse$Lots;", true)
  | 4 => ("LoanHouse", "undoable", "I", false)
  | _ => ("LoanHouse", "nextPast", "I", false)
def tyX7 : Nat → FieldType := fun k => match k with
  | 0 => .object "LoanHouse$House"
  | 1 => .object "LoanHouse$Pictures"
  | 2 => .object "LoanHouse$Pictures"
  | 3 => .object "LoanHouse$Lots"
  | 4 => .int
  | _ => .int
abbrev wsX70 : List Cond := u_ws RX7 TX7 6
theorem nmX7 : ∀ a, a < 6 → ∀ b, b < 6 → a ≠ b → (TX7 a).2.1 ≠ (TX7 b).2.1 := by decide +kernel
theorem tyX7_ok : ∀ k, k < 6 → parseFieldDescriptor (TX7 k).2.2.1 = some (tyX7 k) := by decide +kernel
abbrev cX7_init : ByteArray := prog_1_method_1_code
def yX7_init : MethodName := ⟨RX7, "<init>", "()V"⟩
abbrev cX7_copy : ByteArray := prog_1_method_2_code
def yX7_copy : MethodName := ⟨RX7, "copy", "(II)I"⟩
abbrev cX7_lend : ByteArray := prog_1_method_3_code
def yX7_lend : MethodName := ⟨RX7, "lend", "(II)I"⟩
abbrev cX7_giveBack : ByteArray := prog_1_method_4_code
def yX7_giveBack : MethodName := ⟨RX7, "giveBack", "(II)I"⟩
abbrev cX7_renew : ByteArray := prog_1_method_5_code
def yX7_renew : MethodName := ⟨RX7, "renew", "(I)I"⟩
abbrev cX7_lose : ByteArray := prog_1_method_6_code
def yX7_lose : MethodName := ⟨RX7, "lose", "(I)I"⟩
abbrev cX7_hold : ByteArray := prog_1_method_7_code
def yX7_hold : MethodName := ⟨RX7, "hold", "(IIII)I"⟩
abbrev cX7_giveUp : ByteArray := prog_1_method_8_code
def yX7_giveUp : MethodName := ⟨RX7, "giveUp", "(I)I"⟩
abbrev cX7_pass : ByteArray := prog_1_method_9_code
def yX7_pass : MethodName := ⟨RX7, "pass", "(I)I"⟩
abbrev cX7_set : ByteArray := prog_1_method_10_code
def yX7_set : MethodName := ⟨RX7, "set", "(II)I"⟩
abbrev cX7_drift : ByteArray := prog_1_method_11_code
def yX7_drift : MethodName := ⟨RX7, "drift", "(II)I"⟩
abbrev cX7_undo : ByteArray := prog_1_method_12_code
def yX7_undo : MethodName := ⟨RX7, "undo", "()I"⟩
abbrev cX7_told : ByteArray := prog_1_method_13_code
def yX7_told : MethodName := ⟨RX7, "told", "(I)I"⟩
abbrev cX7_copyOf : ByteArray := prog_1_method_14_code
def yX7_copyOf : MethodName := ⟨RX7, "copyOf", "(II)I"⟩
abbrev cX7_holdOf : ByteArray := prog_1_method_15_code
def yX7_holdOf : MethodName := ⟨RX7, "holdOf", "(II)I"⟩
abbrev cX7_titleOf : ByteArray := prog_1_method_16_code
def yX7_titleOf : MethodName := ⟨RX7, "titleOf", "(II)I"⟩
abbrev cX7_readerOf : ByteArray := prog_1_method_17_code
def yX7_readerOf : MethodName := ⟨RX7, "readerOf", "(II)I"⟩
abbrev cX7_keep : ByteArray := prog_1_method_18_code
def yX7_keep : MethodName := ⟨RX7, "keep", "(I)I"⟩
abbrev cX7_goBack : ByteArray := prog_1_method_19_code
def yX7_goBack : MethodName := ⟨RX7, "goBack", "(I)I"⟩
abbrev cX7_remember : ByteArray := prog_1_method_20_code
def yX7_remember : MethodName := ⟨RX7, "remember", "()V"⟩
abbrev cX7_isCopy : ByteArray := prog_1_method_21_code
def yX7_isCopy : MethodName := ⟨RX7, "isCopy", "(I)Z"⟩
abbrev cX7_refusalToLend : ByteArray := prog_1_method_22_code
def yX7_refusalToLend : MethodName := ⟨RX7, "refusalToLend", "(II)I"⟩
abbrev cX7_refusalToTakeBack : ByteArray := prog_1_method_23_code
def yX7_refusalToTakeBack : MethodName := ⟨RX7, "refusalToTakeBack", "(II)I"⟩
abbrev cX7_refusalToHold : ByteArray := prog_1_method_24_code
def yX7_refusalToHold : MethodName := ⟨RX7, "refusalToHold", "(IIII)I"⟩
abbrev cX7_drawHold : ByteArray := prog_1_method_25_code
def yX7_drawHold : MethodName := ⟨RX7, "drawHold", "()V"⟩
abbrev cX7_drawLending : ByteArray := prog_1_method_26_code
def yX7_drawLending : MethodName := ⟨RX7, "drawLending", "()V"⟩
abbrev cX7_drawGivingBack : ByteArray := prog_1_method_27_code
def yX7_drawGivingBack : MethodName := ⟨RX7, "drawGivingBack", "()V"⟩
abbrev cX7_isBelow : ByteArray := prog_1_method_28_code
def yX7_isBelow : MethodName := ⟨RX7, "isBelow", "(II)Z"⟩
abbrev cX7_way : ByteArray := prog_1_method_29_code
def yX7_way : MethodName := ⟨RX7, "way", "(II)I"⟩
def RX8 : String := "LoanHouseModel"
def TX8 : u_T := fun k => match k with
  | 0 => ("LoanHouseModel", "st", "[I", true)
  | 1 => ("LoanHouseModel", "past", "[I", true)
  | 2 => ("LoanHouseModel", "undoMany", "I", false)
  | 3 => ("LoanHouseModel", "kept", "[I", true)
  | 4 => ("LoanHouseModel", "isKept", "[Z", true)
  | _ => ("LoanHouseModel", "lot", "J", false)
def tyX8 : Nat → FieldType := fun k => match k with
  | 0 => .array .int
  | 1 => .array .int
  | 2 => .int
  | 3 => .array .int
  | 4 => .array .boolean
  | _ => .long
abbrev wsX80 : List Cond := u_ws RX8 TX8 6
theorem nmX8 : ∀ a, a < 6 → ∀ b, b < 6 → a ≠ b → (TX8 a).2.1 ≠ (TX8 b).2.1 := by decide +kernel
theorem tyX8_ok : ∀ k, k < 6 → parseFieldDescriptor (TX8 k).2.2.1 = some (tyX8 k) := by decide +kernel
abbrev cX8_init : ByteArray := prog_10_method_1_code
def yX8_init : MethodName := ⟨RX8, "<init>", "()V"⟩
abbrev cX8_in : ByteArray := prog_10_method_2_code
def yX8_in : MethodName := ⟨RX8, "in", "(JJJ)Z"⟩
abbrev cX8_has : ByteArray := prog_10_method_3_code
def yX8_has : MethodName := ⟨RX8, "has", "(II)Z"⟩
abbrev cX8_copyAt : ByteArray := prog_10_method_4_code
def yX8_copyAt : MethodName := ⟨RX8, "copyAt", "(II)I"⟩
abbrev cX8_holdAt : ByteArray := prog_10_method_5_code
def yX8_holdAt : MethodName := ⟨RX8, "holdAt", "(II)I"⟩
abbrev cX8_setCopy : ByteArray := prog_10_method_6_code
def yX8_setCopy : MethodName := ⟨RX8, "setCopy", "(IIII)V"⟩
abbrev cX8_isCopy : ByteArray := prog_10_method_7_code
def yX8_isCopy : MethodName := ⟨RX8, "isCopy", "(I)Z"⟩
abbrev cX8_isBranch : ByteArray := prog_10_method_8_code
def yX8_isBranch : MethodName := ⟨RX8, "isBranch", "(I)Z"⟩
abbrev cX8_isTitle : ByteArray := prog_10_method_9_code
def yX8_isTitle : MethodName := ⟨RX8, "isTitle", "(I)Z"⟩
abbrev cX8_isReader : ByteArray := prog_10_method_10_code
def yX8_isReader : MethodName := ⟨RX8, "isReader", "(I)Z"⟩
abbrev cX8_wayOf : ByteArray := prog_10_method_11_code
def yX8_wayOf : MethodName := ⟨RX8, "wayOf", "(II)I"⟩
abbrev cX8_isClosed : ByteArray := prog_10_method_12_code
def yX8_isClosed : MethodName := ⟨RX8, "isClosed", "(I)Z"⟩
abbrev cX8_openDay : ByteArray := prog_10_method_13_code
def yX8_openDay : MethodName := ⟨RX8, "openDay", "(I)I"⟩
abbrev cX8_findHold : ByteArray := prog_10_method_14_code
def yX8_findHold : MethodName := ⟨RX8, "findHold", "(I)I"⟩
abbrev cX8_removeHold : ByteArray := prog_10_method_15_code
def yX8_removeHold : MethodName := ⟨RX8, "removeHold", "(I)V"⟩
abbrev cX8_isAhead : ByteArray := prog_10_method_16_code
def yX8_isAhead : MethodName := ⟨RX8, "isAhead", "(II)Z"⟩
abbrev cX8_waitsFor : ByteArray := prog_10_method_17_code
def yX8_waitsFor : MethodName := ⟨RX8, "waitsFor", "(II)Z"⟩
abbrev cX8_firstOf : ByteArray := prog_10_method_18_code
def yX8_firstOf : MethodName := ⟨RX8, "firstOf", "(I)I"⟩
abbrev cX8_rowOf : ByteArray := prog_10_method_19_code
def yX8_rowOf : MethodName := ⟨RX8, "rowOf", "(I)I"⟩
abbrev cX8_nearest : ByteArray := prog_10_method_20_code
def yX8_nearest : MethodName := ⟨RX8, "nearest", "(II)I"⟩
abbrev cX8_give : ByteArray := prog_10_method_21_code
def yX8_give : MethodName := ⟨RX8, "give", "(II)V"⟩
abbrev cX8_serve : ByteArray := prog_10_method_22_code
def yX8_serve : MethodName := ⟨RX8, "serve", "()V"⟩
abbrev cX8_passDay : ByteArray := prog_10_method_23_code
def yX8_passDay : MethodName := ⟨RX8, "passDay", "()V"⟩
abbrev cX8_note : ByteArray := prog_10_method_24_code
def yX8_note : MethodName := ⟨RX8, "note", "()V"⟩
abbrev cX8_copy : ByteArray := prog_10_method_25_code
def yX8_copy : MethodName := ⟨RX8, "copy", "(II)I"⟩
abbrev cX8_outsOf : ByteArray := prog_10_method_26_code
def yX8_outsOf : MethodName := ⟨RX8, "outsOf", "(I)I"⟩
abbrev cX8_ones : ByteArray := prog_10_method_27_code
def yX8_ones : MethodName := ⟨RX8, "ones", "(I)I"⟩
abbrev cX8_mayLend : ByteArray := prog_10_method_28_code
def yX8_mayLend : MethodName := ⟨RX8, "mayLend", "(II)Z"⟩
abbrev cX8_doLend : ByteArray := prog_10_method_29_code
def yX8_doLend : MethodName := ⟨RX8, "doLend", "(II)V"⟩
abbrev cX8_lend : ByteArray := prog_10_method_30_code
def yX8_lend : MethodName := ⟨RX8, "lend", "(II)I"⟩
abbrev cX8_stepOf : ByteArray := prog_10_method_31_code
def yX8_stepOf : MethodName := ⟨RX8, "stepOf", "(I)I"⟩
abbrev cX8_mayGiveBack : ByteArray := prog_10_method_32_code
def yX8_mayGiveBack : MethodName := ⟨RX8, "mayGiveBack", "(I)Z"⟩
abbrev cX8_doGiveBack : ByteArray := prog_10_method_33_code
def yX8_doGiveBack : MethodName := ⟨RX8, "doGiveBack", "(II)V"⟩
abbrev cX8_giveBack : ByteArray := prog_10_method_34_code
def yX8_giveBack : MethodName := ⟨RX8, "giveBack", "(II)I"⟩
abbrev cX8_renew : ByteArray := prog_10_method_35_code
def yX8_renew : MethodName := ⟨RX8, "renew", "(I)I"⟩
abbrev cX8_lose : ByteArray := prog_10_method_36_code
def yX8_lose : MethodName := ⟨RX8, "lose", "(I)I"⟩
abbrev cX8_mayHold : ByteArray := prog_10_method_37_code
def yX8_mayHold : MethodName := ⟨RX8, "mayHold", "(II)Z"⟩
abbrev cX8_doHold : ByteArray := prog_10_method_38_code
def yX8_doHold : MethodName := ⟨RX8, "doHold", "(IIII)I"⟩
abbrev cX8_hold : ByteArray := prog_10_method_39_code
def yX8_hold : MethodName := ⟨RX8, "hold", "(IIII)I"⟩
abbrev cX8_copyFor : ByteArray := prog_10_method_40_code
def yX8_copyFor : MethodName := ⟨RX8, "copyFor", "(I)I"⟩
abbrev cX8_giveUp : ByteArray := prog_10_method_41_code
def yX8_giveUp : MethodName := ⟨RX8, "giveUp", "(I)I"⟩
abbrev cX8_pass : ByteArray := prog_10_method_42_code
def yX8_pass : MethodName := ⟨RX8, "pass", "(I)I"⟩
abbrev cX8_set : ByteArray := prog_10_method_43_code
def yX8_set : MethodName := ⟨RX8, "set", "(II)I"⟩
abbrev cX8_lotOf : ByteArray := prog_10_method_44_code
def yX8_lotOf : MethodName := ⟨RX8, "lotOf", "(I)I"⟩
abbrev cX8_drawHold : ByteArray := prog_10_method_45_code
def yX8_drawHold : MethodName := ⟨RX8, "drawHold", "()V"⟩
abbrev cX8_drawCopy : ByteArray := prog_10_method_46_code
def yX8_drawCopy : MethodName := ⟨RX8, "drawCopy", "(Z)V"⟩
abbrev cX8_drift : ByteArray := prog_10_method_47_code
def yX8_drift : MethodName := ⟨RX8, "drift", "(II)I"⟩
abbrev cX8_undo : ByteArray := prog_10_method_48_code
def yX8_undo : MethodName := ⟨RX8, "undo", "()I"⟩
abbrev cX8_copiesThat : ByteArray := prog_10_method_49_code
def yX8_copiesThat : MethodName := ⟨RX8, "copiesThat", "(I)I"⟩
abbrev cX8_overdue : ByteArray := prog_10_method_50_code
def yX8_overdue : MethodName := ⟨RX8, "overdue", "()I"⟩
abbrev cX8_waiting : ByteArray := prog_10_method_51_code
def yX8_waiting : MethodName := ⟨RX8, "waiting", "()I"⟩
abbrev cX8_told : ByteArray := prog_10_method_52_code
def yX8_told : MethodName := ⟨RX8, "told", "(I)I"⟩
abbrev cX8_copyOf : ByteArray := prog_10_method_53_code
def yX8_copyOf : MethodName := ⟨RX8, "copyOf", "(II)I"⟩
abbrev cX8_placeOf : ByteArray := prog_10_method_54_code
def yX8_placeOf : MethodName := ⟨RX8, "placeOf", "(I)I"⟩
abbrev cX8_dayOf : ByteArray := prog_10_method_55_code
def yX8_dayOf : MethodName := ⟨RX8, "dayOf", "(I)I"⟩
abbrev cX8_soonOf : ByteArray := prog_10_method_56_code
def yX8_soonOf : MethodName := ⟨RX8, "soonOf", "(I)I"⟩
abbrev cX8_holdOf : ByteArray := prog_10_method_57_code
def yX8_holdOf : MethodName := ⟨RX8, "holdOf", "(II)I"⟩
abbrev cX8_copiesOf : ByteArray := prog_10_method_58_code
def yX8_copiesOf : MethodName := ⟨RX8, "copiesOf", "(IZ)I"⟩
abbrev cX8_longestOf : ByteArray := prog_10_method_59_code
def yX8_longestOf : MethodName := ⟨RX8, "longestOf", "(I)I"⟩
abbrev cX8_titleOf : ByteArray := prog_10_method_60_code
def yX8_titleOf : MethodName := ⟨RX8, "titleOf", "(II)I"⟩
abbrev cX8_owedBy : ByteArray := prog_10_method_61_code
def yX8_owedBy : MethodName := ⟨RX8, "owedBy", "(I)I"⟩
abbrev cX8_greatestStep : ByteArray := prog_10_method_62_code
def yX8_greatestStep : MethodName := ⟨RX8, "greatestStep", "(I)I"⟩
abbrev cX8_holdsOf : ByteArray := prog_10_method_63_code
def yX8_holdsOf : MethodName := ⟨RX8, "holdsOf", "(I)I"⟩
abbrev cX8_readerOf : ByteArray := prog_10_method_64_code
def yX8_readerOf : MethodName := ⟨RX8, "readerOf", "(II)I"⟩
abbrev cX8_keep : ByteArray := prog_10_method_65_code
def yX8_keep : MethodName := ⟨RX8, "keep", "(I)I"⟩
abbrev cX8_goBack : ByteArray := prog_10_method_66_code
def yX8_goBack : MethodName := ⟨RX8, "goBack", "(I)I"⟩
def RJ6 : String := "java/lang/Integer"
def TJ6 : u_T := fun k => match k with
  | _ => ("", "", "", false)
def tyJ6 : Nat → FieldType := fun k => match k with
  | _ => .int
abbrev wsJ60 : List Cond := u_ws RJ6 TJ6 0
theorem nmJ6 : ∀ a, a < 0 → ∀ b, b < 0 → a ≠ b → (TJ6 a).2.1 ≠ (TJ6 b).2.1 := by decide +kernel
theorem tyJ6_ok : ∀ k, k < 0 → parseFieldDescriptor (TJ6 k).2.2.1 = some (tyJ6 k) := by decide +kernel
abbrev cJ6_bitCount_0f7a4 : ByteArray := prog_11_method_49_code
def yJ6_bitCount_0f7a4 : MethodName := ⟨RJ6, "bitCount", "(I)I"⟩
def RJ9 : String := "java/lang/Math"
def TJ9 : u_T := fun k => match k with
  | _ => ("", "", "", false)
def tyJ9 : Nat → FieldType := fun k => match k with
  | _ => .int
abbrev wsJ90 : List Cond := u_ws RJ9 TJ9 0
theorem nmJ9 : ∀ a, a < 0 → ∀ b, b < 0 → a ≠ b → (TJ9 a).2.1 ≠ (TJ9 b).2.1 := by decide +kernel
theorem tyJ9_ok : ∀ k, k < 0 → parseFieldDescriptor (TJ9 k).2.2.1 = some (tyJ9 k) := by decide +kernel
abbrev cJ9_floorMod_7cf53 : ByteArray := prog_12_method_50_code
def yJ9_floorMod_7cf53 : MethodName := ⟨RJ9, "floorMod", "(II)I"⟩
abbrev cJ9_abs_0f7a4 : ByteArray := prog_12_method_59_code
def yJ9_abs_0f7a4 : MethodName := ⟨RJ9, "abs", "(I)I"⟩
abbrev cJ9_max_7cf53 : ByteArray := prog_12_method_65_code
def yJ9_max_7cf53 : MethodName := ⟨RJ9, "max", "(II)I"⟩
abbrev cJ9_min_7cf53 : ByteArray := prog_12_method_69_code
def yJ9_min_7cf53 : MethodName := ⟨RJ9, "min", "(II)I"⟩
def RJ10 : String := "java/lang/System"
def TJ10 : u_T := fun k => match k with
  | _ => ("", "", "", false)
def tyJ10 : Nat → FieldType := fun k => match k with
  | _ => .int
abbrev wsJ100 : List Cond := u_ws RJ10 TJ10 0
theorem nmJ10 : ∀ a, a < 0 → ∀ b, b < 0 → a ≠ b → (TJ10 a).2.1 ≠ (TJ10 b).2.1 := by decide +kernel
theorem tyJ10_ok : ∀ k, k < 0 → parseFieldDescriptor (TJ10 k).2.2.1 = some (tyJ10 k) := by decide +kernel
def RL : String := "LoanHouseLaw"
abbrev cL_law : ByteArray := code
def yL_law : MethodName := ⟨RL, "law", "([I)Z"⟩
def wsX0_init : List Cond := .code yX0_init cX0_init 1 none :: ([.methodLink RX0 3 objectInit, .instanceMethod objectInit, .code objectInit ⟨#[0xb1]⟩ 1 none, .fieldLink RX0 9 "LoanHouse$Calendar" "term" "I", .fieldLink RX0 15 "LoanHouse$Calendar" "patience" "I", .fieldLink RX0 18 "LoanHouse$Calendar" "closed" "I"] ++ wsX00)
def wsX0_allows : List Cond := .code yX0_allows cX0_allows 2 (some .boolean) :: ([])
def wsX0_change : List Cond := .code yX0_change cX0_change 4 (some .int) :: ([.fieldLink RX0 9 "LoanHouse$Calendar" "term" "I", .fieldLink RX0 15 "LoanHouse$Calendar" "patience" "I", .fieldLink RX0 18 "LoanHouse$Calendar" "closed" "I"] ++ wsX00)
def wsJ9_floorMod_7cf53 : List Cond := .code yJ9_floorMod_7cf53 cJ9_floorMod_7cf53 3 (some .int) :: ([])
def wsX0_isClosed : List Cond := .code yX0_isClosed cX0_isClosed 2 (some .boolean) :: ([.fieldLink RX0 18 "LoanHouse$Calendar" "closed" "I", .methodLink RX0 21 yJ9_floorMod_7cf53, .static yJ9_floorMod_7cf53, .initialized RJ9, .code yJ9_floorMod_7cf53 cJ9_floorMod_7cf53 3 (some .int)] ++ wsX00)
def wsX0_dueFromNow : List Cond := .code yX0_dueFromNow cX0_dueFromNow 3 (some .int) :: ([.fieldLink RX0 27 "LoanHouse$Calendar" "now" "I", .fieldLink RX0 9 "LoanHouse$Calendar" "term" "I", .methodLink RX0 30 yX0_isClosed, .instanceMethod yX0_isClosed, .selects RX0 yX0_isClosed yX0_isClosed, .initialized RX0, .code yX0_isClosed cX0_isClosed 2 (some .boolean), .fieldLink RX0 18 "LoanHouse$Calendar" "closed" "I", .methodLink RX0 21 yJ9_floorMod_7cf53, .static yJ9_floorMod_7cf53, .initialized RJ9, .code yJ9_floorMod_7cf53 cJ9_floorMod_7cf53 3 (some .int)] ++ wsX00)
def wsX0_lastOfPatience : List Cond := .code yX0_lastOfPatience cX0_lastOfPatience 1 (some .int) :: ([.fieldLink RX0 27 "LoanHouse$Calendar" "now" "I", .fieldLink RX0 15 "LoanHouse$Calendar" "patience" "I"] ++ wsX00)
def wsX0_become : List Cond := .code yX0_become cX0_become 2 none :: ([.fieldLink RX0 27 "LoanHouse$Calendar" "now" "I", .fieldLink RX0 9 "LoanHouse$Calendar" "term" "I", .fieldLink RX0 15 "LoanHouse$Calendar" "patience" "I", .fieldLink RX0 18 "LoanHouse$Calendar" "closed" "I"] ++ wsX00)
def wsX2_init : List Cond := .code yX2_init cX2_init 3 none :: ([.methodLink RX2 3 objectInit, .instanceMethod objectInit, .code objectInit ⟨#[0xb1]⟩ 1 none, .methodLink RX2 9 Lib.Math.max.name, .static Lib.Math.max.name, .initialized "java/lang/Math", .code Lib.Math.max.name Lib.Math.max.code 2 (some .int), .fieldLink RX2 15 "LoanHouse$Grid" "rows" "I", .fieldLink RX2 21 "LoanHouse$Grid" "columns" "I", .arrayClass .int, .fieldLink RX2 24 "LoanHouse$Grid" "cells" "[I"] ++ wsX20)
def wsX1_init : List Cond := .code yX1_init cX1_init 1 none :: ([.methodLink RX1 3 objectInit, .instanceMethod objectInit, .code objectInit ⟨#[0xb1]⟩ 1 none, .classLink RX1 9 RX2, .instantiable RX2 3, .initialized RX2, .fieldLink RX1 16 "LoanHouse$Copies" "grid" "LLoanHouse$Grid;", .methodLink RX1 13 yX2_init, .instanceMethod yX2_init, .code yX2_init cX2_init 3 none, .methodLink RX2 3 objectInit, .methodLink RX2 9 Lib.Math.max.name, .static Lib.Math.max.name, .initialized "java/lang/Math", .code Lib.Math.max.name Lib.Math.max.code 2 (some .int), .fieldLink RX2 15 "LoanHouse$Grid" "rows" "I", .fieldLink RX2 21 "LoanHouse$Grid" "columns" "I", .arrayClass .int, .fieldLink RX2 24 "LoanHouse$Grid" "cells" "[I"] ++ wsX20 ++ wsX10)
def wsX2_at : List Cond := .code yX2_at cX2_at 3 (some .int) :: ([.fieldLink RX2 15 "LoanHouse$Grid" "rows" "I", .fieldLink RX2 21 "LoanHouse$Grid" "columns" "I", .fieldLink RX2 24 "LoanHouse$Grid" "cells" "[I"] ++ wsX20)
def wsX1_title : List Cond := .code yX1_title cX1_title 2 (some .int) :: ([.fieldLink RX1 16 "LoanHouse$Copies" "grid" "LLoanHouse$Grid;", .methodLink RX1 20 yX2_at, .instanceMethod yX2_at, .selects RX2 yX2_at yX2_at, .initialized RX2, .code yX2_at cX2_at 3 (some .int), .fieldLink RX2 15 "LoanHouse$Grid" "rows" "I", .fieldLink RX2 21 "LoanHouse$Grid" "columns" "I", .fieldLink RX2 24 "LoanHouse$Grid" "cells" "[I"] ++ wsX10 ++ wsX20)
def wsX1_branch : List Cond := .code yX1_branch cX1_branch 2 (some .int) :: ([.fieldLink RX1 16 "LoanHouse$Copies" "grid" "LLoanHouse$Grid;", .methodLink RX1 20 yX2_at, .instanceMethod yX2_at, .selects RX2 yX2_at yX2_at, .initialized RX2, .code yX2_at cX2_at 3 (some .int), .fieldLink RX2 15 "LoanHouse$Grid" "rows" "I", .fieldLink RX2 21 "LoanHouse$Grid" "columns" "I", .fieldLink RX2 24 "LoanHouse$Grid" "cells" "[I"] ++ wsX10 ++ wsX20)
def wsX1_state : List Cond := .code yX1_state cX1_state 2 (some .int) :: ([.fieldLink RX1 16 "LoanHouse$Copies" "grid" "LLoanHouse$Grid;", .methodLink RX1 20 yX2_at, .instanceMethod yX2_at, .selects RX2 yX2_at yX2_at, .initialized RX2, .code yX2_at cX2_at 3 (some .int), .fieldLink RX2 15 "LoanHouse$Grid" "rows" "I", .fieldLink RX2 21 "LoanHouse$Grid" "columns" "I", .fieldLink RX2 24 "LoanHouse$Grid" "cells" "[I"] ++ wsX10 ++ wsX20)
def wsX1_whose : List Cond := .code yX1_whose cX1_whose 2 (some .int) :: ([.fieldLink RX1 16 "LoanHouse$Copies" "grid" "LLoanHouse$Grid;", .methodLink RX1 20 yX2_at, .instanceMethod yX2_at, .selects RX2 yX2_at yX2_at, .initialized RX2, .code yX2_at cX2_at 3 (some .int), .fieldLink RX2 15 "LoanHouse$Grid" "rows" "I", .fieldLink RX2 21 "LoanHouse$Grid" "columns" "I", .fieldLink RX2 24 "LoanHouse$Grid" "cells" "[I"] ++ wsX10 ++ wsX20)
def wsX1_day : List Cond := .code yX1_day cX1_day 2 (some .int) :: ([.fieldLink RX1 16 "LoanHouse$Copies" "grid" "LLoanHouse$Grid;", .methodLink RX1 20 yX2_at, .instanceMethod yX2_at, .selects RX2 yX2_at yX2_at, .initialized RX2, .code yX2_at cX2_at 3 (some .int), .fieldLink RX2 15 "LoanHouse$Grid" "rows" "I", .fieldLink RX2 21 "LoanHouse$Grid" "columns" "I", .fieldLink RX2 24 "LoanHouse$Grid" "cells" "[I"] ++ wsX10 ++ wsX20)
def wsX2_put : List Cond := .code yX2_put cX2_put 4 none :: ([.fieldLink RX2 15 "LoanHouse$Grid" "rows" "I", .fieldLink RX2 21 "LoanHouse$Grid" "columns" "I", .fieldLink RX2 24 "LoanHouse$Grid" "cells" "[I"] ++ wsX20)
def wsX1_write : List Cond := .code yX1_write cX1_write 6 none :: ([.fieldLink RX1 16 "LoanHouse$Copies" "grid" "LLoanHouse$Grid;", .methodLink RX1 28 yX2_put, .instanceMethod yX2_put, .selects RX2 yX2_put yX2_put, .initialized RX2, .code yX2_put cX2_put 4 none, .fieldLink RX2 15 "LoanHouse$Grid" "rows" "I", .fieldLink RX2 21 "LoanHouse$Grid" "columns" "I", .fieldLink RX2 24 "LoanHouse$Grid" "cells" "[I"] ++ wsX10 ++ wsX20)
def wsX1_add : List Cond := .code yX1_add cX1_add 4 (some .int) :: ([.fieldLink RX1 24 "LoanHouse$Copies" "count" "I", .fieldLink RX1 16 "LoanHouse$Copies" "grid" "LLoanHouse$Grid;", .methodLink RX1 28 yX2_put, .instanceMethod yX2_put, .selects RX2 yX2_put yX2_put, .initialized RX2, .code yX2_put cX2_put 4 none, .fieldLink RX2 15 "LoanHouse$Grid" "rows" "I", .fieldLink RX2 21 "LoanHouse$Grid" "columns" "I", .fieldLink RX2 24 "LoanHouse$Grid" "cells" "[I", .methodLink RX1 32 yX1_write, .instanceMethod yX1_write, .selects RX1 yX1_write yX1_write, .initialized RX1, .code yX1_write cX1_write 6 none] ++ wsX10 ++ wsX20)
def wsX1_thatAre : List Cond := .code yX1_thatAre cX1_thatAre 4 (some .int) :: ([.fieldLink RX1 24 "LoanHouse$Copies" "count" "I", .methodLink RX1 36 yX1_state, .instanceMethod yX1_state, .selects RX1 yX1_state yX1_state, .initialized RX1, .code yX1_state cX1_state 2 (some .int), .fieldLink RX1 16 "LoanHouse$Copies" "grid" "LLoanHouse$Grid;", .methodLink RX1 20 yX2_at, .instanceMethod yX2_at, .selects RX2 yX2_at yX2_at, .initialized RX2, .code yX2_at cX2_at 3 (some .int), .fieldLink RX2 15 "LoanHouse$Grid" "rows" "I", .fieldLink RX2 21 "LoanHouse$Grid" "columns" "I", .fieldLink RX2 24 "LoanHouse$Grid" "cells" "[I"] ++ wsX10 ++ wsX20)
def wsX1_ofTitle : List Cond := .code yX1_ofTitle cX1_ofTitle 4 (some .int) :: ([.fieldLink RX1 24 "LoanHouse$Copies" "count" "I", .methodLink RX1 40 yX1_title, .instanceMethod yX1_title, .selects RX1 yX1_title yX1_title, .initialized RX1, .code yX1_title cX1_title 2 (some .int), .fieldLink RX1 16 "LoanHouse$Copies" "grid" "LLoanHouse$Grid;", .methodLink RX1 20 yX2_at, .instanceMethod yX2_at, .selects RX2 yX2_at yX2_at, .initialized RX2, .code yX2_at cX2_at 3 (some .int), .fieldLink RX2 15 "LoanHouse$Grid" "rows" "I", .fieldLink RX2 21 "LoanHouse$Grid" "columns" "I", .fieldLink RX2 24 "LoanHouse$Grid" "cells" "[I"] ++ wsX10 ++ wsX20)
def wsX1_isOutTo : List Cond := .code yX1_isOutTo cX1_isOutTo 3 (some .boolean) :: ([.methodLink RX1 36 yX1_state, .instanceMethod yX1_state, .selects RX1 yX1_state yX1_state, .initialized RX1, .code yX1_state cX1_state 2 (some .int), .fieldLink RX1 16 "LoanHouse$Copies" "grid" "LLoanHouse$Grid;", .methodLink RX1 20 yX2_at, .instanceMethod yX2_at, .selects RX2 yX2_at yX2_at, .initialized RX2, .code yX2_at cX2_at 3 (some .int), .fieldLink RX2 15 "LoanHouse$Grid" "rows" "I", .fieldLink RX2 21 "LoanHouse$Grid" "columns" "I", .fieldLink RX2 24 "LoanHouse$Grid" "cells" "[I", .methodLink RX1 75 yX1_whose, .instanceMethod yX1_whose, .selects RX1 yX1_whose yX1_whose, .code yX1_whose cX1_whose 2 (some .int)] ++ wsX10 ++ wsX20)
def wsX1_outTo : List Cond := .code yX1_outTo cX1_outTo 4 (some .int) :: ([.fieldLink RX1 24 "LoanHouse$Copies" "count" "I", .methodLink RX1 43 yX1_isOutTo, .instanceMethod yX1_isOutTo, .selects RX1 yX1_isOutTo yX1_isOutTo, .initialized RX1, .code yX1_isOutTo cX1_isOutTo 3 (some .boolean), .methodLink RX1 36 yX1_state, .instanceMethod yX1_state, .selects RX1 yX1_state yX1_state, .code yX1_state cX1_state 2 (some .int), .fieldLink RX1 16 "LoanHouse$Copies" "grid" "LLoanHouse$Grid;", .methodLink RX1 20 yX2_at, .instanceMethod yX2_at, .selects RX2 yX2_at yX2_at, .initialized RX2, .code yX2_at cX2_at 3 (some .int), .fieldLink RX2 15 "LoanHouse$Grid" "rows" "I", .fieldLink RX2 21 "LoanHouse$Grid" "columns" "I", .fieldLink RX2 24 "LoanHouse$Grid" "cells" "[I", .methodLink RX1 75 yX1_whose, .instanceMethod yX1_whose, .selects RX1 yX1_whose yX1_whose, .code yX1_whose cX1_whose 2 (some .int)] ++ wsX10 ++ wsX20)
def wsX1_overdue : List Cond := .code yX1_overdue cX1_overdue 4 (some .int) :: ([.fieldLink RX1 24 "LoanHouse$Copies" "count" "I", .methodLink RX1 36 yX1_state, .instanceMethod yX1_state, .selects RX1 yX1_state yX1_state, .initialized RX1, .code yX1_state cX1_state 2 (some .int), .fieldLink RX1 16 "LoanHouse$Copies" "grid" "LLoanHouse$Grid;", .methodLink RX1 20 yX2_at, .instanceMethod yX2_at, .selects RX2 yX2_at yX2_at, .initialized RX2, .code yX2_at cX2_at 3 (some .int), .fieldLink RX2 15 "LoanHouse$Grid" "rows" "I", .fieldLink RX2 21 "LoanHouse$Grid" "columns" "I", .fieldLink RX2 24 "LoanHouse$Grid" "cells" "[I", .methodLink RX1 47 yX1_day, .instanceMethod yX1_day, .selects RX1 yX1_day yX1_day, .code yX1_day cX1_day 2 (some .int)] ++ wsX10 ++ wsX20)
def wsX1_step : List Cond := .code yX1_step cX1_step 4 (some .int) :: ([.methodLink RX1 50 Lib.Math.min.name, .static Lib.Math.min.name, .initialized "java/lang/Math", .code Lib.Math.min.name Lib.Math.min.code 2 (some .int), .methodLink RX1 36 yX1_state, .instanceMethod yX1_state, .selects RX1 yX1_state yX1_state, .initialized RX1, .code yX1_state cX1_state 2 (some .int), .fieldLink RX1 16 "LoanHouse$Copies" "grid" "LLoanHouse$Grid;", .methodLink RX1 20 yX2_at, .instanceMethod yX2_at, .selects RX2 yX2_at yX2_at, .initialized RX2, .code yX2_at cX2_at 3 (some .int), .fieldLink RX2 15 "LoanHouse$Grid" "rows" "I", .fieldLink RX2 21 "LoanHouse$Grid" "columns" "I", .fieldLink RX2 24 "LoanHouse$Grid" "cells" "[I", .methodLink RX1 47 yX1_day, .instanceMethod yX1_day, .selects RX1 yX1_day yX1_day, .code yX1_day cX1_day 2 (some .int)] ++ wsX10 ++ wsX20)
def wsX1_owedBy_r1 : List Cond := [Cond.fieldLink RX1 24 "LoanHouse$Copies" "count" "I", Cond.methodLink RX1 55 Lib.Math.max.name, Cond.static Lib.Math.max.name, Cond.initialized "java/lang/Math", Cond.code Lib.Math.max.name Lib.Math.max.code 2 (some .int), Cond.methodLink RX1 43 yX1_isOutTo, Cond.instanceMethod yX1_isOutTo, Cond.selects RX1 yX1_isOutTo yX1_isOutTo, Cond.initialized RX1, Cond.code yX1_isOutTo cX1_isOutTo 3 (some .boolean), Cond.methodLink RX1 36 yX1_state, Cond.instanceMethod yX1_state, Cond.selects RX1 yX1_state yX1_state, Cond.code yX1_state cX1_state 2 (some .int), Cond.fieldLink RX1 16 "LoanHouse$Copies" "grid" "LLoanHouse$Grid;", Cond.methodLink RX1 20 yX2_at, Cond.instanceMethod yX2_at, Cond.selects RX2 yX2_at yX2_at, Cond.initialized RX2, Cond.code yX2_at cX2_at 3 (some .int), Cond.fieldLink RX2 15 "LoanHouse$Grid" "rows" "I", Cond.fieldLink RX2 21 "LoanHouse$Grid" "columns" "I", Cond.fieldLink RX2 24 "LoanHouse$Grid" "cells" "[I", Cond.methodLink RX1 75 yX1_whose]
def wsX1_owedBy_r2 : List Cond := [Cond.instanceMethod yX1_whose, Cond.selects RX1 yX1_whose yX1_whose, Cond.code yX1_whose cX1_whose 2 (some .int), Cond.methodLink RX1 47 yX1_day, Cond.instanceMethod yX1_day, Cond.selects RX1 yX1_day yX1_day, Cond.code yX1_day cX1_day 2 (some .int)]
def wsX1_owedBy : List Cond := .code yX1_owedBy cX1_owedBy 5 (some .int) :: ((wsX1_owedBy_r1 ++ wsX1_owedBy_r2) ++ wsX10 ++ wsX20)
def wsX1_greatestStep_r1 : List Cond := [Cond.fieldLink RX1 24 "LoanHouse$Copies" "count" "I", Cond.methodLink RX1 55 Lib.Math.max.name, Cond.static Lib.Math.max.name, Cond.initialized "java/lang/Math", Cond.code Lib.Math.max.name Lib.Math.max.code 2 (some .int), Cond.methodLink RX1 43 yX1_isOutTo, Cond.instanceMethod yX1_isOutTo, Cond.selects RX1 yX1_isOutTo yX1_isOutTo, Cond.initialized RX1, Cond.code yX1_isOutTo cX1_isOutTo 3 (some .boolean), Cond.methodLink RX1 36 yX1_state, Cond.instanceMethod yX1_state, Cond.selects RX1 yX1_state yX1_state, Cond.code yX1_state cX1_state 2 (some .int), Cond.fieldLink RX1 16 "LoanHouse$Copies" "grid" "LLoanHouse$Grid;", Cond.methodLink RX1 20 yX2_at, Cond.instanceMethod yX2_at, Cond.selects RX2 yX2_at yX2_at, Cond.initialized RX2, Cond.code yX2_at cX2_at 3 (some .int), Cond.fieldLink RX2 15 "LoanHouse$Grid" "rows" "I", Cond.fieldLink RX2 21 "LoanHouse$Grid" "columns" "I", Cond.fieldLink RX2 24 "LoanHouse$Grid" "cells" "[I", Cond.methodLink RX1 75 yX1_whose]
def wsX1_greatestStep_r2 : List Cond := [Cond.instanceMethod yX1_whose, Cond.selects RX1 yX1_whose yX1_whose, Cond.code yX1_whose cX1_whose 2 (some .int), Cond.methodLink RX1 58 yX1_step, Cond.instanceMethod yX1_step, Cond.selects RX1 yX1_step yX1_step, Cond.code yX1_step cX1_step 4 (some .int), Cond.methodLink RX1 50 Lib.Math.min.name, Cond.static Lib.Math.min.name, Cond.code Lib.Math.min.name Lib.Math.min.code 2 (some .int), Cond.methodLink RX1 47 yX1_day, Cond.instanceMethod yX1_day, Cond.selects RX1 yX1_day yX1_day, Cond.code yX1_day cX1_day 2 (some .int)]
def wsX1_greatestStep : List Cond := .code yX1_greatestStep cX1_greatestStep 5 (some .int) :: ((wsX1_greatestStep_r1 ++ wsX1_greatestStep_r2) ++ wsX10 ++ wsX20)
def wsX7_way : List Cond := .code yX7_way cX7_way 3 (some .int) :: ([.methodLink RX7 264 Lib.Math.abs.name, .static Lib.Math.abs.name, .initialized "java/lang/Math", .code Lib.Math.abs.name Lib.Math.abs.code 1 (some .int), .methodLink RX7 256 Lib.Math.min.name, .static Lib.Math.min.name, .code Lib.Math.min.name Lib.Math.min.code 2 (some .int)])
def wsX1_nearestIn_r1 : List Cond := [Cond.fieldLink RX1 24 "LoanHouse$Copies" "count" "I", Cond.methodLink RX1 40 yX1_title, Cond.instanceMethod yX1_title, Cond.selects RX1 yX1_title yX1_title, Cond.initialized RX1, Cond.code yX1_title cX1_title 2 (some .int), Cond.fieldLink RX1 16 "LoanHouse$Copies" "grid" "LLoanHouse$Grid;", Cond.methodLink RX1 20 yX2_at, Cond.instanceMethod yX2_at, Cond.selects RX2 yX2_at yX2_at, Cond.initialized RX2, Cond.code yX2_at cX2_at 3 (some .int), Cond.fieldLink RX2 15 "LoanHouse$Grid" "rows" "I", Cond.fieldLink RX2 21 "LoanHouse$Grid" "columns" "I", Cond.fieldLink RX2 24 "LoanHouse$Grid" "cells" "[I", Cond.methodLink RX1 36 yX1_state, Cond.instanceMethod yX1_state, Cond.selects RX1 yX1_state yX1_state, Cond.code yX1_state cX1_state 2 (some .int), Cond.methodLink RX1 61 yX1_branch, Cond.instanceMethod yX1_branch, Cond.selects RX1 yX1_branch yX1_branch, Cond.code yX1_branch cX1_branch 2 (some .int), Cond.static yX7_way]
def wsX1_nearestIn_r2 : List Cond := [Cond.initialized RX7, Cond.code yX7_way cX7_way 3 (some .int), Cond.methodLink RX7 264 Lib.Math.abs.name, Cond.static Lib.Math.abs.name, Cond.initialized "java/lang/Math", Cond.code Lib.Math.abs.name Lib.Math.abs.code 1 (some .int), Cond.methodLink RX7 256 Lib.Math.min.name, Cond.static Lib.Math.min.name, Cond.code Lib.Math.min.name Lib.Math.min.code 2 (some .int)]
def wsX1_nearestIn : List Cond := .code yX1_nearestIn cX1_nearestIn 6 (some .int) :: ((wsX1_nearestIn_r1 ++ wsX1_nearestIn_r2) ++ wsX10 ++ wsX20)
def wsX1_dayIn_r1 : List Cond := [Cond.constant RX1 74 (99999), Cond.methodLink RX1 55 Lib.Math.max.name, Cond.static Lib.Math.max.name, Cond.initialized "java/lang/Math", Cond.code Lib.Math.max.name Lib.Math.max.code 2 (some .int), Cond.methodLink RX1 40 yX1_title, Cond.instanceMethod yX1_title, Cond.selects RX1 yX1_title yX1_title, Cond.initialized RX1, Cond.code yX1_title cX1_title 2 (some .int), Cond.fieldLink RX1 16 "LoanHouse$Copies" "grid" "LLoanHouse$Grid;", Cond.methodLink RX1 20 yX2_at, Cond.instanceMethod yX2_at, Cond.selects RX2 yX2_at yX2_at, Cond.initialized RX2, Cond.code yX2_at cX2_at 3 (some .int), Cond.fieldLink RX2 15 "LoanHouse$Grid" "rows" "I", Cond.fieldLink RX2 21 "LoanHouse$Grid" "columns" "I", Cond.fieldLink RX2 24 "LoanHouse$Grid" "cells" "[I", Cond.methodLink RX1 36 yX1_state, Cond.instanceMethod yX1_state, Cond.selects RX1 yX1_state yX1_state, Cond.code yX1_state cX1_state 2 (some .int), Cond.methodLink RX1 47 yX1_day]
def wsX1_dayIn_r2 : List Cond := [Cond.instanceMethod yX1_day, Cond.selects RX1 yX1_day yX1_day, Cond.code yX1_day cX1_day 2 (some .int)]
def wsX1_dayIn : List Cond := .code yX1_dayIn cX1_dayIn 4 (some .int) :: ((wsX1_dayIn_r1 ++ wsX1_dayIn_r2) ++ wsX10 ++ wsX20)
def wsX1_placeOfDay_r1 : List Cond := [Cond.fieldLink RX1 24 "LoanHouse$Copies" "count" "I", Cond.methodLink RX1 71 yX1_dayIn, Cond.instanceMethod yX1_dayIn, Cond.selects RX1 yX1_dayIn yX1_dayIn, Cond.initialized RX1, Cond.code yX1_dayIn cX1_dayIn 4 (some .int), Cond.constant RX1 74 (99999), Cond.methodLink RX1 55 Lib.Math.max.name, Cond.static Lib.Math.max.name, Cond.initialized "java/lang/Math", Cond.code Lib.Math.max.name Lib.Math.max.code 2 (some .int), Cond.methodLink RX1 40 yX1_title, Cond.instanceMethod yX1_title, Cond.selects RX1 yX1_title yX1_title, Cond.code yX1_title cX1_title 2 (some .int), Cond.fieldLink RX1 16 "LoanHouse$Copies" "grid" "LLoanHouse$Grid;", Cond.methodLink RX1 20 yX2_at, Cond.instanceMethod yX2_at, Cond.selects RX2 yX2_at yX2_at, Cond.initialized RX2, Cond.code yX2_at cX2_at 3 (some .int), Cond.fieldLink RX2 15 "LoanHouse$Grid" "rows" "I", Cond.fieldLink RX2 21 "LoanHouse$Grid" "columns" "I", Cond.fieldLink RX2 24 "LoanHouse$Grid" "cells" "[I"]
def wsX1_placeOfDay_r2 : List Cond := [Cond.methodLink RX1 36 yX1_state, Cond.instanceMethod yX1_state, Cond.selects RX1 yX1_state yX1_state, Cond.code yX1_state cX1_state 2 (some .int), Cond.methodLink RX1 47 yX1_day, Cond.instanceMethod yX1_day, Cond.selects RX1 yX1_day yX1_day, Cond.code yX1_day cX1_day 2 (some .int)]
def wsX1_placeOfDay : List Cond := .code yX1_placeOfDay cX1_placeOfDay 8 (some .int) :: ((wsX1_placeOfDay_r1 ++ wsX1_placeOfDay_r2) ++ wsX10 ++ wsX20)
def wsX1_dayAtPlace_r1 : List Cond := [Cond.fieldLink RX1 24 "LoanHouse$Copies" "count" "I", Cond.constant RX1 74 (99999), Cond.methodLink RX1 67 yX1_placeOfDay, Cond.instanceMethod yX1_placeOfDay, Cond.selects RX1 yX1_placeOfDay yX1_placeOfDay, Cond.initialized RX1, Cond.code yX1_placeOfDay cX1_placeOfDay 8 (some .int), Cond.methodLink RX1 71 yX1_dayIn, Cond.instanceMethod yX1_dayIn, Cond.selects RX1 yX1_dayIn yX1_dayIn, Cond.code yX1_dayIn cX1_dayIn 4 (some .int), Cond.methodLink RX1 55 Lib.Math.max.name, Cond.static Lib.Math.max.name, Cond.initialized "java/lang/Math", Cond.code Lib.Math.max.name Lib.Math.max.code 2 (some .int), Cond.methodLink RX1 40 yX1_title, Cond.instanceMethod yX1_title, Cond.selects RX1 yX1_title yX1_title, Cond.code yX1_title cX1_title 2 (some .int), Cond.fieldLink RX1 16 "LoanHouse$Copies" "grid" "LLoanHouse$Grid;", Cond.methodLink RX1 20 yX2_at, Cond.instanceMethod yX2_at, Cond.selects RX2 yX2_at yX2_at, Cond.initialized RX2]
def wsX1_dayAtPlace_r2 : List Cond := [Cond.code yX2_at cX2_at 3 (some .int), Cond.fieldLink RX2 15 "LoanHouse$Grid" "rows" "I", Cond.fieldLink RX2 21 "LoanHouse$Grid" "columns" "I", Cond.fieldLink RX2 24 "LoanHouse$Grid" "cells" "[I", Cond.methodLink RX1 36 yX1_state, Cond.instanceMethod yX1_state, Cond.selects RX1 yX1_state yX1_state, Cond.code yX1_state cX1_state 2 (some .int), Cond.methodLink RX1 47 yX1_day, Cond.instanceMethod yX1_day, Cond.selects RX1 yX1_day yX1_day, Cond.code yX1_day cX1_day 2 (some .int)]
def wsX1_dayAtPlace : List Cond := .code yX1_dayAtPlace cX1_dayAtPlace 5 (some .int) :: ((wsX1_dayAtPlace_r1 ++ wsX1_dayAtPlace_r2) ++ wsX10 ++ wsX20)
def wsX2_become : List Cond := .code yX2_become cX2_become 2 none :: ([.fieldLink RX2 24 "LoanHouse$Grid" "cells" "[I", .methodLink RX2 34 Lib.Math.min.name, .static Lib.Math.min.name, .initialized "java/lang/Math", .code Lib.Math.min.name Lib.Math.min.code 2 (some .int), .methodLink RX2 28 arraycopyName, .native arraycopyName, .static arraycopyName, .initialized "java/lang/System"] ++ wsX20)
def wsX1_become : List Cond := .code yX1_become cX1_become 2 none :: ([.fieldLink RX1 24 "LoanHouse$Copies" "count" "I", .fieldLink RX1 16 "LoanHouse$Copies" "grid" "LLoanHouse$Grid;", .methodLink RX1 78 yX2_become, .instanceMethod yX2_become, .selects RX2 yX2_become yX2_become, .initialized RX2, .code yX2_become cX2_become 2 none, .fieldLink RX2 24 "LoanHouse$Grid" "cells" "[I", .methodLink RX2 34 Lib.Math.min.name, .static Lib.Math.min.name, .initialized "java/lang/Math", .code Lib.Math.min.name Lib.Math.min.code 2 (some .int), .methodLink RX2 28 arraycopyName, .native arraycopyName, .static arraycopyName, .initialized "java/lang/System"] ++ wsX10 ++ wsX20)
def wsX2_takeOut : List Cond := .code yX2_takeOut cX2_takeOut 4 none :: ([.fieldLink RX2 15 "LoanHouse$Grid" "rows" "I", .fieldLink RX2 21 "LoanHouse$Grid" "columns" "I", .fieldLink RX2 24 "LoanHouse$Grid" "cells" "[I", .methodLink RX2 28 arraycopyName, .native arraycopyName, .static arraycopyName, .initialized "java/lang/System"] ++ wsX20)
def wsX3_init : List Cond := .code yX3_init cX3_init 1 none :: ([.methodLink RX3 3 objectInit, .instanceMethod objectInit, .code objectInit ⟨#[0xb1]⟩ 1 none, .classLink RX3 9 RX2, .instantiable RX2 3, .initialized RX2, .fieldLink RX3 16 "LoanHouse$Holds" "grid" "LLoanHouse$Grid;", .methodLink RX3 13 yX2_init, .instanceMethod yX2_init, .code yX2_init cX2_init 3 none, .methodLink RX2 3 objectInit, .methodLink RX2 9 Lib.Math.max.name, .static Lib.Math.max.name, .initialized "java/lang/Math", .code Lib.Math.max.name Lib.Math.max.code 2 (some .int), .fieldLink RX2 15 "LoanHouse$Grid" "rows" "I", .fieldLink RX2 21 "LoanHouse$Grid" "columns" "I", .arrayClass .int, .fieldLink RX2 24 "LoanHouse$Grid" "cells" "[I"] ++ wsX20 ++ wsX30)
def wsX3_reader : List Cond := .code yX3_reader cX3_reader 2 (some .int) :: ([.fieldLink RX3 16 "LoanHouse$Holds" "grid" "LLoanHouse$Grid;", .methodLink RX3 20 yX2_at, .instanceMethod yX2_at, .selects RX2 yX2_at yX2_at, .initialized RX2, .code yX2_at cX2_at 3 (some .int), .fieldLink RX2 15 "LoanHouse$Grid" "rows" "I", .fieldLink RX2 21 "LoanHouse$Grid" "columns" "I", .fieldLink RX2 24 "LoanHouse$Grid" "cells" "[I"] ++ wsX30 ++ wsX20)
def wsX3_title : List Cond := .code yX3_title cX3_title 2 (some .int) :: ([.fieldLink RX3 16 "LoanHouse$Holds" "grid" "LLoanHouse$Grid;", .methodLink RX3 20 yX2_at, .instanceMethod yX2_at, .selects RX2 yX2_at yX2_at, .initialized RX2, .code yX2_at cX2_at 3 (some .int), .fieldLink RX2 15 "LoanHouse$Grid" "rows" "I", .fieldLink RX2 21 "LoanHouse$Grid" "columns" "I", .fieldLink RX2 24 "LoanHouse$Grid" "cells" "[I"] ++ wsX30 ++ wsX20)
def wsX3_branch : List Cond := .code yX3_branch cX3_branch 2 (some .int) :: ([.fieldLink RX3 16 "LoanHouse$Holds" "grid" "LLoanHouse$Grid;", .methodLink RX3 20 yX2_at, .instanceMethod yX2_at, .selects RX2 yX2_at yX2_at, .initialized RX2, .code yX2_at cX2_at 3 (some .int), .fieldLink RX2 15 "LoanHouse$Grid" "rows" "I", .fieldLink RX2 21 "LoanHouse$Grid" "columns" "I", .fieldLink RX2 24 "LoanHouse$Grid" "cells" "[I"] ++ wsX30 ++ wsX20)
def wsX3_need : List Cond := .code yX3_need cX3_need 2 (some .int) :: ([.fieldLink RX3 16 "LoanHouse$Holds" "grid" "LLoanHouse$Grid;", .methodLink RX3 20 yX2_at, .instanceMethod yX2_at, .selects RX2 yX2_at yX2_at, .initialized RX2, .code yX2_at cX2_at 3 (some .int), .fieldLink RX2 15 "LoanHouse$Grid" "rows" "I", .fieldLink RX2 21 "LoanHouse$Grid" "columns" "I", .fieldLink RX2 24 "LoanHouse$Grid" "cells" "[I"] ++ wsX30 ++ wsX20)
def wsX3_made : List Cond := .code yX3_made cX3_made 2 (some .int) :: ([.fieldLink RX3 16 "LoanHouse$Holds" "grid" "LLoanHouse$Grid;", .methodLink RX3 20 yX2_at, .instanceMethod yX2_at, .selects RX2 yX2_at yX2_at, .initialized RX2, .code yX2_at cX2_at 3 (some .int), .fieldLink RX2 15 "LoanHouse$Grid" "rows" "I", .fieldLink RX2 21 "LoanHouse$Grid" "columns" "I", .fieldLink RX2 24 "LoanHouse$Grid" "cells" "[I"] ++ wsX30 ++ wsX20)
def wsX3_copyFor : List Cond := .code yX3_copyFor cX3_copyFor 2 (some .int) :: ([.fieldLink RX3 16 "LoanHouse$Holds" "grid" "LLoanHouse$Grid;", .methodLink RX3 20 yX2_at, .instanceMethod yX2_at, .selects RX2 yX2_at yX2_at, .initialized RX2, .code yX2_at cX2_at 3 (some .int), .fieldLink RX2 15 "LoanHouse$Grid" "rows" "I", .fieldLink RX2 21 "LoanHouse$Grid" "columns" "I", .fieldLink RX2 24 "LoanHouse$Grid" "cells" "[I"] ++ wsX30 ++ wsX20)
def wsX3_number : List Cond := .code yX3_number cX3_number 2 (some .int) :: ([.fieldLink RX3 16 "LoanHouse$Holds" "grid" "LLoanHouse$Grid;", .methodLink RX3 20 yX2_at, .instanceMethod yX2_at, .selects RX2 yX2_at yX2_at, .initialized RX2, .code yX2_at cX2_at 3 (some .int), .fieldLink RX2 15 "LoanHouse$Grid" "rows" "I", .fieldLink RX2 21 "LoanHouse$Grid" "columns" "I", .fieldLink RX2 24 "LoanHouse$Grid" "cells" "[I"] ++ wsX30 ++ wsX20)
def wsX3_slotOf : List Cond := .code yX3_slotOf cX3_slotOf 3 (some .int) :: ([.fieldLink RX3 24 "LoanHouse$Holds" "count" "I", .methodLink RX3 28 yX3_number, .instanceMethod yX3_number, .selects RX3 yX3_number yX3_number, .initialized RX3, .code yX3_number cX3_number 2 (some .int), .fieldLink RX3 16 "LoanHouse$Holds" "grid" "LLoanHouse$Grid;", .methodLink RX3 20 yX2_at, .instanceMethod yX2_at, .selects RX2 yX2_at yX2_at, .initialized RX2, .code yX2_at cX2_at 3 (some .int), .fieldLink RX2 15 "LoanHouse$Grid" "rows" "I", .fieldLink RX2 21 "LoanHouse$Grid" "columns" "I", .fieldLink RX2 24 "LoanHouse$Grid" "cells" "[I"] ++ wsX30 ++ wsX20)
def wsX3_add : List Cond := .code yX3_add cX3_add 7 (some .int) :: ([.fieldLink RX3 32 "LoanHouse$Holds" "nextNumber" "I", .fieldLink RX3 16 "LoanHouse$Holds" "grid" "LLoanHouse$Grid;", .fieldLink RX3 24 "LoanHouse$Holds" "count" "I", .methodLink RX3 35 yX2_put, .instanceMethod yX2_put, .selects RX2 yX2_put yX2_put, .initialized RX2, .code yX2_put cX2_put 4 none, .fieldLink RX2 15 "LoanHouse$Grid" "rows" "I", .fieldLink RX2 21 "LoanHouse$Grid" "columns" "I", .fieldLink RX2 24 "LoanHouse$Grid" "cells" "[I"] ++ wsX30 ++ wsX20)
def wsX7_isBelow : List Cond := .code yX7_isBelow cX7_isBelow 2 (some .boolean) :: ([])
def wsX3_takeOut : List Cond := .code yX3_takeOut cX3_takeOut 2 none :: ([.fieldLink RX3 24 "LoanHouse$Holds" "count" "I", .fieldLink RX3 16 "LoanHouse$Holds" "grid" "LLoanHouse$Grid;", .static yX7_isBelow, .initialized RX7, .code yX7_isBelow cX7_isBelow 2 (some .boolean), .methodLink RX3 43 yX2_takeOut, .instanceMethod yX2_takeOut, .selects RX2 yX2_takeOut yX2_takeOut, .initialized RX2, .code yX2_takeOut cX2_takeOut 4 none, .fieldLink RX2 15 "LoanHouse$Grid" "rows" "I", .fieldLink RX2 21 "LoanHouse$Grid" "columns" "I", .fieldLink RX2 24 "LoanHouse$Grid" "cells" "[I", .methodLink RX2 28 arraycopyName, .native arraycopyName, .static arraycopyName, .initialized "java/lang/System"] ++ wsX30 ++ wsX20)
def wsX3_putCopy : List Cond := .code yX3_putCopy cX3_putCopy 3 none :: ([.fieldLink RX3 24 "LoanHouse$Holds" "count" "I", .fieldLink RX3 16 "LoanHouse$Holds" "grid" "LLoanHouse$Grid;", .static yX7_isBelow, .initialized RX7, .code yX7_isBelow cX7_isBelow 2 (some .boolean), .methodLink RX3 35 yX2_put, .instanceMethod yX2_put, .selects RX2 yX2_put yX2_put, .initialized RX2, .code yX2_put cX2_put 4 none, .fieldLink RX2 15 "LoanHouse$Grid" "rows" "I", .fieldLink RX2 21 "LoanHouse$Grid" "columns" "I", .fieldLink RX2 24 "LoanHouse$Grid" "cells" "[I"] ++ wsX30 ++ wsX20)
def wsX3_waiting : List Cond := .code yX3_waiting cX3_waiting 3 (some .int) :: ([.fieldLink RX3 24 "LoanHouse$Holds" "count" "I", .methodLink RX3 47 yX3_copyFor, .instanceMethod yX3_copyFor, .selects RX3 yX3_copyFor yX3_copyFor, .initialized RX3, .code yX3_copyFor cX3_copyFor 2 (some .int), .fieldLink RX3 16 "LoanHouse$Holds" "grid" "LLoanHouse$Grid;", .methodLink RX3 20 yX2_at, .instanceMethod yX2_at, .selects RX2 yX2_at yX2_at, .initialized RX2, .code yX2_at cX2_at 3 (some .int), .fieldLink RX2 15 "LoanHouse$Grid" "rows" "I", .fieldLink RX2 21 "LoanHouse$Grid" "columns" "I", .fieldLink RX2 24 "LoanHouse$Grid" "cells" "[I"] ++ wsX30 ++ wsX20)
def wsX3_ofReader : List Cond := .code yX3_ofReader cX3_ofReader 4 (some .int) :: ([.fieldLink RX3 24 "LoanHouse$Holds" "count" "I", .methodLink RX3 50 yX3_reader, .instanceMethod yX3_reader, .selects RX3 yX3_reader yX3_reader, .initialized RX3, .code yX3_reader cX3_reader 2 (some .int), .fieldLink RX3 16 "LoanHouse$Holds" "grid" "LLoanHouse$Grid;", .methodLink RX3 20 yX2_at, .instanceMethod yX2_at, .selects RX2 yX2_at yX2_at, .initialized RX2, .code yX2_at cX2_at 3 (some .int), .fieldLink RX2 15 "LoanHouse$Grid" "rows" "I", .fieldLink RX2 21 "LoanHouse$Grid" "columns" "I", .fieldLink RX2 24 "LoanHouse$Grid" "cells" "[I"] ++ wsX30 ++ wsX20)
def wsX3_has : List Cond := .code yX3_has cX3_has 4 (some .boolean) :: ([.fieldLink RX3 24 "LoanHouse$Holds" "count" "I", .methodLink RX3 50 yX3_reader, .instanceMethod yX3_reader, .selects RX3 yX3_reader yX3_reader, .initialized RX3, .code yX3_reader cX3_reader 2 (some .int), .fieldLink RX3 16 "LoanHouse$Holds" "grid" "LLoanHouse$Grid;", .methodLink RX3 20 yX2_at, .instanceMethod yX2_at, .selects RX2 yX2_at yX2_at, .initialized RX2, .code yX2_at cX2_at 3 (some .int), .fieldLink RX2 15 "LoanHouse$Grid" "rows" "I", .fieldLink RX2 21 "LoanHouse$Grid" "columns" "I", .fieldLink RX2 24 "LoanHouse$Grid" "cells" "[I", .methodLink RX3 53 yX3_title, .instanceMethod yX3_title, .selects RX3 yX3_title yX3_title, .code yX3_title cX3_title 2 (some .int)] ++ wsX30 ++ wsX20)
def wsX3_isInRow : List Cond := .code yX3_isInRow cX3_isInRow 3 (some .boolean) :: ([.fieldLink RX3 16 "LoanHouse$Holds" "grid" "LLoanHouse$Grid;", .methodLink RX3 20 yX2_at, .instanceMethod yX2_at, .selects RX2 yX2_at yX2_at, .initialized RX2, .code yX2_at cX2_at 3 (some .int), .fieldLink RX2 15 "LoanHouse$Grid" "rows" "I", .fieldLink RX2 21 "LoanHouse$Grid" "columns" "I", .fieldLink RX2 24 "LoanHouse$Grid" "cells" "[I"] ++ wsX30 ++ wsX20)
def wsX3_rowLength : List Cond := .code yX3_rowLength cX3_rowLength 4 (some .int) :: ([.fieldLink RX3 24 "LoanHouse$Holds" "count" "I", .methodLink RX3 56 yX3_isInRow, .instanceMethod yX3_isInRow, .selects RX3 yX3_isInRow yX3_isInRow, .initialized RX3, .code yX3_isInRow cX3_isInRow 3 (some .boolean), .fieldLink RX3 16 "LoanHouse$Holds" "grid" "LLoanHouse$Grid;", .methodLink RX3 20 yX2_at, .instanceMethod yX2_at, .selects RX2 yX2_at yX2_at, .initialized RX2, .code yX2_at cX2_at 3 (some .int), .fieldLink RX2 15 "LoanHouse$Grid" "rows" "I", .fieldLink RX2 21 "LoanHouse$Grid" "columns" "I", .fieldLink RX2 24 "LoanHouse$Grid" "cells" "[I"] ++ wsX30 ++ wsX20)
def wsX3_firstOfRow : List Cond := .code yX3_firstOfRow cX3_firstOfRow 4 (some .int) :: ([.fieldLink RX3 24 "LoanHouse$Holds" "count" "I", .methodLink RX3 56 yX3_isInRow, .instanceMethod yX3_isInRow, .selects RX3 yX3_isInRow yX3_isInRow, .initialized RX3, .code yX3_isInRow cX3_isInRow 3 (some .boolean), .fieldLink RX3 16 "LoanHouse$Holds" "grid" "LLoanHouse$Grid;", .methodLink RX3 20 yX2_at, .instanceMethod yX2_at, .selects RX2 yX2_at yX2_at, .initialized RX2, .code yX2_at cX2_at 3 (some .int), .fieldLink RX2 15 "LoanHouse$Grid" "rows" "I", .fieldLink RX2 21 "LoanHouse$Grid" "columns" "I", .fieldLink RX2 24 "LoanHouse$Grid" "cells" "[I", .methodLink RX3 59 yX3_need, .instanceMethod yX3_need, .selects RX3 yX3_need yX3_need, .code yX3_need cX3_need 2 (some .int)] ++ wsX30 ++ wsX20)
def wsX3_isAhead : List Cond := .code yX3_isAhead cX3_isAhead 3 (some .boolean) :: ([.methodLink RX3 59 yX3_need, .instanceMethod yX3_need, .selects RX3 yX3_need yX3_need, .initialized RX3, .code yX3_need cX3_need 2 (some .int), .fieldLink RX3 16 "LoanHouse$Holds" "grid" "LLoanHouse$Grid;", .methodLink RX3 20 yX2_at, .instanceMethod yX2_at, .selects RX2 yX2_at yX2_at, .initialized RX2, .code yX2_at cX2_at 3 (some .int), .fieldLink RX2 15 "LoanHouse$Grid" "rows" "I", .fieldLink RX2 21 "LoanHouse$Grid" "columns" "I", .fieldLink RX2 24 "LoanHouse$Grid" "cells" "[I"] ++ wsX30 ++ wsX20)
def wsX3_placeInRow_r1 : List Cond := [Cond.fieldLink RX3 24 "LoanHouse$Holds" "count" "I", Cond.methodLink RX3 53 yX3_title, Cond.instanceMethod yX3_title, Cond.selects RX3 yX3_title yX3_title, Cond.initialized RX3, Cond.code yX3_title cX3_title 2 (some .int), Cond.fieldLink RX3 16 "LoanHouse$Holds" "grid" "LLoanHouse$Grid;", Cond.methodLink RX3 20 yX2_at, Cond.instanceMethod yX2_at, Cond.selects RX2 yX2_at yX2_at, Cond.initialized RX2, Cond.code yX2_at cX2_at 3 (some .int), Cond.fieldLink RX2 15 "LoanHouse$Grid" "rows" "I", Cond.fieldLink RX2 21 "LoanHouse$Grid" "columns" "I", Cond.fieldLink RX2 24 "LoanHouse$Grid" "cells" "[I", Cond.methodLink RX3 56 yX3_isInRow, Cond.instanceMethod yX3_isInRow, Cond.selects RX3 yX3_isInRow yX3_isInRow, Cond.code yX3_isInRow cX3_isInRow 3 (some .boolean), Cond.methodLink RX3 62 yX3_isAhead, Cond.instanceMethod yX3_isAhead, Cond.selects RX3 yX3_isAhead yX3_isAhead, Cond.code yX3_isAhead cX3_isAhead 3 (some .boolean), Cond.methodLink RX3 59 yX3_need]
def wsX3_placeInRow_r2 : List Cond := [Cond.instanceMethod yX3_need, Cond.selects RX3 yX3_need yX3_need, Cond.code yX3_need cX3_need 2 (some .int)]
def wsX3_placeInRow : List Cond := .code yX3_placeInRow cX3_placeInRow 4 (some .int) :: ((wsX3_placeInRow_r1 ++ wsX3_placeInRow_r2) ++ wsX30 ++ wsX20)
def wsX3_longestWait : List Cond := .code yX3_longestWait cX3_longestWait 5 (some .int) :: ([.fieldLink RX3 24 "LoanHouse$Holds" "count" "I", .methodLink RX3 68 Lib.Math.max.name, .static Lib.Math.max.name, .initialized "java/lang/Math", .code Lib.Math.max.name Lib.Math.max.code 2 (some .int), .methodLink RX3 56 yX3_isInRow, .instanceMethod yX3_isInRow, .selects RX3 yX3_isInRow yX3_isInRow, .initialized RX3, .code yX3_isInRow cX3_isInRow 3 (some .boolean), .fieldLink RX3 16 "LoanHouse$Holds" "grid" "LLoanHouse$Grid;", .methodLink RX3 20 yX2_at, .instanceMethod yX2_at, .selects RX2 yX2_at yX2_at, .initialized RX2, .code yX2_at cX2_at 3 (some .int), .fieldLink RX2 15 "LoanHouse$Grid" "rows" "I", .fieldLink RX2 21 "LoanHouse$Grid" "columns" "I", .fieldLink RX2 24 "LoanHouse$Grid" "cells" "[I", .methodLink RX3 65 yX3_made, .instanceMethod yX3_made, .selects RX3 yX3_made yX3_made, .code yX3_made cX3_made 2 (some .int)] ++ wsX30 ++ wsX20)
def wsX3_become : List Cond := .code yX3_become cX3_become 2 none :: ([.fieldLink RX3 24 "LoanHouse$Holds" "count" "I", .fieldLink RX3 32 "LoanHouse$Holds" "nextNumber" "I", .fieldLink RX3 16 "LoanHouse$Holds" "grid" "LLoanHouse$Grid;", .methodLink RX3 73 yX2_become, .instanceMethod yX2_become, .selects RX2 yX2_become yX2_become, .initialized RX2, .code yX2_become cX2_become 2 none, .fieldLink RX2 24 "LoanHouse$Grid" "cells" "[I", .methodLink RX2 34 Lib.Math.min.name, .static Lib.Math.min.name, .initialized "java/lang/Math", .code Lib.Math.min.name Lib.Math.min.code 2 (some .int), .methodLink RX2 28 arraycopyName, .native arraycopyName, .static arraycopyName, .initialized "java/lang/System"] ++ wsX30 ++ wsX20)
def wsX4_init_r1 : List Cond := [Cond.methodLink RX4 3 objectInit, Cond.instanceMethod objectInit, Cond.code objectInit ⟨#[0xb1]⟩ 1 none, Cond.classLink RX4 9 RX0, Cond.instantiable RX0 4, Cond.initialized RX0, Cond.fieldLink RX4 12 "LoanHouse$House" "calendar" "LLoanHouse$Calendar;", Cond.classLink RX4 18 RX1, Cond.instantiable RX1 2, Cond.initialized RX1, Cond.fieldLink RX4 21 "LoanHouse$House" "copies" "LLoanHouse$Copies;", Cond.classLink RX4 25 RX3, Cond.instantiable RX3 3, Cond.initialized RX3, Cond.fieldLink RX4 28 "LoanHouse$House" "holds" "LLoanHouse$Holds;", Cond.instanceMethod yX0_init, Cond.code yX0_init cX0_init 1 none, Cond.methodLink RX0 3 objectInit, Cond.fieldLink RX0 9 "LoanHouse$Calendar" "term" "I", Cond.fieldLink RX0 15 "LoanHouse$Calendar" "patience" "I", Cond.fieldLink RX0 18 "LoanHouse$Calendar" "closed" "I", Cond.instanceMethod yX1_init, Cond.code yX1_init cX1_init 1 none, Cond.methodLink RX1 3 objectInit]
def wsX4_init_r2 : List Cond := [Cond.classLink RX1 9 RX2, Cond.instantiable RX2 3, Cond.initialized RX2, Cond.fieldLink RX1 16 "LoanHouse$Copies" "grid" "LLoanHouse$Grid;", Cond.methodLink RX1 13 yX2_init, Cond.instanceMethod yX2_init, Cond.code yX2_init cX2_init 3 none, Cond.methodLink RX2 3 objectInit, Cond.methodLink RX2 9 Lib.Math.max.name, Cond.static Lib.Math.max.name, Cond.initialized "java/lang/Math", Cond.code Lib.Math.max.name Lib.Math.max.code 2 (some .int), Cond.fieldLink RX2 15 "LoanHouse$Grid" "rows" "I", Cond.fieldLink RX2 21 "LoanHouse$Grid" "columns" "I", Cond.arrayClass .int, Cond.fieldLink RX2 24 "LoanHouse$Grid" "cells" "[I", Cond.instanceMethod yX3_init, Cond.code yX3_init cX3_init 1 none, Cond.methodLink RX3 3 objectInit, Cond.classLink RX3 9 RX2, Cond.fieldLink RX3 16 "LoanHouse$Holds" "grid" "LLoanHouse$Grid;", Cond.methodLink RX3 13 yX2_init]
def wsX4_init : List Cond := .code yX4_init cX4_init 1 none :: ((wsX4_init_r1 ++ wsX4_init_r2) ++ wsX00 ++ wsX40 ++ wsX10 ++ wsX30 ++ wsX20)
def wsX4_assign_r1 : List Cond := [Cond.fieldLink RX4 21 "LoanHouse$House" "copies" "LLoanHouse$Copies;", Cond.fieldLink RX4 28 "LoanHouse$House" "holds" "LLoanHouse$Holds;", Cond.fieldLink RX4 12 "LoanHouse$House" "calendar" "LLoanHouse$Calendar;", Cond.fieldLink RX4 95 "LoanHouse$House" "trips" "I", Cond.methodLink RX4 60 yX1_branch, Cond.instanceMethod yX1_branch, Cond.selects RX1 yX1_branch yX1_branch, Cond.initialized RX1, Cond.code yX1_branch cX1_branch 2 (some .int), Cond.fieldLink RX1 16 "LoanHouse$Copies" "grid" "LLoanHouse$Grid;", Cond.methodLink RX1 20 yX2_at, Cond.instanceMethod yX2_at, Cond.selects RX2 yX2_at yX2_at, Cond.initialized RX2, Cond.code yX2_at cX2_at 3 (some .int), Cond.fieldLink RX2 15 "LoanHouse$Grid" "rows" "I", Cond.fieldLink RX2 21 "LoanHouse$Grid" "columns" "I", Cond.fieldLink RX2 24 "LoanHouse$Grid" "cells" "[I", Cond.methodLink RX4 111 yX3_branch, Cond.instanceMethod yX3_branch, Cond.selects RX3 yX3_branch yX3_branch, Cond.initialized RX3, Cond.code yX3_branch cX3_branch 2 (some .int), Cond.fieldLink RX3 16 "LoanHouse$Holds" "grid" "LLoanHouse$Grid;"]
def wsX4_assign_r2 : List Cond := [Cond.methodLink RX3 20 yX2_at, Cond.methodLink RX4 118 yX3_number, Cond.instanceMethod yX3_number, Cond.selects RX3 yX3_number yX3_number, Cond.code yX3_number cX3_number 2 (some .int), Cond.methodLink RX4 82 yX3_putCopy, Cond.instanceMethod yX3_putCopy, Cond.selects RX3 yX3_putCopy yX3_putCopy, Cond.code yX3_putCopy cX3_putCopy 3 none, Cond.fieldLink RX3 24 "LoanHouse$Holds" "count" "I", Cond.static yX7_isBelow, Cond.initialized RX7, Cond.code yX7_isBelow cX7_isBelow 2 (some .boolean), Cond.methodLink RX3 35 yX2_put, Cond.instanceMethod yX2_put, Cond.selects RX2 yX2_put yX2_put, Cond.code yX2_put cX2_put 4 none, Cond.methodLink RX4 105 yX0_lastOfPatience, Cond.instanceMethod yX0_lastOfPatience, Cond.selects RX0 yX0_lastOfPatience yX0_lastOfPatience, Cond.initialized RX0, Cond.code yX0_lastOfPatience cX0_lastOfPatience 1 (some .int), Cond.fieldLink RX0 27 "LoanHouse$Calendar" "now" "I", Cond.fieldLink RX0 15 "LoanHouse$Calendar" "patience" "I"]
def wsX4_assign_r3 : List Cond := [Cond.methodLink RX4 63 yX1_write, Cond.instanceMethod yX1_write, Cond.selects RX1 yX1_write yX1_write, Cond.code yX1_write cX1_write 6 none, Cond.methodLink RX1 28 yX2_put, Cond.static yX7_way, Cond.code yX7_way cX7_way 3 (some .int), Cond.methodLink RX7 264 Lib.Math.abs.name, Cond.static Lib.Math.abs.name, Cond.initialized "java/lang/Math", Cond.code Lib.Math.abs.name Lib.Math.abs.code 1 (some .int), Cond.methodLink RX7 256 Lib.Math.min.name, Cond.static Lib.Math.min.name, Cond.code Lib.Math.min.name Lib.Math.min.code 2 (some .int)]
def wsX4_assign : List Cond := .code yX4_assign cX4_assign 6 none :: ((wsX4_assign_r1 ++ (wsX4_assign_r2 ++ wsX4_assign_r3)) ++ wsX40 ++ wsX00 ++ wsX10 ++ wsX20 ++ wsX30)
def wsX4_serve_r1 : List Cond := [Cond.fieldLink RX4 28 "LoanHouse$House" "holds" "LLoanHouse$Holds;", Cond.fieldLink RX4 21 "LoanHouse$House" "copies" "LLoanHouse$Copies;", Cond.methodLink RX4 108 yX3_firstOfRow, Cond.instanceMethod yX3_firstOfRow, Cond.selects RX3 yX3_firstOfRow yX3_firstOfRow, Cond.initialized RX3, Cond.code yX3_firstOfRow cX3_firstOfRow 4 (some .int), Cond.fieldLink RX3 24 "LoanHouse$Holds" "count" "I", Cond.methodLink RX3 56 yX3_isInRow, Cond.instanceMethod yX3_isInRow, Cond.selects RX3 yX3_isInRow yX3_isInRow, Cond.code yX3_isInRow cX3_isInRow 3 (some .boolean), Cond.fieldLink RX3 16 "LoanHouse$Holds" "grid" "LLoanHouse$Grid;", Cond.methodLink RX3 20 yX2_at, Cond.instanceMethod yX2_at, Cond.selects RX2 yX2_at yX2_at, Cond.initialized RX2, Cond.code yX2_at cX2_at 3 (some .int), Cond.fieldLink RX2 15 "LoanHouse$Grid" "rows" "I", Cond.fieldLink RX2 21 "LoanHouse$Grid" "columns" "I", Cond.fieldLink RX2 24 "LoanHouse$Grid" "cells" "[I", Cond.methodLink RX3 59 yX3_need, Cond.instanceMethod yX3_need, Cond.selects RX3 yX3_need yX3_need]
def wsX4_serve_r2 : List Cond := [Cond.code yX3_need cX3_need 2 (some .int), Cond.methodLink RX4 111 yX3_branch, Cond.instanceMethod yX3_branch, Cond.selects RX3 yX3_branch yX3_branch, Cond.code yX3_branch cX3_branch 2 (some .int), Cond.methodLink RX4 112 yX1_nearestIn, Cond.instanceMethod yX1_nearestIn, Cond.selects RX1 yX1_nearestIn yX1_nearestIn, Cond.initialized RX1, Cond.code yX1_nearestIn cX1_nearestIn 6 (some .int), Cond.fieldLink RX1 24 "LoanHouse$Copies" "count" "I", Cond.methodLink RX1 40 yX1_title, Cond.instanceMethod yX1_title, Cond.selects RX1 yX1_title yX1_title, Cond.code yX1_title cX1_title 2 (some .int), Cond.fieldLink RX1 16 "LoanHouse$Copies" "grid" "LLoanHouse$Grid;", Cond.methodLink RX1 20 yX2_at, Cond.methodLink RX1 36 yX1_state, Cond.instanceMethod yX1_state, Cond.selects RX1 yX1_state yX1_state, Cond.code yX1_state cX1_state 2 (some .int), Cond.methodLink RX1 61 yX1_branch, Cond.instanceMethod yX1_branch, Cond.selects RX1 yX1_branch yX1_branch]
def wsX4_serve_r3 : List Cond := [Cond.code yX1_branch cX1_branch 2 (some .int), Cond.static yX7_way, Cond.initialized RX7, Cond.code yX7_way cX7_way 3 (some .int), Cond.methodLink RX7 264 Lib.Math.abs.name, Cond.static Lib.Math.abs.name, Cond.initialized "java/lang/Math", Cond.code Lib.Math.abs.name Lib.Math.abs.code 1 (some .int), Cond.methodLink RX7 256 Lib.Math.min.name, Cond.static Lib.Math.min.name, Cond.code Lib.Math.min.name Lib.Math.min.code 2 (some .int), Cond.methodLink RX4 115 yX4_assign, Cond.instanceMethod yX4_assign, Cond.selects RX4 yX4_assign yX4_assign, Cond.initialized RX4, Cond.code yX4_assign cX4_assign 6 none, Cond.fieldLink RX4 12 "LoanHouse$House" "calendar" "LLoanHouse$Calendar;", Cond.fieldLink RX4 95 "LoanHouse$House" "trips" "I", Cond.methodLink RX4 60 yX1_branch, Cond.methodLink RX4 118 yX3_number, Cond.instanceMethod yX3_number, Cond.selects RX3 yX3_number yX3_number, Cond.code yX3_number cX3_number 2 (some .int), Cond.methodLink RX4 82 yX3_putCopy]
def wsX4_serve_r4 : List Cond := [Cond.instanceMethod yX3_putCopy, Cond.selects RX3 yX3_putCopy yX3_putCopy, Cond.code yX3_putCopy cX3_putCopy 3 none, Cond.static yX7_isBelow, Cond.code yX7_isBelow cX7_isBelow 2 (some .boolean), Cond.methodLink RX3 35 yX2_put, Cond.instanceMethod yX2_put, Cond.selects RX2 yX2_put yX2_put, Cond.code yX2_put cX2_put 4 none, Cond.methodLink RX4 105 yX0_lastOfPatience, Cond.instanceMethod yX0_lastOfPatience, Cond.selects RX0 yX0_lastOfPatience yX0_lastOfPatience, Cond.initialized RX0, Cond.code yX0_lastOfPatience cX0_lastOfPatience 1 (some .int), Cond.fieldLink RX0 27 "LoanHouse$Calendar" "now" "I", Cond.fieldLink RX0 15 "LoanHouse$Calendar" "patience" "I", Cond.methodLink RX4 63 yX1_write, Cond.instanceMethod yX1_write, Cond.selects RX1 yX1_write yX1_write, Cond.code yX1_write cX1_write 6 none, Cond.methodLink RX1 28 yX2_put]
def wsX4_serve : List Cond := .code yX4_serve cX4_serve 5 none :: ((wsX4_serve_r1 ++ (wsX4_serve_r2 ++ (wsX4_serve_r3 ++ wsX4_serve_r4))) ++ wsX40 ++ wsX30 ++ wsX20 ++ wsX10 ++ wsX00)
def wsX4_addCopy_r1 : List Cond := [Cond.fieldLink RX4 21 "LoanHouse$House" "copies" "LLoanHouse$Copies;", Cond.methodLink RX4 32 yX1_add, Cond.instanceMethod yX1_add, Cond.selects RX1 yX1_add yX1_add, Cond.initialized RX1, Cond.code yX1_add cX1_add 4 (some .int), Cond.fieldLink RX1 24 "LoanHouse$Copies" "count" "I", Cond.fieldLink RX1 16 "LoanHouse$Copies" "grid" "LLoanHouse$Grid;", Cond.methodLink RX1 28 yX2_put, Cond.instanceMethod yX2_put, Cond.selects RX2 yX2_put yX2_put, Cond.initialized RX2, Cond.code yX2_put cX2_put 4 none, Cond.fieldLink RX2 15 "LoanHouse$Grid" "rows" "I", Cond.fieldLink RX2 21 "LoanHouse$Grid" "columns" "I", Cond.fieldLink RX2 24 "LoanHouse$Grid" "cells" "[I", Cond.methodLink RX1 32 yX1_write, Cond.instanceMethod yX1_write, Cond.selects RX1 yX1_write yX1_write, Cond.code yX1_write cX1_write 6 none, Cond.methodLink RX4 36 yX4_serve, Cond.instanceMethod yX4_serve, Cond.selects RX4 yX4_serve yX4_serve, Cond.initialized RX4]
def wsX4_addCopy_r2 : List Cond := [Cond.code yX4_serve cX4_serve 5 none, Cond.fieldLink RX4 28 "LoanHouse$House" "holds" "LLoanHouse$Holds;", Cond.methodLink RX4 108 yX3_firstOfRow, Cond.instanceMethod yX3_firstOfRow, Cond.selects RX3 yX3_firstOfRow yX3_firstOfRow, Cond.initialized RX3, Cond.code yX3_firstOfRow cX3_firstOfRow 4 (some .int), Cond.fieldLink RX3 24 "LoanHouse$Holds" "count" "I", Cond.methodLink RX3 56 yX3_isInRow, Cond.instanceMethod yX3_isInRow, Cond.selects RX3 yX3_isInRow yX3_isInRow, Cond.code yX3_isInRow cX3_isInRow 3 (some .boolean), Cond.fieldLink RX3 16 "LoanHouse$Holds" "grid" "LLoanHouse$Grid;", Cond.methodLink RX3 20 yX2_at, Cond.instanceMethod yX2_at, Cond.selects RX2 yX2_at yX2_at, Cond.code yX2_at cX2_at 3 (some .int), Cond.methodLink RX3 59 yX3_need, Cond.instanceMethod yX3_need, Cond.selects RX3 yX3_need yX3_need, Cond.code yX3_need cX3_need 2 (some .int), Cond.methodLink RX4 111 yX3_branch, Cond.instanceMethod yX3_branch, Cond.selects RX3 yX3_branch yX3_branch]
def wsX4_addCopy_r3 : List Cond := [Cond.code yX3_branch cX3_branch 2 (some .int), Cond.methodLink RX4 112 yX1_nearestIn, Cond.instanceMethod yX1_nearestIn, Cond.selects RX1 yX1_nearestIn yX1_nearestIn, Cond.code yX1_nearestIn cX1_nearestIn 6 (some .int), Cond.methodLink RX1 40 yX1_title, Cond.instanceMethod yX1_title, Cond.selects RX1 yX1_title yX1_title, Cond.code yX1_title cX1_title 2 (some .int), Cond.methodLink RX1 20 yX2_at, Cond.methodLink RX1 36 yX1_state, Cond.instanceMethod yX1_state, Cond.selects RX1 yX1_state yX1_state, Cond.code yX1_state cX1_state 2 (some .int), Cond.methodLink RX1 61 yX1_branch, Cond.instanceMethod yX1_branch, Cond.selects RX1 yX1_branch yX1_branch, Cond.code yX1_branch cX1_branch 2 (some .int), Cond.static yX7_way, Cond.initialized RX7, Cond.code yX7_way cX7_way 3 (some .int), Cond.methodLink RX7 264 Lib.Math.abs.name, Cond.static Lib.Math.abs.name, Cond.initialized "java/lang/Math"]
def wsX4_addCopy_r4 : List Cond := [Cond.code Lib.Math.abs.name Lib.Math.abs.code 1 (some .int), Cond.methodLink RX7 256 Lib.Math.min.name, Cond.static Lib.Math.min.name, Cond.code Lib.Math.min.name Lib.Math.min.code 2 (some .int), Cond.methodLink RX4 115 yX4_assign, Cond.instanceMethod yX4_assign, Cond.selects RX4 yX4_assign yX4_assign, Cond.code yX4_assign cX4_assign 6 none, Cond.fieldLink RX4 12 "LoanHouse$House" "calendar" "LLoanHouse$Calendar;", Cond.fieldLink RX4 95 "LoanHouse$House" "trips" "I", Cond.methodLink RX4 60 yX1_branch, Cond.methodLink RX4 118 yX3_number, Cond.instanceMethod yX3_number, Cond.selects RX3 yX3_number yX3_number, Cond.code yX3_number cX3_number 2 (some .int), Cond.methodLink RX4 82 yX3_putCopy, Cond.instanceMethod yX3_putCopy, Cond.selects RX3 yX3_putCopy yX3_putCopy, Cond.code yX3_putCopy cX3_putCopy 3 none, Cond.static yX7_isBelow, Cond.code yX7_isBelow cX7_isBelow 2 (some .boolean), Cond.methodLink RX3 35 yX2_put, Cond.methodLink RX4 105 yX0_lastOfPatience, Cond.instanceMethod yX0_lastOfPatience]
def wsX4_addCopy_r5 : List Cond := [Cond.selects RX0 yX0_lastOfPatience yX0_lastOfPatience, Cond.initialized RX0, Cond.code yX0_lastOfPatience cX0_lastOfPatience 1 (some .int), Cond.fieldLink RX0 27 "LoanHouse$Calendar" "now" "I", Cond.fieldLink RX0 15 "LoanHouse$Calendar" "patience" "I", Cond.methodLink RX4 63 yX1_write]
def wsX4_addCopy : List Cond := .code yX4_addCopy cX4_addCopy 4 (some .int) :: ((wsX4_addCopy_r1 ++ (wsX4_addCopy_r2 ++ (wsX4_addCopy_r3 ++ (wsX4_addCopy_r4 ++ wsX4_addCopy_r5)))) ++ wsX40 ++ wsX10 ++ wsX20 ++ wsX30 ++ wsX00)
def wsX4_mayTake_r1 : List Cond := [Cond.fieldLink RX4 21 "LoanHouse$House" "copies" "LLoanHouse$Copies;", Cond.fieldLink RX4 28 "LoanHouse$House" "holds" "LLoanHouse$Holds;", Cond.methodLink RX4 39 yX1_state, Cond.instanceMethod yX1_state, Cond.selects RX1 yX1_state yX1_state, Cond.initialized RX1, Cond.code yX1_state cX1_state 2 (some .int), Cond.fieldLink RX1 16 "LoanHouse$Copies" "grid" "LLoanHouse$Grid;", Cond.methodLink RX1 20 yX2_at, Cond.instanceMethod yX2_at, Cond.selects RX2 yX2_at yX2_at, Cond.initialized RX2, Cond.code yX2_at cX2_at 3 (some .int), Cond.fieldLink RX2 15 "LoanHouse$Grid" "rows" "I", Cond.fieldLink RX2 21 "LoanHouse$Grid" "columns" "I", Cond.fieldLink RX2 24 "LoanHouse$Grid" "cells" "[I", Cond.methodLink RX4 43 yX1_whose, Cond.instanceMethod yX1_whose, Cond.selects RX1 yX1_whose yX1_whose, Cond.code yX1_whose cX1_whose 2 (some .int), Cond.methodLink RX4 46 yX3_slotOf, Cond.instanceMethod yX3_slotOf, Cond.selects RX3 yX3_slotOf yX3_slotOf, Cond.initialized RX3]
def wsX4_mayTake_r2 : List Cond := [Cond.code yX3_slotOf cX3_slotOf 3 (some .int), Cond.fieldLink RX3 24 "LoanHouse$Holds" "count" "I", Cond.methodLink RX3 28 yX3_number, Cond.instanceMethod yX3_number, Cond.selects RX3 yX3_number yX3_number, Cond.code yX3_number cX3_number 2 (some .int), Cond.fieldLink RX3 16 "LoanHouse$Holds" "grid" "LLoanHouse$Grid;", Cond.methodLink RX3 20 yX2_at, Cond.methodLink RX4 49 yX3_reader, Cond.instanceMethod yX3_reader, Cond.selects RX3 yX3_reader yX3_reader, Cond.code yX3_reader cX3_reader 2 (some .int)]
def wsX4_mayTake : List Cond := .code yX4_mayTake cX4_mayTake 4 (some .boolean) :: ((wsX4_mayTake_r1 ++ wsX4_mayTake_r2) ++ wsX40 ++ wsX10 ++ wsX20 ++ wsX30)
def wsX4_lendTo_r1 : List Cond := [Cond.fieldLink RX4 21 "LoanHouse$House" "copies" "LLoanHouse$Copies;", Cond.fieldLink RX4 28 "LoanHouse$House" "holds" "LLoanHouse$Holds;", Cond.fieldLink RX4 12 "LoanHouse$House" "calendar" "LLoanHouse$Calendar;", Cond.methodLink RX4 39 yX1_state, Cond.instanceMethod yX1_state, Cond.selects RX1 yX1_state yX1_state, Cond.initialized RX1, Cond.code yX1_state cX1_state 2 (some .int), Cond.fieldLink RX1 16 "LoanHouse$Copies" "grid" "LLoanHouse$Grid;", Cond.methodLink RX1 20 yX2_at, Cond.instanceMethod yX2_at, Cond.selects RX2 yX2_at yX2_at, Cond.initialized RX2, Cond.code yX2_at cX2_at 3 (some .int), Cond.fieldLink RX2 15 "LoanHouse$Grid" "rows" "I", Cond.fieldLink RX2 21 "LoanHouse$Grid" "columns" "I", Cond.fieldLink RX2 24 "LoanHouse$Grid" "cells" "[I", Cond.methodLink RX4 43 yX1_whose, Cond.instanceMethod yX1_whose, Cond.selects RX1 yX1_whose yX1_whose, Cond.code yX1_whose cX1_whose 2 (some .int), Cond.methodLink RX4 46 yX3_slotOf, Cond.instanceMethod yX3_slotOf, Cond.selects RX3 yX3_slotOf yX3_slotOf]
def wsX4_lendTo_r2 : List Cond := [Cond.initialized RX3, Cond.code yX3_slotOf cX3_slotOf 3 (some .int), Cond.fieldLink RX3 24 "LoanHouse$Holds" "count" "I", Cond.methodLink RX3 28 yX3_number, Cond.instanceMethod yX3_number, Cond.selects RX3 yX3_number yX3_number, Cond.code yX3_number cX3_number 2 (some .int), Cond.fieldLink RX3 16 "LoanHouse$Holds" "grid" "LLoanHouse$Grid;", Cond.methodLink RX3 20 yX2_at, Cond.methodLink RX4 52 yX3_takeOut, Cond.instanceMethod yX3_takeOut, Cond.selects RX3 yX3_takeOut yX3_takeOut, Cond.code yX3_takeOut cX3_takeOut 2 none, Cond.static yX7_isBelow, Cond.initialized RX7, Cond.code yX7_isBelow cX7_isBelow 2 (some .boolean), Cond.methodLink RX3 43 yX2_takeOut, Cond.instanceMethod yX2_takeOut, Cond.selects RX2 yX2_takeOut yX2_takeOut, Cond.code yX2_takeOut cX2_takeOut 4 none, Cond.methodLink RX2 28 arraycopyName, Cond.native arraycopyName, Cond.static arraycopyName, Cond.initialized "java/lang/System"]
def wsX4_lendTo_r3 : List Cond := [Cond.methodLink RX4 56 yX0_dueFromNow, Cond.instanceMethod yX0_dueFromNow, Cond.selects RX0 yX0_dueFromNow yX0_dueFromNow, Cond.initialized RX0, Cond.code yX0_dueFromNow cX0_dueFromNow 3 (some .int), Cond.fieldLink RX0 27 "LoanHouse$Calendar" "now" "I", Cond.fieldLink RX0 9 "LoanHouse$Calendar" "term" "I", Cond.methodLink RX0 30 yX0_isClosed, Cond.instanceMethod yX0_isClosed, Cond.selects RX0 yX0_isClosed yX0_isClosed, Cond.code yX0_isClosed cX0_isClosed 2 (some .boolean), Cond.fieldLink RX0 18 "LoanHouse$Calendar" "closed" "I", Cond.methodLink RX0 21 yJ9_floorMod_7cf53, Cond.static yJ9_floorMod_7cf53, Cond.initialized RJ9, Cond.code yJ9_floorMod_7cf53 cJ9_floorMod_7cf53 3 (some .int), Cond.methodLink RX4 60 yX1_branch, Cond.instanceMethod yX1_branch, Cond.selects RX1 yX1_branch yX1_branch, Cond.code yX1_branch cX1_branch 2 (some .int), Cond.methodLink RX4 63 yX1_write, Cond.instanceMethod yX1_write, Cond.selects RX1 yX1_write yX1_write, Cond.code yX1_write cX1_write 6 none]
def wsX4_lendTo_r4 : List Cond := [Cond.methodLink RX1 28 yX2_put, Cond.instanceMethod yX2_put, Cond.selects RX2 yX2_put yX2_put, Cond.code yX2_put cX2_put 4 none]
def wsX4_lendTo : List Cond := .code yX4_lendTo cX4_lendTo 4 (some .int) :: ((wsX4_lendTo_r1 ++ (wsX4_lendTo_r2 ++ (wsX4_lendTo_r3 ++ wsX4_lendTo_r4))) ++ wsX40 ++ wsX10 ++ wsX20 ++ wsX30 ++ wsX00)
def wsX4_lendAgain_r1 : List Cond := [Cond.fieldLink RX4 21 "LoanHouse$House" "copies" "LLoanHouse$Copies;", Cond.methodLink RX4 43 yX1_whose, Cond.instanceMethod yX1_whose, Cond.selects RX1 yX1_whose yX1_whose, Cond.initialized RX1, Cond.code yX1_whose cX1_whose 2 (some .int), Cond.fieldLink RX1 16 "LoanHouse$Copies" "grid" "LLoanHouse$Grid;", Cond.methodLink RX1 20 yX2_at, Cond.instanceMethod yX2_at, Cond.selects RX2 yX2_at yX2_at, Cond.initialized RX2, Cond.code yX2_at cX2_at 3 (some .int), Cond.fieldLink RX2 15 "LoanHouse$Grid" "rows" "I", Cond.fieldLink RX2 21 "LoanHouse$Grid" "columns" "I", Cond.fieldLink RX2 24 "LoanHouse$Grid" "cells" "[I", Cond.methodLink RX4 67 yX4_lendTo, Cond.instanceMethod yX4_lendTo, Cond.selects RX4 yX4_lendTo yX4_lendTo, Cond.initialized RX4, Cond.code yX4_lendTo cX4_lendTo 4 (some .int), Cond.fieldLink RX4 28 "LoanHouse$House" "holds" "LLoanHouse$Holds;", Cond.fieldLink RX4 12 "LoanHouse$House" "calendar" "LLoanHouse$Calendar;", Cond.methodLink RX4 39 yX1_state, Cond.instanceMethod yX1_state]
def wsX4_lendAgain_r2 : List Cond := [Cond.selects RX1 yX1_state yX1_state, Cond.code yX1_state cX1_state 2 (some .int), Cond.methodLink RX4 46 yX3_slotOf, Cond.instanceMethod yX3_slotOf, Cond.selects RX3 yX3_slotOf yX3_slotOf, Cond.initialized RX3, Cond.code yX3_slotOf cX3_slotOf 3 (some .int), Cond.fieldLink RX3 24 "LoanHouse$Holds" "count" "I", Cond.methodLink RX3 28 yX3_number, Cond.instanceMethod yX3_number, Cond.selects RX3 yX3_number yX3_number, Cond.code yX3_number cX3_number 2 (some .int), Cond.fieldLink RX3 16 "LoanHouse$Holds" "grid" "LLoanHouse$Grid;", Cond.methodLink RX3 20 yX2_at, Cond.methodLink RX4 52 yX3_takeOut, Cond.instanceMethod yX3_takeOut, Cond.selects RX3 yX3_takeOut yX3_takeOut, Cond.code yX3_takeOut cX3_takeOut 2 none, Cond.static yX7_isBelow, Cond.initialized RX7, Cond.code yX7_isBelow cX7_isBelow 2 (some .boolean), Cond.methodLink RX3 43 yX2_takeOut, Cond.instanceMethod yX2_takeOut, Cond.selects RX2 yX2_takeOut yX2_takeOut]
def wsX4_lendAgain_r3 : List Cond := [Cond.code yX2_takeOut cX2_takeOut 4 none, Cond.methodLink RX2 28 arraycopyName, Cond.native arraycopyName, Cond.static arraycopyName, Cond.initialized "java/lang/System", Cond.methodLink RX4 56 yX0_dueFromNow, Cond.instanceMethod yX0_dueFromNow, Cond.selects RX0 yX0_dueFromNow yX0_dueFromNow, Cond.initialized RX0, Cond.code yX0_dueFromNow cX0_dueFromNow 3 (some .int), Cond.fieldLink RX0 27 "LoanHouse$Calendar" "now" "I", Cond.fieldLink RX0 9 "LoanHouse$Calendar" "term" "I", Cond.methodLink RX0 30 yX0_isClosed, Cond.instanceMethod yX0_isClosed, Cond.selects RX0 yX0_isClosed yX0_isClosed, Cond.code yX0_isClosed cX0_isClosed 2 (some .boolean), Cond.fieldLink RX0 18 "LoanHouse$Calendar" "closed" "I", Cond.methodLink RX0 21 yJ9_floorMod_7cf53, Cond.static yJ9_floorMod_7cf53, Cond.initialized RJ9, Cond.code yJ9_floorMod_7cf53 cJ9_floorMod_7cf53 3 (some .int), Cond.methodLink RX4 60 yX1_branch, Cond.instanceMethod yX1_branch, Cond.selects RX1 yX1_branch yX1_branch]
def wsX4_lendAgain_r4 : List Cond := [Cond.code yX1_branch cX1_branch 2 (some .int), Cond.methodLink RX4 63 yX1_write, Cond.instanceMethod yX1_write, Cond.selects RX1 yX1_write yX1_write, Cond.code yX1_write cX1_write 6 none, Cond.methodLink RX1 28 yX2_put, Cond.instanceMethod yX2_put, Cond.selects RX2 yX2_put yX2_put, Cond.code yX2_put cX2_put 4 none]
def wsX4_lendAgain : List Cond := .code yX4_lendAgain cX4_lendAgain 2 (some .int) :: ((wsX4_lendAgain_r1 ++ (wsX4_lendAgain_r2 ++ (wsX4_lendAgain_r3 ++ wsX4_lendAgain_r4))) ++ wsX40 ++ wsX10 ++ wsX20 ++ wsX30 ++ wsX00)
def wsX4_takeBack_r1 : List Cond := [Cond.fieldLink RX4 21 "LoanHouse$House" "copies" "LLoanHouse$Copies;", Cond.fieldLink RX4 12 "LoanHouse$House" "calendar" "LLoanHouse$Calendar;", Cond.methodLink RX4 77 Lib.Math.max.name, Cond.static Lib.Math.max.name, Cond.initialized "java/lang/Math", Cond.code Lib.Math.max.name Lib.Math.max.code 2 (some .int), Cond.methodLink RX4 74 yX1_step, Cond.instanceMethod yX1_step, Cond.selects RX1 yX1_step yX1_step, Cond.initialized RX1, Cond.code yX1_step cX1_step 4 (some .int), Cond.methodLink RX1 50 Lib.Math.min.name, Cond.static Lib.Math.min.name, Cond.code Lib.Math.min.name Lib.Math.min.code 2 (some .int), Cond.methodLink RX1 36 yX1_state, Cond.instanceMethod yX1_state, Cond.selects RX1 yX1_state yX1_state, Cond.code yX1_state cX1_state 2 (some .int), Cond.fieldLink RX1 16 "LoanHouse$Copies" "grid" "LLoanHouse$Grid;", Cond.methodLink RX1 20 yX2_at, Cond.instanceMethod yX2_at, Cond.selects RX2 yX2_at yX2_at, Cond.initialized RX2, Cond.code yX2_at cX2_at 3 (some .int)]
def wsX4_takeBack_r2 : List Cond := [Cond.fieldLink RX2 15 "LoanHouse$Grid" "rows" "I", Cond.fieldLink RX2 21 "LoanHouse$Grid" "columns" "I", Cond.fieldLink RX2 24 "LoanHouse$Grid" "cells" "[I", Cond.methodLink RX1 47 yX1_day, Cond.instanceMethod yX1_day, Cond.selects RX1 yX1_day yX1_day, Cond.code yX1_day cX1_day 2 (some .int), Cond.methodLink RX4 63 yX1_write, Cond.instanceMethod yX1_write, Cond.selects RX1 yX1_write yX1_write, Cond.code yX1_write cX1_write 6 none, Cond.methodLink RX1 28 yX2_put, Cond.instanceMethod yX2_put, Cond.selects RX2 yX2_put yX2_put, Cond.code yX2_put cX2_put 4 none, Cond.methodLink RX4 36 yX4_serve, Cond.instanceMethod yX4_serve, Cond.selects RX4 yX4_serve yX4_serve, Cond.initialized RX4, Cond.code yX4_serve cX4_serve 5 none, Cond.fieldLink RX4 28 "LoanHouse$House" "holds" "LLoanHouse$Holds;", Cond.methodLink RX4 108 yX3_firstOfRow, Cond.instanceMethod yX3_firstOfRow, Cond.selects RX3 yX3_firstOfRow yX3_firstOfRow]
def wsX4_takeBack_r3 : List Cond := [Cond.initialized RX3, Cond.code yX3_firstOfRow cX3_firstOfRow 4 (some .int), Cond.fieldLink RX3 24 "LoanHouse$Holds" "count" "I", Cond.methodLink RX3 56 yX3_isInRow, Cond.instanceMethod yX3_isInRow, Cond.selects RX3 yX3_isInRow yX3_isInRow, Cond.code yX3_isInRow cX3_isInRow 3 (some .boolean), Cond.fieldLink RX3 16 "LoanHouse$Holds" "grid" "LLoanHouse$Grid;", Cond.methodLink RX3 20 yX2_at, Cond.methodLink RX3 59 yX3_need, Cond.instanceMethod yX3_need, Cond.selects RX3 yX3_need yX3_need, Cond.code yX3_need cX3_need 2 (some .int), Cond.methodLink RX4 111 yX3_branch, Cond.instanceMethod yX3_branch, Cond.selects RX3 yX3_branch yX3_branch, Cond.code yX3_branch cX3_branch 2 (some .int), Cond.methodLink RX4 112 yX1_nearestIn, Cond.instanceMethod yX1_nearestIn, Cond.selects RX1 yX1_nearestIn yX1_nearestIn, Cond.code yX1_nearestIn cX1_nearestIn 6 (some .int), Cond.fieldLink RX1 24 "LoanHouse$Copies" "count" "I", Cond.methodLink RX1 40 yX1_title, Cond.instanceMethod yX1_title]
def wsX4_takeBack_r4 : List Cond := [Cond.selects RX1 yX1_title yX1_title, Cond.code yX1_title cX1_title 2 (some .int), Cond.methodLink RX1 61 yX1_branch, Cond.instanceMethod yX1_branch, Cond.selects RX1 yX1_branch yX1_branch, Cond.code yX1_branch cX1_branch 2 (some .int), Cond.static yX7_way, Cond.initialized RX7, Cond.code yX7_way cX7_way 3 (some .int), Cond.methodLink RX7 264 Lib.Math.abs.name, Cond.static Lib.Math.abs.name, Cond.code Lib.Math.abs.name Lib.Math.abs.code 1 (some .int), Cond.methodLink RX7 256 Lib.Math.min.name, Cond.methodLink RX4 115 yX4_assign, Cond.instanceMethod yX4_assign, Cond.selects RX4 yX4_assign yX4_assign, Cond.code yX4_assign cX4_assign 6 none, Cond.fieldLink RX4 95 "LoanHouse$House" "trips" "I", Cond.methodLink RX4 60 yX1_branch, Cond.methodLink RX4 118 yX3_number, Cond.instanceMethod yX3_number, Cond.selects RX3 yX3_number yX3_number, Cond.code yX3_number cX3_number 2 (some .int), Cond.methodLink RX4 82 yX3_putCopy]
def wsX4_takeBack_r5 : List Cond := [Cond.instanceMethod yX3_putCopy, Cond.selects RX3 yX3_putCopy yX3_putCopy, Cond.code yX3_putCopy cX3_putCopy 3 none, Cond.static yX7_isBelow, Cond.code yX7_isBelow cX7_isBelow 2 (some .boolean), Cond.methodLink RX3 35 yX2_put, Cond.methodLink RX4 105 yX0_lastOfPatience, Cond.instanceMethod yX0_lastOfPatience, Cond.selects RX0 yX0_lastOfPatience yX0_lastOfPatience, Cond.initialized RX0, Cond.code yX0_lastOfPatience cX0_lastOfPatience 1 (some .int), Cond.fieldLink RX0 27 "LoanHouse$Calendar" "now" "I", Cond.fieldLink RX0 15 "LoanHouse$Calendar" "patience" "I"]
def wsX4_takeBack : List Cond := .code yX4_takeBack cX4_takeBack 4 (some .int) :: ((wsX4_takeBack_r1 ++ (wsX4_takeBack_r2 ++ (wsX4_takeBack_r3 ++ (wsX4_takeBack_r4 ++ wsX4_takeBack_r5)))) ++ wsX40 ++ wsX00 ++ wsX10 ++ wsX20 ++ wsX30)
def wsX4_loseCopy_r1 : List Cond := [Cond.fieldLink RX4 21 "LoanHouse$House" "copies" "LLoanHouse$Copies;", Cond.fieldLink RX4 28 "LoanHouse$House" "holds" "LLoanHouse$Holds;", Cond.methodLink RX4 39 yX1_state, Cond.instanceMethod yX1_state, Cond.selects RX1 yX1_state yX1_state, Cond.initialized RX1, Cond.code yX1_state cX1_state 2 (some .int), Cond.fieldLink RX1 16 "LoanHouse$Copies" "grid" "LLoanHouse$Grid;", Cond.methodLink RX1 20 yX2_at, Cond.instanceMethod yX2_at, Cond.selects RX2 yX2_at yX2_at, Cond.initialized RX2, Cond.code yX2_at cX2_at 3 (some .int), Cond.fieldLink RX2 15 "LoanHouse$Grid" "rows" "I", Cond.fieldLink RX2 21 "LoanHouse$Grid" "columns" "I", Cond.fieldLink RX2 24 "LoanHouse$Grid" "cells" "[I", Cond.methodLink RX4 43 yX1_whose, Cond.instanceMethod yX1_whose, Cond.selects RX1 yX1_whose yX1_whose, Cond.code yX1_whose cX1_whose 2 (some .int), Cond.methodLink RX4 46 yX3_slotOf, Cond.instanceMethod yX3_slotOf, Cond.selects RX3 yX3_slotOf yX3_slotOf, Cond.initialized RX3]
def wsX4_loseCopy_r2 : List Cond := [Cond.code yX3_slotOf cX3_slotOf 3 (some .int), Cond.fieldLink RX3 24 "LoanHouse$Holds" "count" "I", Cond.methodLink RX3 28 yX3_number, Cond.instanceMethod yX3_number, Cond.selects RX3 yX3_number yX3_number, Cond.code yX3_number cX3_number 2 (some .int), Cond.fieldLink RX3 16 "LoanHouse$Holds" "grid" "LLoanHouse$Grid;", Cond.methodLink RX3 20 yX2_at, Cond.methodLink RX4 82 yX3_putCopy, Cond.instanceMethod yX3_putCopy, Cond.selects RX3 yX3_putCopy yX3_putCopy, Cond.code yX3_putCopy cX3_putCopy 3 none, Cond.static yX7_isBelow, Cond.initialized RX7, Cond.code yX7_isBelow cX7_isBelow 2 (some .boolean), Cond.methodLink RX3 35 yX2_put, Cond.instanceMethod yX2_put, Cond.selects RX2 yX2_put yX2_put, Cond.code yX2_put cX2_put 4 none, Cond.methodLink RX4 60 yX1_branch, Cond.instanceMethod yX1_branch, Cond.selects RX1 yX1_branch yX1_branch, Cond.code yX1_branch cX1_branch 2 (some .int), Cond.methodLink RX4 63 yX1_write]
def wsX4_loseCopy_r3 : List Cond := [Cond.instanceMethod yX1_write, Cond.selects RX1 yX1_write yX1_write, Cond.code yX1_write cX1_write 6 none, Cond.methodLink RX1 28 yX2_put, Cond.methodLink RX4 36 yX4_serve, Cond.instanceMethod yX4_serve, Cond.selects RX4 yX4_serve yX4_serve, Cond.initialized RX4, Cond.code yX4_serve cX4_serve 5 none, Cond.methodLink RX4 108 yX3_firstOfRow, Cond.instanceMethod yX3_firstOfRow, Cond.selects RX3 yX3_firstOfRow yX3_firstOfRow, Cond.code yX3_firstOfRow cX3_firstOfRow 4 (some .int), Cond.methodLink RX3 56 yX3_isInRow, Cond.instanceMethod yX3_isInRow, Cond.selects RX3 yX3_isInRow yX3_isInRow, Cond.code yX3_isInRow cX3_isInRow 3 (some .boolean), Cond.methodLink RX3 59 yX3_need, Cond.instanceMethod yX3_need, Cond.selects RX3 yX3_need yX3_need, Cond.code yX3_need cX3_need 2 (some .int), Cond.methodLink RX4 111 yX3_branch, Cond.instanceMethod yX3_branch, Cond.selects RX3 yX3_branch yX3_branch]
def wsX4_loseCopy_r4 : List Cond := [Cond.code yX3_branch cX3_branch 2 (some .int), Cond.methodLink RX4 112 yX1_nearestIn, Cond.instanceMethod yX1_nearestIn, Cond.selects RX1 yX1_nearestIn yX1_nearestIn, Cond.code yX1_nearestIn cX1_nearestIn 6 (some .int), Cond.fieldLink RX1 24 "LoanHouse$Copies" "count" "I", Cond.methodLink RX1 40 yX1_title, Cond.instanceMethod yX1_title, Cond.selects RX1 yX1_title yX1_title, Cond.code yX1_title cX1_title 2 (some .int), Cond.methodLink RX1 36 yX1_state, Cond.methodLink RX1 61 yX1_branch, Cond.static yX7_way, Cond.code yX7_way cX7_way 3 (some .int), Cond.methodLink RX7 264 Lib.Math.abs.name, Cond.static Lib.Math.abs.name, Cond.initialized "java/lang/Math", Cond.code Lib.Math.abs.name Lib.Math.abs.code 1 (some .int), Cond.methodLink RX7 256 Lib.Math.min.name, Cond.static Lib.Math.min.name, Cond.code Lib.Math.min.name Lib.Math.min.code 2 (some .int), Cond.methodLink RX4 115 yX4_assign, Cond.instanceMethod yX4_assign, Cond.selects RX4 yX4_assign yX4_assign]
def wsX4_loseCopy_r5 : List Cond := [Cond.code yX4_assign cX4_assign 6 none, Cond.fieldLink RX4 12 "LoanHouse$House" "calendar" "LLoanHouse$Calendar;", Cond.fieldLink RX4 95 "LoanHouse$House" "trips" "I", Cond.methodLink RX4 118 yX3_number, Cond.methodLink RX4 105 yX0_lastOfPatience, Cond.instanceMethod yX0_lastOfPatience, Cond.selects RX0 yX0_lastOfPatience yX0_lastOfPatience, Cond.initialized RX0, Cond.code yX0_lastOfPatience cX0_lastOfPatience 1 (some .int), Cond.fieldLink RX0 27 "LoanHouse$Calendar" "now" "I", Cond.fieldLink RX0 15 "LoanHouse$Calendar" "patience" "I"]
def wsX4_loseCopy : List Cond := .code yX4_loseCopy cX4_loseCopy 3 (some .int) :: ((wsX4_loseCopy_r1 ++ (wsX4_loseCopy_r2 ++ (wsX4_loseCopy_r3 ++ (wsX4_loseCopy_r4 ++ wsX4_loseCopy_r5)))) ++ wsX40 ++ wsX10 ++ wsX20 ++ wsX30 ++ wsX00)
def wsX4_addHold_r1 : List Cond := [Cond.fieldLink RX4 28 "LoanHouse$House" "holds" "LLoanHouse$Holds;", Cond.fieldLink RX4 12 "LoanHouse$House" "calendar" "LLoanHouse$Calendar;", Cond.methodLink RX4 86 yX3_add, Cond.instanceMethod yX3_add, Cond.selects RX3 yX3_add yX3_add, Cond.initialized RX3, Cond.code yX3_add cX3_add 7 (some .int), Cond.fieldLink RX3 32 "LoanHouse$Holds" "nextNumber" "I", Cond.fieldLink RX3 16 "LoanHouse$Holds" "grid" "LLoanHouse$Grid;", Cond.fieldLink RX3 24 "LoanHouse$Holds" "count" "I", Cond.methodLink RX3 35 yX2_put, Cond.instanceMethod yX2_put, Cond.selects RX2 yX2_put yX2_put, Cond.initialized RX2, Cond.code yX2_put cX2_put 4 none, Cond.fieldLink RX2 15 "LoanHouse$Grid" "rows" "I", Cond.fieldLink RX2 21 "LoanHouse$Grid" "columns" "I", Cond.fieldLink RX2 24 "LoanHouse$Grid" "cells" "[I", Cond.methodLink RX4 36 yX4_serve, Cond.instanceMethod yX4_serve, Cond.selects RX4 yX4_serve yX4_serve, Cond.initialized RX4, Cond.code yX4_serve cX4_serve 5 none, Cond.fieldLink RX4 21 "LoanHouse$House" "copies" "LLoanHouse$Copies;"]
def wsX4_addHold_r2 : List Cond := [Cond.methodLink RX4 108 yX3_firstOfRow, Cond.instanceMethod yX3_firstOfRow, Cond.selects RX3 yX3_firstOfRow yX3_firstOfRow, Cond.code yX3_firstOfRow cX3_firstOfRow 4 (some .int), Cond.methodLink RX3 56 yX3_isInRow, Cond.instanceMethod yX3_isInRow, Cond.selects RX3 yX3_isInRow yX3_isInRow, Cond.code yX3_isInRow cX3_isInRow 3 (some .boolean), Cond.methodLink RX3 20 yX2_at, Cond.instanceMethod yX2_at, Cond.selects RX2 yX2_at yX2_at, Cond.code yX2_at cX2_at 3 (some .int), Cond.methodLink RX3 59 yX3_need, Cond.instanceMethod yX3_need, Cond.selects RX3 yX3_need yX3_need, Cond.code yX3_need cX3_need 2 (some .int), Cond.methodLink RX4 111 yX3_branch, Cond.instanceMethod yX3_branch, Cond.selects RX3 yX3_branch yX3_branch, Cond.code yX3_branch cX3_branch 2 (some .int), Cond.methodLink RX4 112 yX1_nearestIn, Cond.instanceMethod yX1_nearestIn, Cond.selects RX1 yX1_nearestIn yX1_nearestIn, Cond.initialized RX1]
def wsX4_addHold_r3 : List Cond := [Cond.code yX1_nearestIn cX1_nearestIn 6 (some .int), Cond.fieldLink RX1 24 "LoanHouse$Copies" "count" "I", Cond.methodLink RX1 40 yX1_title, Cond.instanceMethod yX1_title, Cond.selects RX1 yX1_title yX1_title, Cond.code yX1_title cX1_title 2 (some .int), Cond.fieldLink RX1 16 "LoanHouse$Copies" "grid" "LLoanHouse$Grid;", Cond.methodLink RX1 20 yX2_at, Cond.methodLink RX1 36 yX1_state, Cond.instanceMethod yX1_state, Cond.selects RX1 yX1_state yX1_state, Cond.code yX1_state cX1_state 2 (some .int), Cond.methodLink RX1 61 yX1_branch, Cond.instanceMethod yX1_branch, Cond.selects RX1 yX1_branch yX1_branch, Cond.code yX1_branch cX1_branch 2 (some .int), Cond.static yX7_way, Cond.initialized RX7, Cond.code yX7_way cX7_way 3 (some .int), Cond.methodLink RX7 264 Lib.Math.abs.name, Cond.static Lib.Math.abs.name, Cond.initialized "java/lang/Math", Cond.code Lib.Math.abs.name Lib.Math.abs.code 1 (some .int), Cond.methodLink RX7 256 Lib.Math.min.name]
def wsX4_addHold_r4 : List Cond := [Cond.static Lib.Math.min.name, Cond.code Lib.Math.min.name Lib.Math.min.code 2 (some .int), Cond.methodLink RX4 115 yX4_assign, Cond.instanceMethod yX4_assign, Cond.selects RX4 yX4_assign yX4_assign, Cond.code yX4_assign cX4_assign 6 none, Cond.fieldLink RX4 95 "LoanHouse$House" "trips" "I", Cond.methodLink RX4 60 yX1_branch, Cond.methodLink RX4 118 yX3_number, Cond.instanceMethod yX3_number, Cond.selects RX3 yX3_number yX3_number, Cond.code yX3_number cX3_number 2 (some .int), Cond.methodLink RX4 82 yX3_putCopy, Cond.instanceMethod yX3_putCopy, Cond.selects RX3 yX3_putCopy yX3_putCopy, Cond.code yX3_putCopy cX3_putCopy 3 none, Cond.static yX7_isBelow, Cond.code yX7_isBelow cX7_isBelow 2 (some .boolean), Cond.methodLink RX4 105 yX0_lastOfPatience, Cond.instanceMethod yX0_lastOfPatience, Cond.selects RX0 yX0_lastOfPatience yX0_lastOfPatience, Cond.initialized RX0, Cond.code yX0_lastOfPatience cX0_lastOfPatience 1 (some .int), Cond.fieldLink RX0 27 "LoanHouse$Calendar" "now" "I"]
def wsX4_addHold_r5 : List Cond := [Cond.fieldLink RX0 15 "LoanHouse$Calendar" "patience" "I", Cond.methodLink RX4 63 yX1_write, Cond.instanceMethod yX1_write, Cond.selects RX1 yX1_write yX1_write, Cond.code yX1_write cX1_write 6 none, Cond.methodLink RX1 28 yX2_put]
def wsX4_addHold : List Cond := .code yX4_addHold cX4_addHold 6 (some .int) :: ((wsX4_addHold_r1 ++ (wsX4_addHold_r2 ++ (wsX4_addHold_r3 ++ (wsX4_addHold_r4 ++ wsX4_addHold_r5)))) ++ wsX40 ++ wsX00 ++ wsX30 ++ wsX20 ++ wsX10)
def wsX4_dropHold_r1 : List Cond := [Cond.fieldLink RX4 28 "LoanHouse$House" "holds" "LLoanHouse$Holds;", Cond.fieldLink RX4 21 "LoanHouse$House" "copies" "LLoanHouse$Copies;", Cond.methodLink RX4 89 yX3_copyFor, Cond.instanceMethod yX3_copyFor, Cond.selects RX3 yX3_copyFor yX3_copyFor, Cond.initialized RX3, Cond.code yX3_copyFor cX3_copyFor 2 (some .int), Cond.fieldLink RX3 16 "LoanHouse$Holds" "grid" "LLoanHouse$Grid;", Cond.methodLink RX3 20 yX2_at, Cond.instanceMethod yX2_at, Cond.selects RX2 yX2_at yX2_at, Cond.initialized RX2, Cond.code yX2_at cX2_at 3 (some .int), Cond.fieldLink RX2 15 "LoanHouse$Grid" "rows" "I", Cond.fieldLink RX2 21 "LoanHouse$Grid" "columns" "I", Cond.fieldLink RX2 24 "LoanHouse$Grid" "cells" "[I", Cond.methodLink RX4 52 yX3_takeOut, Cond.instanceMethod yX3_takeOut, Cond.selects RX3 yX3_takeOut yX3_takeOut, Cond.code yX3_takeOut cX3_takeOut 2 none, Cond.fieldLink RX3 24 "LoanHouse$Holds" "count" "I", Cond.static yX7_isBelow, Cond.initialized RX7, Cond.code yX7_isBelow cX7_isBelow 2 (some .boolean)]
def wsX4_dropHold_r2 : List Cond := [Cond.methodLink RX3 43 yX2_takeOut, Cond.instanceMethod yX2_takeOut, Cond.selects RX2 yX2_takeOut yX2_takeOut, Cond.code yX2_takeOut cX2_takeOut 4 none, Cond.methodLink RX2 28 arraycopyName, Cond.native arraycopyName, Cond.static arraycopyName, Cond.initialized "java/lang/System", Cond.methodLink RX4 60 yX1_branch, Cond.instanceMethod yX1_branch, Cond.selects RX1 yX1_branch yX1_branch, Cond.initialized RX1, Cond.code yX1_branch cX1_branch 2 (some .int), Cond.fieldLink RX1 16 "LoanHouse$Copies" "grid" "LLoanHouse$Grid;", Cond.methodLink RX1 20 yX2_at, Cond.methodLink RX4 63 yX1_write, Cond.instanceMethod yX1_write, Cond.selects RX1 yX1_write yX1_write, Cond.code yX1_write cX1_write 6 none, Cond.methodLink RX1 28 yX2_put, Cond.instanceMethod yX2_put, Cond.selects RX2 yX2_put yX2_put, Cond.code yX2_put cX2_put 4 none, Cond.methodLink RX4 36 yX4_serve]
def wsX4_dropHold_r3 : List Cond := [Cond.instanceMethod yX4_serve, Cond.selects RX4 yX4_serve yX4_serve, Cond.initialized RX4, Cond.code yX4_serve cX4_serve 5 none, Cond.methodLink RX4 108 yX3_firstOfRow, Cond.instanceMethod yX3_firstOfRow, Cond.selects RX3 yX3_firstOfRow yX3_firstOfRow, Cond.code yX3_firstOfRow cX3_firstOfRow 4 (some .int), Cond.methodLink RX3 56 yX3_isInRow, Cond.instanceMethod yX3_isInRow, Cond.selects RX3 yX3_isInRow yX3_isInRow, Cond.code yX3_isInRow cX3_isInRow 3 (some .boolean), Cond.methodLink RX3 59 yX3_need, Cond.instanceMethod yX3_need, Cond.selects RX3 yX3_need yX3_need, Cond.code yX3_need cX3_need 2 (some .int), Cond.methodLink RX4 111 yX3_branch, Cond.instanceMethod yX3_branch, Cond.selects RX3 yX3_branch yX3_branch, Cond.code yX3_branch cX3_branch 2 (some .int), Cond.methodLink RX4 112 yX1_nearestIn, Cond.instanceMethod yX1_nearestIn, Cond.selects RX1 yX1_nearestIn yX1_nearestIn, Cond.code yX1_nearestIn cX1_nearestIn 6 (some .int)]
def wsX4_dropHold_r4 : List Cond := [Cond.fieldLink RX1 24 "LoanHouse$Copies" "count" "I", Cond.methodLink RX1 40 yX1_title, Cond.instanceMethod yX1_title, Cond.selects RX1 yX1_title yX1_title, Cond.code yX1_title cX1_title 2 (some .int), Cond.methodLink RX1 36 yX1_state, Cond.instanceMethod yX1_state, Cond.selects RX1 yX1_state yX1_state, Cond.code yX1_state cX1_state 2 (some .int), Cond.methodLink RX1 61 yX1_branch, Cond.static yX7_way, Cond.code yX7_way cX7_way 3 (some .int), Cond.methodLink RX7 264 Lib.Math.abs.name, Cond.static Lib.Math.abs.name, Cond.initialized "java/lang/Math", Cond.code Lib.Math.abs.name Lib.Math.abs.code 1 (some .int), Cond.methodLink RX7 256 Lib.Math.min.name, Cond.static Lib.Math.min.name, Cond.code Lib.Math.min.name Lib.Math.min.code 2 (some .int), Cond.methodLink RX4 115 yX4_assign, Cond.instanceMethod yX4_assign, Cond.selects RX4 yX4_assign yX4_assign, Cond.code yX4_assign cX4_assign 6 none, Cond.fieldLink RX4 12 "LoanHouse$House" "calendar" "LLoanHouse$Calendar;"]
def wsX4_dropHold_r5 : List Cond := [Cond.fieldLink RX4 95 "LoanHouse$House" "trips" "I", Cond.methodLink RX4 118 yX3_number, Cond.instanceMethod yX3_number, Cond.selects RX3 yX3_number yX3_number, Cond.code yX3_number cX3_number 2 (some .int), Cond.methodLink RX4 82 yX3_putCopy, Cond.instanceMethod yX3_putCopy, Cond.selects RX3 yX3_putCopy yX3_putCopy, Cond.code yX3_putCopy cX3_putCopy 3 none, Cond.methodLink RX3 35 yX2_put, Cond.methodLink RX4 105 yX0_lastOfPatience, Cond.instanceMethod yX0_lastOfPatience, Cond.selects RX0 yX0_lastOfPatience yX0_lastOfPatience, Cond.initialized RX0, Cond.code yX0_lastOfPatience cX0_lastOfPatience 1 (some .int), Cond.fieldLink RX0 27 "LoanHouse$Calendar" "now" "I", Cond.fieldLink RX0 15 "LoanHouse$Calendar" "patience" "I"]
def wsX4_dropHold : List Cond := .code yX4_dropHold cX4_dropHold 3 (some .int) :: ((wsX4_dropHold_r1 ++ (wsX4_dropHold_r2 ++ (wsX4_dropHold_r3 ++ (wsX4_dropHold_r4 ++ wsX4_dropHold_r5)))) ++ wsX40 ++ wsX30 ++ wsX20 ++ wsX10 ++ wsX00)
def wsX4_seeToday_r1 : List Cond := [Cond.fieldLink RX4 21 "LoanHouse$House" "copies" "LLoanHouse$Copies;", Cond.fieldLink RX4 12 "LoanHouse$House" "calendar" "LLoanHouse$Calendar;", Cond.fieldLink RX4 28 "LoanHouse$House" "holds" "LLoanHouse$Holds;", Cond.methodLink RX4 39 yX1_state, Cond.instanceMethod yX1_state, Cond.selects RX1 yX1_state yX1_state, Cond.initialized RX1, Cond.code yX1_state cX1_state 2 (some .int), Cond.fieldLink RX1 16 "LoanHouse$Copies" "grid" "LLoanHouse$Grid;", Cond.methodLink RX1 20 yX2_at, Cond.instanceMethod yX2_at, Cond.selects RX2 yX2_at yX2_at, Cond.initialized RX2, Cond.code yX2_at cX2_at 3 (some .int), Cond.fieldLink RX2 15 "LoanHouse$Grid" "rows" "I", Cond.fieldLink RX2 21 "LoanHouse$Grid" "columns" "I", Cond.fieldLink RX2 24 "LoanHouse$Grid" "cells" "[I", Cond.methodLink RX4 102 yX1_day, Cond.instanceMethod yX1_day, Cond.selects RX1 yX1_day yX1_day, Cond.code yX1_day cX1_day 2 (some .int), Cond.methodLink RX4 60 yX1_branch, Cond.instanceMethod yX1_branch, Cond.selects RX1 yX1_branch yX1_branch]
def wsX4_seeToday_r2 : List Cond := [Cond.code yX1_branch cX1_branch 2 (some .int), Cond.methodLink RX4 43 yX1_whose, Cond.instanceMethod yX1_whose, Cond.selects RX1 yX1_whose yX1_whose, Cond.code yX1_whose cX1_whose 2 (some .int), Cond.methodLink RX4 105 yX0_lastOfPatience, Cond.instanceMethod yX0_lastOfPatience, Cond.selects RX0 yX0_lastOfPatience yX0_lastOfPatience, Cond.initialized RX0, Cond.code yX0_lastOfPatience cX0_lastOfPatience 1 (some .int), Cond.fieldLink RX0 27 "LoanHouse$Calendar" "now" "I", Cond.fieldLink RX0 15 "LoanHouse$Calendar" "patience" "I", Cond.methodLink RX4 63 yX1_write, Cond.instanceMethod yX1_write, Cond.selects RX1 yX1_write yX1_write, Cond.code yX1_write cX1_write 6 none, Cond.methodLink RX1 28 yX2_put, Cond.instanceMethod yX2_put, Cond.selects RX2 yX2_put yX2_put, Cond.code yX2_put cX2_put 4 none, Cond.methodLink RX4 46 yX3_slotOf, Cond.instanceMethod yX3_slotOf, Cond.selects RX3 yX3_slotOf yX3_slotOf, Cond.initialized RX3]
def wsX4_seeToday_r3 : List Cond := [Cond.code yX3_slotOf cX3_slotOf 3 (some .int), Cond.fieldLink RX3 24 "LoanHouse$Holds" "count" "I", Cond.methodLink RX3 28 yX3_number, Cond.instanceMethod yX3_number, Cond.selects RX3 yX3_number yX3_number, Cond.code yX3_number cX3_number 2 (some .int), Cond.fieldLink RX3 16 "LoanHouse$Holds" "grid" "LLoanHouse$Grid;", Cond.methodLink RX3 20 yX2_at, Cond.methodLink RX4 52 yX3_takeOut, Cond.instanceMethod yX3_takeOut, Cond.selects RX3 yX3_takeOut yX3_takeOut, Cond.code yX3_takeOut cX3_takeOut 2 none, Cond.static yX7_isBelow, Cond.initialized RX7, Cond.code yX7_isBelow cX7_isBelow 2 (some .boolean), Cond.methodLink RX3 43 yX2_takeOut, Cond.instanceMethod yX2_takeOut, Cond.selects RX2 yX2_takeOut yX2_takeOut, Cond.code yX2_takeOut cX2_takeOut 4 none, Cond.methodLink RX2 28 arraycopyName, Cond.native arraycopyName, Cond.static arraycopyName, Cond.initialized "java/lang/System"]
def wsX4_seeToday : List Cond := .code yX4_seeToday cX4_seeToday 4 none :: ((wsX4_seeToday_r1 ++ (wsX4_seeToday_r2 ++ wsX4_seeToday_r3)) ++ wsX40 ++ wsX00 ++ wsX10 ++ wsX20 ++ wsX30)
def wsX4_dayPasses_r1 : List Cond := [Cond.fieldLink RX4 12 "LoanHouse$House" "calendar" "LLoanHouse$Calendar;", Cond.fieldLink RX4 95 "LoanHouse$House" "trips" "I", Cond.fieldLink RX4 21 "LoanHouse$House" "copies" "LLoanHouse$Copies;", Cond.methodLink RX4 99 yX4_seeToday, Cond.instanceMethod yX4_seeToday, Cond.selects RX4 yX4_seeToday yX4_seeToday, Cond.initialized RX4, Cond.code yX4_seeToday cX4_seeToday 4 none, Cond.fieldLink RX4 28 "LoanHouse$House" "holds" "LLoanHouse$Holds;", Cond.methodLink RX4 39 yX1_state, Cond.instanceMethod yX1_state, Cond.selects RX1 yX1_state yX1_state, Cond.initialized RX1, Cond.code yX1_state cX1_state 2 (some .int), Cond.fieldLink RX1 16 "LoanHouse$Copies" "grid" "LLoanHouse$Grid;", Cond.methodLink RX1 20 yX2_at, Cond.instanceMethod yX2_at, Cond.selects RX2 yX2_at yX2_at, Cond.initialized RX2, Cond.code yX2_at cX2_at 3 (some .int), Cond.fieldLink RX2 15 "LoanHouse$Grid" "rows" "I", Cond.fieldLink RX2 21 "LoanHouse$Grid" "columns" "I", Cond.fieldLink RX2 24 "LoanHouse$Grid" "cells" "[I", Cond.methodLink RX4 102 yX1_day]
def wsX4_dayPasses_r2 : List Cond := [Cond.instanceMethod yX1_day, Cond.selects RX1 yX1_day yX1_day, Cond.code yX1_day cX1_day 2 (some .int), Cond.methodLink RX4 60 yX1_branch, Cond.instanceMethod yX1_branch, Cond.selects RX1 yX1_branch yX1_branch, Cond.code yX1_branch cX1_branch 2 (some .int), Cond.methodLink RX4 43 yX1_whose, Cond.instanceMethod yX1_whose, Cond.selects RX1 yX1_whose yX1_whose, Cond.code yX1_whose cX1_whose 2 (some .int), Cond.methodLink RX4 105 yX0_lastOfPatience, Cond.instanceMethod yX0_lastOfPatience, Cond.selects RX0 yX0_lastOfPatience yX0_lastOfPatience, Cond.initialized RX0, Cond.code yX0_lastOfPatience cX0_lastOfPatience 1 (some .int), Cond.fieldLink RX0 27 "LoanHouse$Calendar" "now" "I", Cond.fieldLink RX0 15 "LoanHouse$Calendar" "patience" "I", Cond.methodLink RX4 63 yX1_write, Cond.instanceMethod yX1_write, Cond.selects RX1 yX1_write yX1_write, Cond.code yX1_write cX1_write 6 none, Cond.methodLink RX1 28 yX2_put, Cond.instanceMethod yX2_put]
def wsX4_dayPasses_r3 : List Cond := [Cond.selects RX2 yX2_put yX2_put, Cond.code yX2_put cX2_put 4 none, Cond.methodLink RX4 46 yX3_slotOf, Cond.instanceMethod yX3_slotOf, Cond.selects RX3 yX3_slotOf yX3_slotOf, Cond.initialized RX3, Cond.code yX3_slotOf cX3_slotOf 3 (some .int), Cond.fieldLink RX3 24 "LoanHouse$Holds" "count" "I", Cond.methodLink RX3 28 yX3_number, Cond.instanceMethod yX3_number, Cond.selects RX3 yX3_number yX3_number, Cond.code yX3_number cX3_number 2 (some .int), Cond.fieldLink RX3 16 "LoanHouse$Holds" "grid" "LLoanHouse$Grid;", Cond.methodLink RX3 20 yX2_at, Cond.methodLink RX4 52 yX3_takeOut, Cond.instanceMethod yX3_takeOut, Cond.selects RX3 yX3_takeOut yX3_takeOut, Cond.code yX3_takeOut cX3_takeOut 2 none, Cond.static yX7_isBelow, Cond.initialized RX7, Cond.code yX7_isBelow cX7_isBelow 2 (some .boolean), Cond.methodLink RX3 43 yX2_takeOut, Cond.instanceMethod yX2_takeOut, Cond.selects RX2 yX2_takeOut yX2_takeOut]
def wsX4_dayPasses_r4 : List Cond := [Cond.code yX2_takeOut cX2_takeOut 4 none, Cond.methodLink RX2 28 arraycopyName, Cond.native arraycopyName, Cond.static arraycopyName, Cond.initialized "java/lang/System", Cond.methodLink RX4 36 yX4_serve, Cond.instanceMethod yX4_serve, Cond.selects RX4 yX4_serve yX4_serve, Cond.code yX4_serve cX4_serve 5 none, Cond.methodLink RX4 108 yX3_firstOfRow, Cond.instanceMethod yX3_firstOfRow, Cond.selects RX3 yX3_firstOfRow yX3_firstOfRow, Cond.code yX3_firstOfRow cX3_firstOfRow 4 (some .int), Cond.methodLink RX3 56 yX3_isInRow, Cond.instanceMethod yX3_isInRow, Cond.selects RX3 yX3_isInRow yX3_isInRow, Cond.code yX3_isInRow cX3_isInRow 3 (some .boolean), Cond.methodLink RX3 59 yX3_need, Cond.instanceMethod yX3_need, Cond.selects RX3 yX3_need yX3_need, Cond.code yX3_need cX3_need 2 (some .int), Cond.methodLink RX4 111 yX3_branch, Cond.instanceMethod yX3_branch, Cond.selects RX3 yX3_branch yX3_branch]
def wsX4_dayPasses_r5 : List Cond := [Cond.code yX3_branch cX3_branch 2 (some .int), Cond.methodLink RX4 112 yX1_nearestIn, Cond.instanceMethod yX1_nearestIn, Cond.selects RX1 yX1_nearestIn yX1_nearestIn, Cond.code yX1_nearestIn cX1_nearestIn 6 (some .int), Cond.fieldLink RX1 24 "LoanHouse$Copies" "count" "I", Cond.methodLink RX1 40 yX1_title, Cond.instanceMethod yX1_title, Cond.selects RX1 yX1_title yX1_title, Cond.code yX1_title cX1_title 2 (some .int), Cond.methodLink RX1 36 yX1_state, Cond.methodLink RX1 61 yX1_branch, Cond.static yX7_way, Cond.code yX7_way cX7_way 3 (some .int), Cond.methodLink RX7 264 Lib.Math.abs.name, Cond.static Lib.Math.abs.name, Cond.initialized "java/lang/Math", Cond.code Lib.Math.abs.name Lib.Math.abs.code 1 (some .int), Cond.methodLink RX7 256 Lib.Math.min.name, Cond.static Lib.Math.min.name, Cond.code Lib.Math.min.name Lib.Math.min.code 2 (some .int), Cond.methodLink RX4 115 yX4_assign, Cond.instanceMethod yX4_assign, Cond.selects RX4 yX4_assign yX4_assign]
def wsX4_dayPasses_r6 : List Cond := [Cond.code yX4_assign cX4_assign 6 none, Cond.methodLink RX4 118 yX3_number, Cond.methodLink RX4 82 yX3_putCopy, Cond.instanceMethod yX3_putCopy, Cond.selects RX3 yX3_putCopy yX3_putCopy, Cond.code yX3_putCopy cX3_putCopy 3 none, Cond.methodLink RX3 35 yX2_put]
def wsX4_dayPasses : List Cond := .code yX4_dayPasses cX4_dayPasses 2 none :: ((wsX4_dayPasses_r1 ++ (wsX4_dayPasses_r2 ++ (wsX4_dayPasses_r3 ++ (wsX4_dayPasses_r4 ++ (wsX4_dayPasses_r5 ++ wsX4_dayPasses_r6))))) ++ wsX40 ++ wsX00 ++ wsX10 ++ wsX20 ++ wsX30)
def wsX4_stateOfHold : List Cond := .code yX4_stateOfHold cX4_stateOfHold 3 (some .int) :: ([.fieldLink RX4 28 "LoanHouse$House" "holds" "LLoanHouse$Holds;", .fieldLink RX4 21 "LoanHouse$House" "copies" "LLoanHouse$Copies;", .methodLink RX4 89 yX3_copyFor, .instanceMethod yX3_copyFor, .selects RX3 yX3_copyFor yX3_copyFor, .initialized RX3, .code yX3_copyFor cX3_copyFor 2 (some .int), .fieldLink RX3 16 "LoanHouse$Holds" "grid" "LLoanHouse$Grid;", .methodLink RX3 20 yX2_at, .instanceMethod yX2_at, .selects RX2 yX2_at yX2_at, .initialized RX2, .code yX2_at cX2_at 3 (some .int), .fieldLink RX2 15 "LoanHouse$Grid" "rows" "I", .fieldLink RX2 21 "LoanHouse$Grid" "columns" "I", .fieldLink RX2 24 "LoanHouse$Grid" "cells" "[I", .methodLink RX4 39 yX1_state, .instanceMethod yX1_state, .selects RX1 yX1_state yX1_state, .initialized RX1, .code yX1_state cX1_state 2 (some .int), .fieldLink RX1 16 "LoanHouse$Copies" "grid" "LLoanHouse$Grid;", .methodLink RX1 20 yX2_at] ++ wsX40 ++ wsX30 ++ wsX20 ++ wsX10)
def wsX4_soon_r1 : List Cond := [Cond.fieldLink RX4 21 "LoanHouse$House" "copies" "LLoanHouse$Copies;", Cond.fieldLink RX4 28 "LoanHouse$House" "holds" "LLoanHouse$Holds;", Cond.fieldLink RX4 12 "LoanHouse$House" "calendar" "LLoanHouse$Calendar;", Cond.methodLink RX4 124 yX4_stateOfHold, Cond.instanceMethod yX4_stateOfHold, Cond.selects RX4 yX4_stateOfHold yX4_stateOfHold, Cond.initialized RX4, Cond.code yX4_stateOfHold cX4_stateOfHold 3 (some .int), Cond.methodLink RX4 89 yX3_copyFor, Cond.instanceMethod yX3_copyFor, Cond.selects RX3 yX3_copyFor yX3_copyFor, Cond.initialized RX3, Cond.code yX3_copyFor cX3_copyFor 2 (some .int), Cond.fieldLink RX3 16 "LoanHouse$Holds" "grid" "LLoanHouse$Grid;", Cond.methodLink RX3 20 yX2_at, Cond.instanceMethod yX2_at, Cond.selects RX2 yX2_at yX2_at, Cond.initialized RX2, Cond.code yX2_at cX2_at 3 (some .int), Cond.fieldLink RX2 15 "LoanHouse$Grid" "rows" "I", Cond.fieldLink RX2 21 "LoanHouse$Grid" "columns" "I", Cond.fieldLink RX2 24 "LoanHouse$Grid" "cells" "[I", Cond.methodLink RX4 39 yX1_state, Cond.instanceMethod yX1_state]
def wsX4_soon_r2 : List Cond := [Cond.selects RX1 yX1_state yX1_state, Cond.initialized RX1, Cond.code yX1_state cX1_state 2 (some .int), Cond.fieldLink RX1 16 "LoanHouse$Copies" "grid" "LLoanHouse$Grid;", Cond.methodLink RX1 20 yX2_at, Cond.methodLink RX4 127 yX3_title, Cond.instanceMethod yX3_title, Cond.selects RX3 yX3_title yX3_title, Cond.code yX3_title cX3_title 2 (some .int), Cond.methodLink RX4 130 yX3_placeInRow, Cond.instanceMethod yX3_placeInRow, Cond.selects RX3 yX3_placeInRow yX3_placeInRow, Cond.code yX3_placeInRow cX3_placeInRow 4 (some .int), Cond.fieldLink RX3 24 "LoanHouse$Holds" "count" "I", Cond.methodLink RX3 53 yX3_title, Cond.methodLink RX3 56 yX3_isInRow, Cond.instanceMethod yX3_isInRow, Cond.selects RX3 yX3_isInRow yX3_isInRow, Cond.code yX3_isInRow cX3_isInRow 3 (some .boolean), Cond.methodLink RX3 62 yX3_isAhead, Cond.instanceMethod yX3_isAhead, Cond.selects RX3 yX3_isAhead yX3_isAhead, Cond.code yX3_isAhead cX3_isAhead 3 (some .boolean), Cond.methodLink RX3 59 yX3_need]
def wsX4_soon_r3 : List Cond := [Cond.instanceMethod yX3_need, Cond.selects RX3 yX3_need yX3_need, Cond.code yX3_need cX3_need 2 (some .int), Cond.methodLink RX4 133 yX1_dayAtPlace, Cond.instanceMethod yX1_dayAtPlace, Cond.selects RX1 yX1_dayAtPlace yX1_dayAtPlace, Cond.code yX1_dayAtPlace cX1_dayAtPlace 5 (some .int), Cond.fieldLink RX1 24 "LoanHouse$Copies" "count" "I", Cond.constant RX1 74 (99999), Cond.methodLink RX1 67 yX1_placeOfDay, Cond.instanceMethod yX1_placeOfDay, Cond.selects RX1 yX1_placeOfDay yX1_placeOfDay, Cond.code yX1_placeOfDay cX1_placeOfDay 8 (some .int), Cond.methodLink RX1 71 yX1_dayIn, Cond.instanceMethod yX1_dayIn, Cond.selects RX1 yX1_dayIn yX1_dayIn, Cond.code yX1_dayIn cX1_dayIn 4 (some .int), Cond.methodLink RX1 55 Lib.Math.max.name, Cond.static Lib.Math.max.name, Cond.initialized "java/lang/Math", Cond.code Lib.Math.max.name Lib.Math.max.code 2 (some .int), Cond.methodLink RX1 40 yX1_title, Cond.instanceMethod yX1_title, Cond.selects RX1 yX1_title yX1_title]
def wsX4_soon_r4 : List Cond := [Cond.code yX1_title cX1_title 2 (some .int), Cond.methodLink RX1 36 yX1_state, Cond.methodLink RX1 47 yX1_day, Cond.instanceMethod yX1_day, Cond.selects RX1 yX1_day yX1_day, Cond.code yX1_day cX1_day 2 (some .int), Cond.methodLink RX4 102 yX1_day]
def wsX4_soon : List Cond := .code yX4_soon cX4_soon 2 (some .int) :: ((wsX4_soon_r1 ++ (wsX4_soon_r2 ++ (wsX4_soon_r3 ++ wsX4_soon_r4))) ++ wsX40 ++ wsX00 ++ wsX30 ++ wsX20 ++ wsX10)
def wsX4_become_r1 : List Cond := [Cond.fieldLink RX4 12 "LoanHouse$House" "calendar" "LLoanHouse$Calendar;", Cond.fieldLink RX4 21 "LoanHouse$House" "copies" "LLoanHouse$Copies;", Cond.fieldLink RX4 28 "LoanHouse$House" "holds" "LLoanHouse$Holds;", Cond.fieldLink RX4 95 "LoanHouse$House" "trips" "I", Cond.methodLink RX4 137 yX0_become, Cond.instanceMethod yX0_become, Cond.selects RX0 yX0_become yX0_become, Cond.initialized RX0, Cond.code yX0_become cX0_become 2 none, Cond.fieldLink RX0 27 "LoanHouse$Calendar" "now" "I", Cond.fieldLink RX0 9 "LoanHouse$Calendar" "term" "I", Cond.fieldLink RX0 15 "LoanHouse$Calendar" "patience" "I", Cond.fieldLink RX0 18 "LoanHouse$Calendar" "closed" "I", Cond.methodLink RX4 141 yX1_become, Cond.instanceMethod yX1_become, Cond.selects RX1 yX1_become yX1_become, Cond.initialized RX1, Cond.code yX1_become cX1_become 2 none, Cond.fieldLink RX1 24 "LoanHouse$Copies" "count" "I", Cond.fieldLink RX1 16 "LoanHouse$Copies" "grid" "LLoanHouse$Grid;", Cond.methodLink RX1 78 yX2_become, Cond.instanceMethod yX2_become, Cond.selects RX2 yX2_become yX2_become, Cond.initialized RX2]
def wsX4_become_r2 : List Cond := [Cond.code yX2_become cX2_become 2 none, Cond.fieldLink RX2 24 "LoanHouse$Grid" "cells" "[I", Cond.methodLink RX2 34 Lib.Math.min.name, Cond.static Lib.Math.min.name, Cond.initialized "java/lang/Math", Cond.code Lib.Math.min.name Lib.Math.min.code 2 (some .int), Cond.methodLink RX2 28 arraycopyName, Cond.native arraycopyName, Cond.static arraycopyName, Cond.initialized "java/lang/System", Cond.methodLink RX4 144 yX3_become, Cond.instanceMethod yX3_become, Cond.selects RX3 yX3_become yX3_become, Cond.initialized RX3, Cond.code yX3_become cX3_become 2 none, Cond.fieldLink RX3 24 "LoanHouse$Holds" "count" "I", Cond.fieldLink RX3 32 "LoanHouse$Holds" "nextNumber" "I", Cond.fieldLink RX3 16 "LoanHouse$Holds" "grid" "LLoanHouse$Grid;", Cond.methodLink RX3 73 yX2_become]
def wsX4_become : List Cond := .code yX4_become cX4_become 2 none :: ((wsX4_become_r1 ++ wsX4_become_r2) ++ wsX40 ++ wsX00 ++ wsX10 ++ wsX20 ++ wsX30)
def wsX5_init : List Cond := .code yX5_init cX5_init 1 none :: ([.methodLink RX5 1 objectInit, .instanceMethod objectInit, .code objectInit ⟨#[0xb1]⟩ 1 none])
def wsX5_begin : List Cond := .code yX5_begin cX5_begin 2 none :: ([.fieldLink RX5 7 "LoanHouse$Lots" "x" "J"] ++ wsX50)
def wsX5_below : List Cond := .code yX5_below cX5_below 2 (some .int) :: ([.fieldLink RX5 7 "LoanHouse$Lots" "x" "J", .constantLong RX5 13 (16807), .constantLong RX5 15 (2147483647)] ++ wsX50)
def wsX6_init : List Cond := .code yX6_init cX6_init 2 none :: ([.methodLink RX6 1 objectInit, .instanceMethod objectInit, .code objectInit ⟨#[0xb1]⟩ 1 none, .methodLink RX6 7 Lib.Math.max.name, .static Lib.Math.max.name, .initialized "java/lang/Math", .code Lib.Math.max.name Lib.Math.max.code 2 (some .int), .classLink RX6 13 RX4, .fieldLink RX6 15 "LoanHouse$Pictures" "places" "[LLoanHouse$House;"] ++ wsX60)
def wsX6_has : List Cond := .code yX6_has cX6_has 2 (some .boolean) :: ([.fieldLink RX6 15 "LoanHouse$Pictures" "places" "[LLoanHouse$House;", .static yX7_isBelow, .initialized RX7, .code yX7_isBelow cX7_isBelow 2 (some .boolean)] ++ wsX60)
def wsX6_take_r1 : List Cond := [Cond.fieldLink RX6 15 "LoanHouse$Pictures" "places" "[LLoanHouse$House;", Cond.classLink RX6 13 RX4, Cond.instantiable RX4 4, Cond.initialized RX4, Cond.static yX7_isBelow, Cond.initialized RX7, Cond.code yX7_isBelow cX7_isBelow 2 (some .boolean), Cond.instanceMethod yX4_init, Cond.code yX4_init cX4_init 1 none, Cond.methodLink RX4 3 objectInit, Cond.instanceMethod objectInit, Cond.code objectInit ⟨#[0xb1]⟩ 1 none, Cond.classLink RX4 9 RX0, Cond.instantiable RX0 4, Cond.initialized RX0, Cond.fieldLink RX4 12 "LoanHouse$House" "calendar" "LLoanHouse$Calendar;", Cond.classLink RX4 18 RX1, Cond.instantiable RX1 2, Cond.initialized RX1, Cond.fieldLink RX4 21 "LoanHouse$House" "copies" "LLoanHouse$Copies;", Cond.classLink RX4 25 RX3, Cond.instantiable RX3 3, Cond.initialized RX3, Cond.fieldLink RX4 28 "LoanHouse$House" "holds" "LLoanHouse$Holds;"]
def wsX6_take_r2 : List Cond := [Cond.instanceMethod yX0_init, Cond.code yX0_init cX0_init 1 none, Cond.methodLink RX0 3 objectInit, Cond.fieldLink RX0 9 "LoanHouse$Calendar" "term" "I", Cond.fieldLink RX0 15 "LoanHouse$Calendar" "patience" "I", Cond.fieldLink RX0 18 "LoanHouse$Calendar" "closed" "I", Cond.instanceMethod yX1_init, Cond.code yX1_init cX1_init 1 none, Cond.methodLink RX1 3 objectInit, Cond.classLink RX1 9 RX2, Cond.instantiable RX2 3, Cond.initialized RX2, Cond.fieldLink RX1 16 "LoanHouse$Copies" "grid" "LLoanHouse$Grid;", Cond.methodLink RX1 13 yX2_init, Cond.instanceMethod yX2_init, Cond.code yX2_init cX2_init 3 none, Cond.methodLink RX2 3 objectInit, Cond.methodLink RX2 9 Lib.Math.max.name, Cond.static Lib.Math.max.name, Cond.initialized "java/lang/Math", Cond.code Lib.Math.max.name Lib.Math.max.code 2 (some .int), Cond.fieldLink RX2 15 "LoanHouse$Grid" "rows" "I", Cond.fieldLink RX2 21 "LoanHouse$Grid" "columns" "I", Cond.arrayClass .int]
def wsX6_take_r3 : List Cond := [Cond.fieldLink RX2 24 "LoanHouse$Grid" "cells" "[I", Cond.instanceMethod yX3_init, Cond.code yX3_init cX3_init 1 none, Cond.methodLink RX3 3 objectInit, Cond.classLink RX3 9 RX2, Cond.fieldLink RX3 16 "LoanHouse$Holds" "grid" "LLoanHouse$Grid;", Cond.methodLink RX3 13 yX2_init, Cond.methodLink RX6 28 yX4_become, Cond.instanceMethod yX4_become, Cond.selects RX4 yX4_become yX4_become, Cond.code yX4_become cX4_become 2 none, Cond.fieldLink RX4 95 "LoanHouse$House" "trips" "I", Cond.methodLink RX4 137 yX0_become, Cond.instanceMethod yX0_become, Cond.selects RX0 yX0_become yX0_become, Cond.code yX0_become cX0_become 2 none, Cond.fieldLink RX0 27 "LoanHouse$Calendar" "now" "I", Cond.methodLink RX4 141 yX1_become, Cond.instanceMethod yX1_become, Cond.selects RX1 yX1_become yX1_become, Cond.code yX1_become cX1_become 2 none, Cond.fieldLink RX1 24 "LoanHouse$Copies" "count" "I", Cond.methodLink RX1 78 yX2_become, Cond.instanceMethod yX2_become]
def wsX6_take_r4 : List Cond := [Cond.selects RX2 yX2_become yX2_become, Cond.code yX2_become cX2_become 2 none, Cond.methodLink RX2 34 Lib.Math.min.name, Cond.static Lib.Math.min.name, Cond.code Lib.Math.min.name Lib.Math.min.code 2 (some .int), Cond.methodLink RX2 28 arraycopyName, Cond.native arraycopyName, Cond.static arraycopyName, Cond.initialized "java/lang/System", Cond.methodLink RX4 144 yX3_become, Cond.instanceMethod yX3_become, Cond.selects RX3 yX3_become yX3_become, Cond.code yX3_become cX3_become 2 none, Cond.fieldLink RX3 24 "LoanHouse$Holds" "count" "I", Cond.fieldLink RX3 32 "LoanHouse$Holds" "nextNumber" "I", Cond.methodLink RX3 73 yX2_become]
def wsX6_take : List Cond := .code yX6_take cX6_take 4 none :: ((wsX6_take_r1 ++ (wsX6_take_r2 ++ (wsX6_take_r3 ++ wsX6_take_r4))) ++ wsX60 ++ wsX40 ++ wsX00 ++ wsX10 ++ wsX30 ++ wsX20)
def wsX6_show_r1 : List Cond := [Cond.fieldLink RX6 15 "LoanHouse$Pictures" "places" "[LLoanHouse$House;", Cond.static yX7_isBelow, Cond.initialized RX7, Cond.code yX7_isBelow cX7_isBelow 2 (some .boolean), Cond.methodLink RX6 28 yX4_become, Cond.instanceMethod yX4_become, Cond.selects RX4 yX4_become yX4_become, Cond.initialized RX4, Cond.code yX4_become cX4_become 2 none, Cond.fieldLink RX4 12 "LoanHouse$House" "calendar" "LLoanHouse$Calendar;", Cond.fieldLink RX4 21 "LoanHouse$House" "copies" "LLoanHouse$Copies;", Cond.fieldLink RX4 28 "LoanHouse$House" "holds" "LLoanHouse$Holds;", Cond.fieldLink RX4 95 "LoanHouse$House" "trips" "I", Cond.methodLink RX4 137 yX0_become, Cond.instanceMethod yX0_become, Cond.selects RX0 yX0_become yX0_become, Cond.initialized RX0, Cond.code yX0_become cX0_become 2 none, Cond.fieldLink RX0 27 "LoanHouse$Calendar" "now" "I", Cond.fieldLink RX0 9 "LoanHouse$Calendar" "term" "I", Cond.fieldLink RX0 15 "LoanHouse$Calendar" "patience" "I", Cond.fieldLink RX0 18 "LoanHouse$Calendar" "closed" "I", Cond.methodLink RX4 141 yX1_become, Cond.instanceMethod yX1_become]
def wsX6_show_r2 : List Cond := [Cond.selects RX1 yX1_become yX1_become, Cond.initialized RX1, Cond.code yX1_become cX1_become 2 none, Cond.fieldLink RX1 24 "LoanHouse$Copies" "count" "I", Cond.fieldLink RX1 16 "LoanHouse$Copies" "grid" "LLoanHouse$Grid;", Cond.methodLink RX1 78 yX2_become, Cond.instanceMethod yX2_become, Cond.selects RX2 yX2_become yX2_become, Cond.initialized RX2, Cond.code yX2_become cX2_become 2 none, Cond.fieldLink RX2 24 "LoanHouse$Grid" "cells" "[I", Cond.methodLink RX2 34 Lib.Math.min.name, Cond.static Lib.Math.min.name, Cond.initialized "java/lang/Math", Cond.code Lib.Math.min.name Lib.Math.min.code 2 (some .int), Cond.methodLink RX2 28 arraycopyName, Cond.native arraycopyName, Cond.static arraycopyName, Cond.initialized "java/lang/System", Cond.methodLink RX4 144 yX3_become, Cond.instanceMethod yX3_become, Cond.selects RX3 yX3_become yX3_become, Cond.initialized RX3, Cond.code yX3_become cX3_become 2 none]
def wsX6_show_r3 : List Cond := [Cond.fieldLink RX3 24 "LoanHouse$Holds" "count" "I", Cond.fieldLink RX3 32 "LoanHouse$Holds" "nextNumber" "I", Cond.fieldLink RX3 16 "LoanHouse$Holds" "grid" "LLoanHouse$Grid;", Cond.methodLink RX3 73 yX2_become]
def wsX6_show : List Cond := .code yX6_show cX6_show 4 none :: ((wsX6_show_r1 ++ (wsX6_show_r2 ++ wsX6_show_r3)) ++ wsX60 ++ wsX40 ++ wsX00 ++ wsX10 ++ wsX20 ++ wsX30)
def wsX7_init_r1 : List Cond := [Cond.methodLink RX7 1 objectInit, Cond.instanceMethod objectInit, Cond.code objectInit ⟨#[0xb1]⟩ 1 none, Cond.classLink RX7 7 RX4, Cond.instantiable RX4 4, Cond.initialized RX4, Cond.fieldLink RX7 10 "LoanHouse" "house" "LLoanHouse$House;", Cond.classLink RX7 16 RX6, Cond.instantiable RX6 1, Cond.initialized RX6, Cond.fieldLink RX7 21 "LoanHouse" "past" "LLoanHouse$Pictures;", Cond.fieldLink RX7 25 "LoanHouse" "images" "LLoanHouse$Pictures;", Cond.classLink RX7 28 RX5, Cond.instantiable RX5 1, Cond.initialized RX5, Cond.fieldLink RX7 31 "LoanHouse" "lots" "LLoanHouse$Lots;", Cond.instanceMethod yX4_init, Cond.code yX4_init cX4_init 1 none, Cond.methodLink RX4 3 objectInit, Cond.classLink RX4 9 RX0, Cond.instantiable RX0 4, Cond.initialized RX0, Cond.fieldLink RX4 12 "LoanHouse$House" "calendar" "LLoanHouse$Calendar;", Cond.classLink RX4 18 RX1]
def wsX7_init_r2 : List Cond := [Cond.instantiable RX1 2, Cond.initialized RX1, Cond.fieldLink RX4 21 "LoanHouse$House" "copies" "LLoanHouse$Copies;", Cond.classLink RX4 25 RX3, Cond.instantiable RX3 3, Cond.initialized RX3, Cond.fieldLink RX4 28 "LoanHouse$House" "holds" "LLoanHouse$Holds;", Cond.instanceMethod yX0_init, Cond.code yX0_init cX0_init 1 none, Cond.methodLink RX0 3 objectInit, Cond.fieldLink RX0 9 "LoanHouse$Calendar" "term" "I", Cond.fieldLink RX0 15 "LoanHouse$Calendar" "patience" "I", Cond.fieldLink RX0 18 "LoanHouse$Calendar" "closed" "I", Cond.instanceMethod yX1_init, Cond.code yX1_init cX1_init 1 none, Cond.methodLink RX1 3 objectInit, Cond.classLink RX1 9 RX2, Cond.instantiable RX2 3, Cond.initialized RX2, Cond.fieldLink RX1 16 "LoanHouse$Copies" "grid" "LLoanHouse$Grid;", Cond.methodLink RX1 13 yX2_init, Cond.instanceMethod yX2_init, Cond.code yX2_init cX2_init 3 none, Cond.methodLink RX2 3 objectInit]
def wsX7_init_r3 : List Cond := [Cond.methodLink RX2 9 Lib.Math.max.name, Cond.static Lib.Math.max.name, Cond.initialized "java/lang/Math", Cond.code Lib.Math.max.name Lib.Math.max.code 2 (some .int), Cond.fieldLink RX2 15 "LoanHouse$Grid" "rows" "I", Cond.fieldLink RX2 21 "LoanHouse$Grid" "columns" "I", Cond.arrayClass .int, Cond.fieldLink RX2 24 "LoanHouse$Grid" "cells" "[I", Cond.instanceMethod yX3_init, Cond.code yX3_init cX3_init 1 none, Cond.methodLink RX3 3 objectInit, Cond.classLink RX3 9 RX2, Cond.fieldLink RX3 16 "LoanHouse$Holds" "grid" "LLoanHouse$Grid;", Cond.methodLink RX3 13 yX2_init, Cond.methodLink RX7 18 yX6_init, Cond.instanceMethod yX6_init, Cond.code yX6_init cX6_init 2 none, Cond.methodLink RX6 1 objectInit, Cond.methodLink RX6 7 Lib.Math.max.name, Cond.classLink RX6 13 RX4, Cond.fieldLink RX6 15 "LoanHouse$Pictures" "places" "[LLoanHouse$House;", Cond.instanceMethod yX5_init, Cond.code yX5_init cX5_init 1 none, Cond.methodLink RX5 1 objectInit]
def wsX7_init : List Cond := .code yX7_init cX7_init 1 none :: ((wsX7_init_r1 ++ (wsX7_init_r2 ++ wsX7_init_r3)) ++ wsX40 ++ wsX70 ++ wsX60 ++ wsX50 ++ wsX00 ++ wsX10 ++ wsX30 ++ wsX20)
def wsX7_remember_r1 : List Cond := [Cond.fieldLink RX7 21 "LoanHouse" "past" "LLoanHouse$Pictures;", Cond.fieldLink RX7 148 "LoanHouse" "nextPast" "I", Cond.fieldLink RX7 10 "LoanHouse" "house" "LLoanHouse$House;", Cond.fieldLink RX7 145 "LoanHouse" "undoable" "I", Cond.methodLink RX7 256 Lib.Math.min.name, Cond.static Lib.Math.min.name, Cond.initialized "java/lang/Math", Cond.code Lib.Math.min.name Lib.Math.min.code 2 (some .int), Cond.methodLink RX7 250 yX6_take, Cond.instanceMethod yX6_take, Cond.selects RX6 yX6_take yX6_take, Cond.initialized RX6, Cond.code yX6_take cX6_take 4 none, Cond.fieldLink RX6 15 "LoanHouse$Pictures" "places" "[LLoanHouse$House;", Cond.classLink RX6 13 RX4, Cond.instantiable RX4 4, Cond.initialized RX4, Cond.static yX7_isBelow, Cond.initialized RX7, Cond.code yX7_isBelow cX7_isBelow 2 (some .boolean), Cond.instanceMethod yX4_init, Cond.code yX4_init cX4_init 1 none, Cond.methodLink RX4 3 objectInit, Cond.instanceMethod objectInit]
def wsX7_remember_r2 : List Cond := [Cond.code objectInit ⟨#[0xb1]⟩ 1 none, Cond.classLink RX4 9 RX0, Cond.instantiable RX0 4, Cond.initialized RX0, Cond.fieldLink RX4 12 "LoanHouse$House" "calendar" "LLoanHouse$Calendar;", Cond.classLink RX4 18 RX1, Cond.instantiable RX1 2, Cond.initialized RX1, Cond.fieldLink RX4 21 "LoanHouse$House" "copies" "LLoanHouse$Copies;", Cond.classLink RX4 25 RX3, Cond.instantiable RX3 3, Cond.initialized RX3, Cond.fieldLink RX4 28 "LoanHouse$House" "holds" "LLoanHouse$Holds;", Cond.instanceMethod yX0_init, Cond.code yX0_init cX0_init 1 none, Cond.methodLink RX0 3 objectInit, Cond.fieldLink RX0 9 "LoanHouse$Calendar" "term" "I", Cond.fieldLink RX0 15 "LoanHouse$Calendar" "patience" "I", Cond.fieldLink RX0 18 "LoanHouse$Calendar" "closed" "I", Cond.instanceMethod yX1_init, Cond.code yX1_init cX1_init 1 none, Cond.methodLink RX1 3 objectInit, Cond.classLink RX1 9 RX2, Cond.instantiable RX2 3]
def wsX7_remember_r3 : List Cond := [Cond.initialized RX2, Cond.fieldLink RX1 16 "LoanHouse$Copies" "grid" "LLoanHouse$Grid;", Cond.methodLink RX1 13 yX2_init, Cond.instanceMethod yX2_init, Cond.code yX2_init cX2_init 3 none, Cond.methodLink RX2 3 objectInit, Cond.methodLink RX2 9 Lib.Math.max.name, Cond.static Lib.Math.max.name, Cond.code Lib.Math.max.name Lib.Math.max.code 2 (some .int), Cond.fieldLink RX2 15 "LoanHouse$Grid" "rows" "I", Cond.fieldLink RX2 21 "LoanHouse$Grid" "columns" "I", Cond.arrayClass .int, Cond.fieldLink RX2 24 "LoanHouse$Grid" "cells" "[I", Cond.instanceMethod yX3_init, Cond.code yX3_init cX3_init 1 none, Cond.methodLink RX3 3 objectInit, Cond.classLink RX3 9 RX2, Cond.fieldLink RX3 16 "LoanHouse$Holds" "grid" "LLoanHouse$Grid;", Cond.methodLink RX3 13 yX2_init, Cond.methodLink RX6 28 yX4_become, Cond.instanceMethod yX4_become, Cond.selects RX4 yX4_become yX4_become, Cond.code yX4_become cX4_become 2 none, Cond.fieldLink RX4 95 "LoanHouse$House" "trips" "I"]
def wsX7_remember_r4 : List Cond := [Cond.methodLink RX4 137 yX0_become, Cond.instanceMethod yX0_become, Cond.selects RX0 yX0_become yX0_become, Cond.code yX0_become cX0_become 2 none, Cond.fieldLink RX0 27 "LoanHouse$Calendar" "now" "I", Cond.methodLink RX4 141 yX1_become, Cond.instanceMethod yX1_become, Cond.selects RX1 yX1_become yX1_become, Cond.code yX1_become cX1_become 2 none, Cond.fieldLink RX1 24 "LoanHouse$Copies" "count" "I", Cond.methodLink RX1 78 yX2_become, Cond.instanceMethod yX2_become, Cond.selects RX2 yX2_become yX2_become, Cond.code yX2_become cX2_become 2 none, Cond.methodLink RX2 34 Lib.Math.min.name, Cond.methodLink RX2 28 arraycopyName, Cond.native arraycopyName, Cond.static arraycopyName, Cond.initialized "java/lang/System", Cond.methodLink RX4 144 yX3_become, Cond.instanceMethod yX3_become, Cond.selects RX3 yX3_become yX3_become, Cond.code yX3_become cX3_become 2 none, Cond.fieldLink RX3 24 "LoanHouse$Holds" "count" "I"]
def wsX7_remember_r5 : List Cond := [Cond.fieldLink RX3 32 "LoanHouse$Holds" "nextNumber" "I", Cond.methodLink RX3 73 yX2_become, Cond.methodLink RX7 151 yJ9_floorMod_7cf53, Cond.static yJ9_floorMod_7cf53, Cond.initialized RJ9, Cond.code yJ9_floorMod_7cf53 cJ9_floorMod_7cf53 3 (some .int)]
def wsX7_remember : List Cond := .code yX7_remember cX7_remember 1 none :: ((wsX7_remember_r1 ++ (wsX7_remember_r2 ++ (wsX7_remember_r3 ++ (wsX7_remember_r4 ++ wsX7_remember_r5)))) ++ wsX70 ++ wsX60 ++ wsX40 ++ wsX00 ++ wsX10 ++ wsX30 ++ wsX20)
def wsX7_copy_r1 : List Cond := [Cond.constant RX7 39 (-1000000001), Cond.fieldLink RX7 10 "LoanHouse" "house" "LLoanHouse$House;", Cond.constant RX7 50 (-1000000004), Cond.methodLink RX7 35 yX7_isBelow, Cond.static yX7_isBelow, Cond.initialized RX7, Cond.code yX7_isBelow cX7_isBelow 2 (some .boolean), Cond.methodLink RX7 51 yX7_remember, Cond.instanceMethod yX7_remember, Cond.selects RX7 yX7_remember yX7_remember, Cond.code yX7_remember cX7_remember 1 none, Cond.fieldLink RX7 21 "LoanHouse" "past" "LLoanHouse$Pictures;", Cond.fieldLink RX7 148 "LoanHouse" "nextPast" "I", Cond.fieldLink RX7 145 "LoanHouse" "undoable" "I", Cond.methodLink RX7 256 Lib.Math.min.name, Cond.static Lib.Math.min.name, Cond.initialized "java/lang/Math", Cond.code Lib.Math.min.name Lib.Math.min.code 2 (some .int), Cond.methodLink RX7 250 yX6_take, Cond.instanceMethod yX6_take, Cond.selects RX6 yX6_take yX6_take, Cond.initialized RX6, Cond.code yX6_take cX6_take 4 none, Cond.fieldLink RX6 15 "LoanHouse$Pictures" "places" "[LLoanHouse$House;"]
def wsX7_copy_r2 : List Cond := [Cond.classLink RX6 13 RX4, Cond.instantiable RX4 4, Cond.initialized RX4, Cond.instanceMethod yX4_init, Cond.code yX4_init cX4_init 1 none, Cond.methodLink RX4 3 objectInit, Cond.instanceMethod objectInit, Cond.code objectInit ⟨#[0xb1]⟩ 1 none, Cond.classLink RX4 9 RX0, Cond.instantiable RX0 4, Cond.initialized RX0, Cond.fieldLink RX4 12 "LoanHouse$House" "calendar" "LLoanHouse$Calendar;", Cond.classLink RX4 18 RX1, Cond.instantiable RX1 2, Cond.initialized RX1, Cond.fieldLink RX4 21 "LoanHouse$House" "copies" "LLoanHouse$Copies;", Cond.classLink RX4 25 RX3, Cond.instantiable RX3 3, Cond.initialized RX3, Cond.fieldLink RX4 28 "LoanHouse$House" "holds" "LLoanHouse$Holds;", Cond.instanceMethod yX0_init, Cond.code yX0_init cX0_init 1 none, Cond.methodLink RX0 3 objectInit, Cond.fieldLink RX0 9 "LoanHouse$Calendar" "term" "I"]
def wsX7_copy_r3 : List Cond := [Cond.fieldLink RX0 15 "LoanHouse$Calendar" "patience" "I", Cond.fieldLink RX0 18 "LoanHouse$Calendar" "closed" "I", Cond.instanceMethod yX1_init, Cond.code yX1_init cX1_init 1 none, Cond.methodLink RX1 3 objectInit, Cond.classLink RX1 9 RX2, Cond.instantiable RX2 3, Cond.initialized RX2, Cond.fieldLink RX1 16 "LoanHouse$Copies" "grid" "LLoanHouse$Grid;", Cond.methodLink RX1 13 yX2_init, Cond.instanceMethod yX2_init, Cond.code yX2_init cX2_init 3 none, Cond.methodLink RX2 3 objectInit, Cond.methodLink RX2 9 Lib.Math.max.name, Cond.static Lib.Math.max.name, Cond.code Lib.Math.max.name Lib.Math.max.code 2 (some .int), Cond.fieldLink RX2 15 "LoanHouse$Grid" "rows" "I", Cond.fieldLink RX2 21 "LoanHouse$Grid" "columns" "I", Cond.arrayClass .int, Cond.fieldLink RX2 24 "LoanHouse$Grid" "cells" "[I", Cond.instanceMethod yX3_init, Cond.code yX3_init cX3_init 1 none, Cond.methodLink RX3 3 objectInit, Cond.classLink RX3 9 RX2]
def wsX7_copy_r4 : List Cond := [Cond.fieldLink RX3 16 "LoanHouse$Holds" "grid" "LLoanHouse$Grid;", Cond.methodLink RX3 13 yX2_init, Cond.methodLink RX6 28 yX4_become, Cond.instanceMethod yX4_become, Cond.selects RX4 yX4_become yX4_become, Cond.code yX4_become cX4_become 2 none, Cond.fieldLink RX4 95 "LoanHouse$House" "trips" "I", Cond.methodLink RX4 137 yX0_become, Cond.instanceMethod yX0_become, Cond.selects RX0 yX0_become yX0_become, Cond.code yX0_become cX0_become 2 none, Cond.fieldLink RX0 27 "LoanHouse$Calendar" "now" "I", Cond.methodLink RX4 141 yX1_become, Cond.instanceMethod yX1_become, Cond.selects RX1 yX1_become yX1_become, Cond.code yX1_become cX1_become 2 none, Cond.fieldLink RX1 24 "LoanHouse$Copies" "count" "I", Cond.methodLink RX1 78 yX2_become, Cond.instanceMethod yX2_become, Cond.selects RX2 yX2_become yX2_become, Cond.code yX2_become cX2_become 2 none, Cond.methodLink RX2 34 Lib.Math.min.name, Cond.methodLink RX2 28 arraycopyName, Cond.native arraycopyName]
def wsX7_copy_r5 : List Cond := [Cond.static arraycopyName, Cond.initialized "java/lang/System", Cond.methodLink RX4 144 yX3_become, Cond.instanceMethod yX3_become, Cond.selects RX3 yX3_become yX3_become, Cond.code yX3_become cX3_become 2 none, Cond.fieldLink RX3 24 "LoanHouse$Holds" "count" "I", Cond.fieldLink RX3 32 "LoanHouse$Holds" "nextNumber" "I", Cond.methodLink RX3 73 yX2_become, Cond.methodLink RX7 151 yJ9_floorMod_7cf53, Cond.static yJ9_floorMod_7cf53, Cond.initialized RJ9, Cond.code yJ9_floorMod_7cf53 cJ9_floorMod_7cf53 3 (some .int), Cond.methodLink RX7 54 yX4_addCopy, Cond.instanceMethod yX4_addCopy, Cond.selects RX4 yX4_addCopy yX4_addCopy, Cond.code yX4_addCopy cX4_addCopy 4 (some .int), Cond.methodLink RX4 32 yX1_add, Cond.instanceMethod yX1_add, Cond.selects RX1 yX1_add yX1_add, Cond.code yX1_add cX1_add 4 (some .int), Cond.methodLink RX1 28 yX2_put, Cond.instanceMethod yX2_put, Cond.selects RX2 yX2_put yX2_put]
def wsX7_copy_r6 : List Cond := [Cond.code yX2_put cX2_put 4 none, Cond.methodLink RX1 32 yX1_write, Cond.instanceMethod yX1_write, Cond.selects RX1 yX1_write yX1_write, Cond.code yX1_write cX1_write 6 none, Cond.methodLink RX4 36 yX4_serve, Cond.instanceMethod yX4_serve, Cond.selects RX4 yX4_serve yX4_serve, Cond.code yX4_serve cX4_serve 5 none, Cond.methodLink RX4 108 yX3_firstOfRow, Cond.instanceMethod yX3_firstOfRow, Cond.selects RX3 yX3_firstOfRow yX3_firstOfRow, Cond.code yX3_firstOfRow cX3_firstOfRow 4 (some .int), Cond.methodLink RX3 56 yX3_isInRow, Cond.instanceMethod yX3_isInRow, Cond.selects RX3 yX3_isInRow yX3_isInRow, Cond.code yX3_isInRow cX3_isInRow 3 (some .boolean), Cond.methodLink RX3 20 yX2_at, Cond.instanceMethod yX2_at, Cond.selects RX2 yX2_at yX2_at, Cond.code yX2_at cX2_at 3 (some .int), Cond.methodLink RX3 59 yX3_need, Cond.instanceMethod yX3_need, Cond.selects RX3 yX3_need yX3_need]
def wsX7_copy_r7 : List Cond := [Cond.code yX3_need cX3_need 2 (some .int), Cond.methodLink RX4 111 yX3_branch, Cond.instanceMethod yX3_branch, Cond.selects RX3 yX3_branch yX3_branch, Cond.code yX3_branch cX3_branch 2 (some .int), Cond.methodLink RX4 112 yX1_nearestIn, Cond.instanceMethod yX1_nearestIn, Cond.selects RX1 yX1_nearestIn yX1_nearestIn, Cond.code yX1_nearestIn cX1_nearestIn 6 (some .int), Cond.methodLink RX1 40 yX1_title, Cond.instanceMethod yX1_title, Cond.selects RX1 yX1_title yX1_title, Cond.code yX1_title cX1_title 2 (some .int), Cond.methodLink RX1 20 yX2_at, Cond.methodLink RX1 36 yX1_state, Cond.instanceMethod yX1_state, Cond.selects RX1 yX1_state yX1_state, Cond.code yX1_state cX1_state 2 (some .int), Cond.methodLink RX1 61 yX1_branch, Cond.instanceMethod yX1_branch, Cond.selects RX1 yX1_branch yX1_branch, Cond.code yX1_branch cX1_branch 2 (some .int), Cond.static yX7_way, Cond.code yX7_way cX7_way 3 (some .int)]
def wsX7_copy_r8 : List Cond := [Cond.methodLink RX7 264 Lib.Math.abs.name, Cond.static Lib.Math.abs.name, Cond.code Lib.Math.abs.name Lib.Math.abs.code 1 (some .int), Cond.methodLink RX4 115 yX4_assign, Cond.instanceMethod yX4_assign, Cond.selects RX4 yX4_assign yX4_assign, Cond.code yX4_assign cX4_assign 6 none, Cond.methodLink RX4 60 yX1_branch, Cond.methodLink RX4 118 yX3_number, Cond.instanceMethod yX3_number, Cond.selects RX3 yX3_number yX3_number, Cond.code yX3_number cX3_number 2 (some .int), Cond.methodLink RX4 82 yX3_putCopy, Cond.instanceMethod yX3_putCopy, Cond.selects RX3 yX3_putCopy yX3_putCopy, Cond.code yX3_putCopy cX3_putCopy 3 none, Cond.methodLink RX3 35 yX2_put, Cond.methodLink RX4 105 yX0_lastOfPatience, Cond.instanceMethod yX0_lastOfPatience, Cond.selects RX0 yX0_lastOfPatience yX0_lastOfPatience, Cond.code yX0_lastOfPatience cX0_lastOfPatience 1 (some .int), Cond.methodLink RX4 63 yX1_write]
def wsX7_copy : List Cond := .code yX7_copy cX7_copy 3 (some .int) :: ((wsX7_copy_r1 ++ (wsX7_copy_r2 ++ (wsX7_copy_r3 ++ (wsX7_copy_r4 ++ (wsX7_copy_r5 ++ (wsX7_copy_r6 ++ (wsX7_copy_r7 ++ wsX7_copy_r8))))))) ++ wsX70 ++ wsX40 ++ wsX10 ++ wsX60 ++ wsX00 ++ wsX30 ++ wsX20)
def wsX7_isCopy : List Cond := .code yX7_isCopy cX7_isCopy 2 (some .boolean) :: ([.fieldLink RX7 10 "LoanHouse" "house" "LLoanHouse$House;", .methodLink RX7 35 yX7_isBelow, .static yX7_isBelow, .initialized RX7, .code yX7_isBelow cX7_isBelow 2 (some .boolean)] ++ wsX70 ++ wsX40 ++ wsX10)
def wsJ6_bitCount_0f7a4 : List Cond := .code yJ6_bitCount_0f7a4 cJ6_bitCount_0f7a4 1 (some .int) :: ([.constant RJ6 265 (1431655765), .constant RJ6 266 (858993459), .constant RJ6 267 (252645135)])
def wsX7_refusalToLend_r1 : List Cond := [Cond.constant RX7 39 (-1000000001), Cond.fieldLink RX7 10 "LoanHouse" "house" "LLoanHouse$House;", Cond.constant RX7 90 (-1000000003), Cond.methodLink RX7 70 yX7_isCopy, Cond.instanceMethod yX7_isCopy, Cond.selects RX7 yX7_isCopy yX7_isCopy, Cond.initialized RX7, Cond.code yX7_isCopy cX7_isCopy 2 (some .boolean), Cond.methodLink RX7 35 yX7_isBelow, Cond.static yX7_isBelow, Cond.code yX7_isBelow cX7_isBelow 2 (some .boolean), Cond.methodLink RX7 259 yX4_mayTake, Cond.instanceMethod yX4_mayTake, Cond.selects RX4 yX4_mayTake yX4_mayTake, Cond.initialized RX4, Cond.code yX4_mayTake cX4_mayTake 4 (some .boolean), Cond.fieldLink RX4 21 "LoanHouse$House" "copies" "LLoanHouse$Copies;", Cond.fieldLink RX4 28 "LoanHouse$House" "holds" "LLoanHouse$Holds;", Cond.methodLink RX4 39 yX1_state, Cond.instanceMethod yX1_state, Cond.selects RX1 yX1_state yX1_state, Cond.initialized RX1, Cond.code yX1_state cX1_state 2 (some .int), Cond.fieldLink RX1 16 "LoanHouse$Copies" "grid" "LLoanHouse$Grid;"]
def wsX7_refusalToLend_r2 : List Cond := [Cond.methodLink RX1 20 yX2_at, Cond.instanceMethod yX2_at, Cond.selects RX2 yX2_at yX2_at, Cond.initialized RX2, Cond.code yX2_at cX2_at 3 (some .int), Cond.fieldLink RX2 15 "LoanHouse$Grid" "rows" "I", Cond.fieldLink RX2 21 "LoanHouse$Grid" "columns" "I", Cond.fieldLink RX2 24 "LoanHouse$Grid" "cells" "[I", Cond.methodLink RX4 43 yX1_whose, Cond.instanceMethod yX1_whose, Cond.selects RX1 yX1_whose yX1_whose, Cond.code yX1_whose cX1_whose 2 (some .int), Cond.methodLink RX4 46 yX3_slotOf, Cond.instanceMethod yX3_slotOf, Cond.selects RX3 yX3_slotOf yX3_slotOf, Cond.initialized RX3, Cond.code yX3_slotOf cX3_slotOf 3 (some .int), Cond.fieldLink RX3 24 "LoanHouse$Holds" "count" "I", Cond.methodLink RX3 28 yX3_number, Cond.instanceMethod yX3_number, Cond.selects RX3 yX3_number yX3_number, Cond.code yX3_number cX3_number 2 (some .int), Cond.fieldLink RX3 16 "LoanHouse$Holds" "grid" "LLoanHouse$Grid;", Cond.methodLink RX3 20 yX2_at]
def wsX7_refusalToLend_r3 : List Cond := [Cond.methodLink RX4 49 yX3_reader, Cond.instanceMethod yX3_reader, Cond.selects RX3 yX3_reader yX3_reader, Cond.code yX3_reader cX3_reader 2 (some .int), Cond.methodLink RX7 238 yX1_outTo, Cond.instanceMethod yX1_outTo, Cond.selects RX1 yX1_outTo yX1_outTo, Cond.code yX1_outTo cX1_outTo 4 (some .int), Cond.fieldLink RX1 24 "LoanHouse$Copies" "count" "I", Cond.methodLink RX1 43 yX1_isOutTo, Cond.instanceMethod yX1_isOutTo, Cond.selects RX1 yX1_isOutTo yX1_isOutTo, Cond.code yX1_isOutTo cX1_isOutTo 3 (some .boolean), Cond.methodLink RX1 36 yX1_state, Cond.methodLink RX1 75 yX1_whose, Cond.methodLink RX7 180 yJ6_bitCount_0f7a4, Cond.static yJ6_bitCount_0f7a4, Cond.initialized RJ6, Cond.code yJ6_bitCount_0f7a4 cJ6_bitCount_0f7a4 1 (some .int), Cond.constant RJ6 265 (1431655765), Cond.constant RJ6 266 (858993459), Cond.constant RJ6 267 (252645135)]
def wsX7_refusalToLend : List Cond := .code yX7_refusalToLend cX7_refusalToLend 3 (some .int) :: ((wsX7_refusalToLend_r1 ++ (wsX7_refusalToLend_r2 ++ wsX7_refusalToLend_r3)) ++ wsX70 ++ wsX40 ++ wsX10 ++ wsX20 ++ wsX30)
def wsX7_lend_r1 : List Cond := [Cond.fieldLink RX7 10 "LoanHouse" "house" "LLoanHouse$House;", Cond.methodLink RX7 58 yX7_refusalToLend, Cond.instanceMethod yX7_refusalToLend, Cond.selects RX7 yX7_refusalToLend yX7_refusalToLend, Cond.initialized RX7, Cond.code yX7_refusalToLend cX7_refusalToLend 3 (some .int), Cond.constant RX7 39 (-1000000001), Cond.constant RX7 90 (-1000000003), Cond.methodLink RX7 70 yX7_isCopy, Cond.instanceMethod yX7_isCopy, Cond.selects RX7 yX7_isCopy yX7_isCopy, Cond.code yX7_isCopy cX7_isCopy 2 (some .boolean), Cond.methodLink RX7 35 yX7_isBelow, Cond.static yX7_isBelow, Cond.code yX7_isBelow cX7_isBelow 2 (some .boolean), Cond.methodLink RX7 259 yX4_mayTake, Cond.instanceMethod yX4_mayTake, Cond.selects RX4 yX4_mayTake yX4_mayTake, Cond.initialized RX4, Cond.code yX4_mayTake cX4_mayTake 4 (some .boolean), Cond.fieldLink RX4 21 "LoanHouse$House" "copies" "LLoanHouse$Copies;", Cond.fieldLink RX4 28 "LoanHouse$House" "holds" "LLoanHouse$Holds;", Cond.methodLink RX4 39 yX1_state, Cond.instanceMethod yX1_state]
def wsX7_lend_r2 : List Cond := [Cond.selects RX1 yX1_state yX1_state, Cond.initialized RX1, Cond.code yX1_state cX1_state 2 (some .int), Cond.fieldLink RX1 16 "LoanHouse$Copies" "grid" "LLoanHouse$Grid;", Cond.methodLink RX1 20 yX2_at, Cond.instanceMethod yX2_at, Cond.selects RX2 yX2_at yX2_at, Cond.initialized RX2, Cond.code yX2_at cX2_at 3 (some .int), Cond.fieldLink RX2 15 "LoanHouse$Grid" "rows" "I", Cond.fieldLink RX2 21 "LoanHouse$Grid" "columns" "I", Cond.fieldLink RX2 24 "LoanHouse$Grid" "cells" "[I", Cond.methodLink RX4 43 yX1_whose, Cond.instanceMethod yX1_whose, Cond.selects RX1 yX1_whose yX1_whose, Cond.code yX1_whose cX1_whose 2 (some .int), Cond.methodLink RX4 46 yX3_slotOf, Cond.instanceMethod yX3_slotOf, Cond.selects RX3 yX3_slotOf yX3_slotOf, Cond.initialized RX3, Cond.code yX3_slotOf cX3_slotOf 3 (some .int), Cond.fieldLink RX3 24 "LoanHouse$Holds" "count" "I", Cond.methodLink RX3 28 yX3_number, Cond.instanceMethod yX3_number]
def wsX7_lend_r3 : List Cond := [Cond.selects RX3 yX3_number yX3_number, Cond.code yX3_number cX3_number 2 (some .int), Cond.fieldLink RX3 16 "LoanHouse$Holds" "grid" "LLoanHouse$Grid;", Cond.methodLink RX3 20 yX2_at, Cond.methodLink RX4 49 yX3_reader, Cond.instanceMethod yX3_reader, Cond.selects RX3 yX3_reader yX3_reader, Cond.code yX3_reader cX3_reader 2 (some .int), Cond.methodLink RX7 238 yX1_outTo, Cond.instanceMethod yX1_outTo, Cond.selects RX1 yX1_outTo yX1_outTo, Cond.code yX1_outTo cX1_outTo 4 (some .int), Cond.fieldLink RX1 24 "LoanHouse$Copies" "count" "I", Cond.methodLink RX1 43 yX1_isOutTo, Cond.instanceMethod yX1_isOutTo, Cond.selects RX1 yX1_isOutTo yX1_isOutTo, Cond.code yX1_isOutTo cX1_isOutTo 3 (some .boolean), Cond.methodLink RX1 36 yX1_state, Cond.methodLink RX1 75 yX1_whose, Cond.methodLink RX7 180 yJ6_bitCount_0f7a4, Cond.static yJ6_bitCount_0f7a4, Cond.initialized RJ6, Cond.code yJ6_bitCount_0f7a4 cJ6_bitCount_0f7a4 1 (some .int), Cond.constant RJ6 265 (1431655765)]
def wsX7_lend_r4 : List Cond := [Cond.constant RJ6 266 (858993459), Cond.constant RJ6 267 (252645135), Cond.methodLink RX7 51 yX7_remember, Cond.instanceMethod yX7_remember, Cond.selects RX7 yX7_remember yX7_remember, Cond.code yX7_remember cX7_remember 1 none, Cond.fieldLink RX7 21 "LoanHouse" "past" "LLoanHouse$Pictures;", Cond.fieldLink RX7 148 "LoanHouse" "nextPast" "I", Cond.fieldLink RX7 145 "LoanHouse" "undoable" "I", Cond.methodLink RX7 256 Lib.Math.min.name, Cond.static Lib.Math.min.name, Cond.initialized "java/lang/Math", Cond.code Lib.Math.min.name Lib.Math.min.code 2 (some .int), Cond.methodLink RX7 250 yX6_take, Cond.instanceMethod yX6_take, Cond.selects RX6 yX6_take yX6_take, Cond.initialized RX6, Cond.code yX6_take cX6_take 4 none, Cond.fieldLink RX6 15 "LoanHouse$Pictures" "places" "[LLoanHouse$House;", Cond.classLink RX6 13 RX4, Cond.instantiable RX4 4, Cond.instanceMethod yX4_init, Cond.code yX4_init cX4_init 1 none, Cond.methodLink RX4 3 objectInit]
def wsX7_lend_r5 : List Cond := [Cond.instanceMethod objectInit, Cond.code objectInit ⟨#[0xb1]⟩ 1 none, Cond.classLink RX4 9 RX0, Cond.instantiable RX0 4, Cond.initialized RX0, Cond.fieldLink RX4 12 "LoanHouse$House" "calendar" "LLoanHouse$Calendar;", Cond.classLink RX4 18 RX1, Cond.instantiable RX1 2, Cond.classLink RX4 25 RX3, Cond.instantiable RX3 3, Cond.instanceMethod yX0_init, Cond.code yX0_init cX0_init 1 none, Cond.methodLink RX0 3 objectInit, Cond.fieldLink RX0 9 "LoanHouse$Calendar" "term" "I", Cond.fieldLink RX0 15 "LoanHouse$Calendar" "patience" "I", Cond.fieldLink RX0 18 "LoanHouse$Calendar" "closed" "I", Cond.instanceMethod yX1_init, Cond.code yX1_init cX1_init 1 none, Cond.methodLink RX1 3 objectInit, Cond.classLink RX1 9 RX2, Cond.instantiable RX2 3, Cond.methodLink RX1 13 yX2_init, Cond.instanceMethod yX2_init, Cond.code yX2_init cX2_init 3 none]
def wsX7_lend_r6 : List Cond := [Cond.methodLink RX2 3 objectInit, Cond.methodLink RX2 9 Lib.Math.max.name, Cond.static Lib.Math.max.name, Cond.code Lib.Math.max.name Lib.Math.max.code 2 (some .int), Cond.arrayClass .int, Cond.instanceMethod yX3_init, Cond.code yX3_init cX3_init 1 none, Cond.methodLink RX3 3 objectInit, Cond.classLink RX3 9 RX2, Cond.methodLink RX3 13 yX2_init, Cond.methodLink RX6 28 yX4_become, Cond.instanceMethod yX4_become, Cond.selects RX4 yX4_become yX4_become, Cond.code yX4_become cX4_become 2 none, Cond.fieldLink RX4 95 "LoanHouse$House" "trips" "I", Cond.methodLink RX4 137 yX0_become, Cond.instanceMethod yX0_become, Cond.selects RX0 yX0_become yX0_become, Cond.code yX0_become cX0_become 2 none, Cond.fieldLink RX0 27 "LoanHouse$Calendar" "now" "I", Cond.methodLink RX4 141 yX1_become, Cond.instanceMethod yX1_become, Cond.selects RX1 yX1_become yX1_become, Cond.code yX1_become cX1_become 2 none]
def wsX7_lend_r7 : List Cond := [Cond.methodLink RX1 78 yX2_become, Cond.instanceMethod yX2_become, Cond.selects RX2 yX2_become yX2_become, Cond.code yX2_become cX2_become 2 none, Cond.methodLink RX2 34 Lib.Math.min.name, Cond.methodLink RX2 28 arraycopyName, Cond.native arraycopyName, Cond.static arraycopyName, Cond.initialized "java/lang/System", Cond.methodLink RX4 144 yX3_become, Cond.instanceMethod yX3_become, Cond.selects RX3 yX3_become yX3_become, Cond.code yX3_become cX3_become 2 none, Cond.fieldLink RX3 32 "LoanHouse$Holds" "nextNumber" "I", Cond.methodLink RX3 73 yX2_become, Cond.methodLink RX7 151 yJ9_floorMod_7cf53, Cond.static yJ9_floorMod_7cf53, Cond.initialized RJ9, Cond.code yJ9_floorMod_7cf53 cJ9_floorMod_7cf53 3 (some .int), Cond.methodLink RX7 61 yX4_lendTo, Cond.instanceMethod yX4_lendTo, Cond.selects RX4 yX4_lendTo yX4_lendTo, Cond.code yX4_lendTo cX4_lendTo 4 (some .int), Cond.methodLink RX4 52 yX3_takeOut]
def wsX7_lend_r8 : List Cond := [Cond.instanceMethod yX3_takeOut, Cond.selects RX3 yX3_takeOut yX3_takeOut, Cond.code yX3_takeOut cX3_takeOut 2 none, Cond.methodLink RX3 43 yX2_takeOut, Cond.instanceMethod yX2_takeOut, Cond.selects RX2 yX2_takeOut yX2_takeOut, Cond.code yX2_takeOut cX2_takeOut 4 none, Cond.methodLink RX4 56 yX0_dueFromNow, Cond.instanceMethod yX0_dueFromNow, Cond.selects RX0 yX0_dueFromNow yX0_dueFromNow, Cond.code yX0_dueFromNow cX0_dueFromNow 3 (some .int), Cond.methodLink RX0 30 yX0_isClosed, Cond.instanceMethod yX0_isClosed, Cond.selects RX0 yX0_isClosed yX0_isClosed, Cond.code yX0_isClosed cX0_isClosed 2 (some .boolean), Cond.methodLink RX0 21 yJ9_floorMod_7cf53, Cond.methodLink RX4 60 yX1_branch, Cond.instanceMethod yX1_branch, Cond.selects RX1 yX1_branch yX1_branch, Cond.code yX1_branch cX1_branch 2 (some .int), Cond.methodLink RX4 63 yX1_write, Cond.instanceMethod yX1_write, Cond.selects RX1 yX1_write yX1_write, Cond.code yX1_write cX1_write 6 none]
def wsX7_lend_r9 : List Cond := [Cond.methodLink RX1 28 yX2_put, Cond.instanceMethod yX2_put, Cond.selects RX2 yX2_put yX2_put, Cond.code yX2_put cX2_put 4 none]
def wsX7_lend : List Cond := .code yX7_lend cX7_lend 4 (some .int) :: ((wsX7_lend_r1 ++ (wsX7_lend_r2 ++ (wsX7_lend_r3 ++ (wsX7_lend_r4 ++ (wsX7_lend_r5 ++ (wsX7_lend_r6 ++ (wsX7_lend_r7 ++ (wsX7_lend_r8 ++ wsX7_lend_r9)))))))) ++ wsX70 ++ wsX40 ++ wsX10 ++ wsX20 ++ wsX30 ++ wsX60 ++ wsX00)
def wsX7_refusalToTakeBack_r1 : List Cond := [Cond.constant RX7 39 (-1000000001), Cond.fieldLink RX7 10 "LoanHouse" "house" "LLoanHouse$House;", Cond.constant RX7 90 (-1000000003), Cond.methodLink RX7 70 yX7_isCopy, Cond.instanceMethod yX7_isCopy, Cond.selects RX7 yX7_isCopy yX7_isCopy, Cond.initialized RX7, Cond.code yX7_isCopy cX7_isCopy 2 (some .boolean), Cond.methodLink RX7 35 yX7_isBelow, Cond.static yX7_isBelow, Cond.code yX7_isBelow cX7_isBelow 2 (some .boolean), Cond.methodLink RX7 74 yX1_state, Cond.instanceMethod yX1_state, Cond.selects RX1 yX1_state yX1_state, Cond.initialized RX1, Cond.code yX1_state cX1_state 2 (some .int), Cond.fieldLink RX1 16 "LoanHouse$Copies" "grid" "LLoanHouse$Grid;", Cond.methodLink RX1 20 yX2_at, Cond.instanceMethod yX2_at, Cond.selects RX2 yX2_at yX2_at, Cond.initialized RX2, Cond.code yX2_at cX2_at 3 (some .int), Cond.fieldLink RX2 15 "LoanHouse$Grid" "rows" "I", Cond.fieldLink RX2 21 "LoanHouse$Grid" "columns" "I"]
def wsX7_refusalToTakeBack_r2 : List Cond := [Cond.fieldLink RX2 24 "LoanHouse$Grid" "cells" "[I"]
def wsX7_refusalToTakeBack : List Cond := .code yX7_refusalToTakeBack cX7_refusalToTakeBack 4 (some .int) :: ((wsX7_refusalToTakeBack_r1 ++ wsX7_refusalToTakeBack_r2) ++ wsX70 ++ wsX40 ++ wsX10 ++ wsX20)
def wsX7_giveBack_r1 : List Cond := [Cond.fieldLink RX7 10 "LoanHouse" "house" "LLoanHouse$House;", Cond.methodLink RX7 64 yX7_refusalToTakeBack, Cond.instanceMethod yX7_refusalToTakeBack, Cond.selects RX7 yX7_refusalToTakeBack yX7_refusalToTakeBack, Cond.initialized RX7, Cond.code yX7_refusalToTakeBack cX7_refusalToTakeBack 4 (some .int), Cond.constant RX7 39 (-1000000001), Cond.constant RX7 90 (-1000000003), Cond.methodLink RX7 70 yX7_isCopy, Cond.instanceMethod yX7_isCopy, Cond.selects RX7 yX7_isCopy yX7_isCopy, Cond.code yX7_isCopy cX7_isCopy 2 (some .boolean), Cond.methodLink RX7 35 yX7_isBelow, Cond.static yX7_isBelow, Cond.code yX7_isBelow cX7_isBelow 2 (some .boolean), Cond.methodLink RX7 74 yX1_state, Cond.instanceMethod yX1_state, Cond.selects RX1 yX1_state yX1_state, Cond.initialized RX1, Cond.code yX1_state cX1_state 2 (some .int), Cond.fieldLink RX1 16 "LoanHouse$Copies" "grid" "LLoanHouse$Grid;", Cond.methodLink RX1 20 yX2_at, Cond.instanceMethod yX2_at, Cond.selects RX2 yX2_at yX2_at]
def wsX7_giveBack_r2 : List Cond := [Cond.initialized RX2, Cond.code yX2_at cX2_at 3 (some .int), Cond.fieldLink RX2 15 "LoanHouse$Grid" "rows" "I", Cond.fieldLink RX2 21 "LoanHouse$Grid" "columns" "I", Cond.fieldLink RX2 24 "LoanHouse$Grid" "cells" "[I", Cond.methodLink RX7 51 yX7_remember, Cond.instanceMethod yX7_remember, Cond.selects RX7 yX7_remember yX7_remember, Cond.code yX7_remember cX7_remember 1 none, Cond.fieldLink RX7 21 "LoanHouse" "past" "LLoanHouse$Pictures;", Cond.fieldLink RX7 148 "LoanHouse" "nextPast" "I", Cond.fieldLink RX7 145 "LoanHouse" "undoable" "I", Cond.methodLink RX7 256 Lib.Math.min.name, Cond.static Lib.Math.min.name, Cond.initialized "java/lang/Math", Cond.code Lib.Math.min.name Lib.Math.min.code 2 (some .int), Cond.methodLink RX7 250 yX6_take, Cond.instanceMethod yX6_take, Cond.selects RX6 yX6_take yX6_take, Cond.initialized RX6, Cond.code yX6_take cX6_take 4 none, Cond.fieldLink RX6 15 "LoanHouse$Pictures" "places" "[LLoanHouse$House;", Cond.classLink RX6 13 RX4, Cond.instantiable RX4 4]
def wsX7_giveBack_r3 : List Cond := [Cond.initialized RX4, Cond.instanceMethod yX4_init, Cond.code yX4_init cX4_init 1 none, Cond.methodLink RX4 3 objectInit, Cond.instanceMethod objectInit, Cond.code objectInit ⟨#[0xb1]⟩ 1 none, Cond.classLink RX4 9 RX0, Cond.instantiable RX0 4, Cond.initialized RX0, Cond.fieldLink RX4 12 "LoanHouse$House" "calendar" "LLoanHouse$Calendar;", Cond.classLink RX4 18 RX1, Cond.instantiable RX1 2, Cond.fieldLink RX4 21 "LoanHouse$House" "copies" "LLoanHouse$Copies;", Cond.classLink RX4 25 RX3, Cond.instantiable RX3 3, Cond.initialized RX3, Cond.fieldLink RX4 28 "LoanHouse$House" "holds" "LLoanHouse$Holds;", Cond.instanceMethod yX0_init, Cond.code yX0_init cX0_init 1 none, Cond.methodLink RX0 3 objectInit, Cond.fieldLink RX0 9 "LoanHouse$Calendar" "term" "I", Cond.fieldLink RX0 15 "LoanHouse$Calendar" "patience" "I", Cond.fieldLink RX0 18 "LoanHouse$Calendar" "closed" "I", Cond.instanceMethod yX1_init]
def wsX7_giveBack_r4 : List Cond := [Cond.code yX1_init cX1_init 1 none, Cond.methodLink RX1 3 objectInit, Cond.classLink RX1 9 RX2, Cond.instantiable RX2 3, Cond.methodLink RX1 13 yX2_init, Cond.instanceMethod yX2_init, Cond.code yX2_init cX2_init 3 none, Cond.methodLink RX2 3 objectInit, Cond.methodLink RX2 9 Lib.Math.max.name, Cond.static Lib.Math.max.name, Cond.code Lib.Math.max.name Lib.Math.max.code 2 (some .int), Cond.arrayClass .int, Cond.instanceMethod yX3_init, Cond.code yX3_init cX3_init 1 none, Cond.methodLink RX3 3 objectInit, Cond.classLink RX3 9 RX2, Cond.fieldLink RX3 16 "LoanHouse$Holds" "grid" "LLoanHouse$Grid;", Cond.methodLink RX3 13 yX2_init, Cond.methodLink RX6 28 yX4_become, Cond.instanceMethod yX4_become, Cond.selects RX4 yX4_become yX4_become, Cond.code yX4_become cX4_become 2 none, Cond.fieldLink RX4 95 "LoanHouse$House" "trips" "I", Cond.methodLink RX4 137 yX0_become]
def wsX7_giveBack_r5 : List Cond := [Cond.instanceMethod yX0_become, Cond.selects RX0 yX0_become yX0_become, Cond.code yX0_become cX0_become 2 none, Cond.fieldLink RX0 27 "LoanHouse$Calendar" "now" "I", Cond.methodLink RX4 141 yX1_become, Cond.instanceMethod yX1_become, Cond.selects RX1 yX1_become yX1_become, Cond.code yX1_become cX1_become 2 none, Cond.fieldLink RX1 24 "LoanHouse$Copies" "count" "I", Cond.methodLink RX1 78 yX2_become, Cond.instanceMethod yX2_become, Cond.selects RX2 yX2_become yX2_become, Cond.code yX2_become cX2_become 2 none, Cond.methodLink RX2 34 Lib.Math.min.name, Cond.methodLink RX2 28 arraycopyName, Cond.native arraycopyName, Cond.static arraycopyName, Cond.initialized "java/lang/System", Cond.methodLink RX4 144 yX3_become, Cond.instanceMethod yX3_become, Cond.selects RX3 yX3_become yX3_become, Cond.code yX3_become cX3_become 2 none, Cond.fieldLink RX3 24 "LoanHouse$Holds" "count" "I", Cond.fieldLink RX3 32 "LoanHouse$Holds" "nextNumber" "I"]
def wsX7_giveBack_r6 : List Cond := [Cond.methodLink RX3 73 yX2_become, Cond.methodLink RX7 151 yJ9_floorMod_7cf53, Cond.static yJ9_floorMod_7cf53, Cond.initialized RJ9, Cond.code yJ9_floorMod_7cf53 cJ9_floorMod_7cf53 3 (some .int), Cond.methodLink RX7 67 yX4_takeBack, Cond.instanceMethod yX4_takeBack, Cond.selects RX4 yX4_takeBack yX4_takeBack, Cond.code yX4_takeBack cX4_takeBack 4 (some .int), Cond.methodLink RX4 77 Lib.Math.max.name, Cond.methodLink RX4 74 yX1_step, Cond.instanceMethod yX1_step, Cond.selects RX1 yX1_step yX1_step, Cond.code yX1_step cX1_step 4 (some .int), Cond.methodLink RX1 50 Lib.Math.min.name, Cond.methodLink RX1 36 yX1_state, Cond.methodLink RX1 47 yX1_day, Cond.instanceMethod yX1_day, Cond.selects RX1 yX1_day yX1_day, Cond.code yX1_day cX1_day 2 (some .int), Cond.methodLink RX4 63 yX1_write, Cond.instanceMethod yX1_write, Cond.selects RX1 yX1_write yX1_write, Cond.code yX1_write cX1_write 6 none]
def wsX7_giveBack_r7 : List Cond := [Cond.methodLink RX1 28 yX2_put, Cond.instanceMethod yX2_put, Cond.selects RX2 yX2_put yX2_put, Cond.code yX2_put cX2_put 4 none, Cond.methodLink RX4 36 yX4_serve, Cond.instanceMethod yX4_serve, Cond.selects RX4 yX4_serve yX4_serve, Cond.code yX4_serve cX4_serve 5 none, Cond.methodLink RX4 108 yX3_firstOfRow, Cond.instanceMethod yX3_firstOfRow, Cond.selects RX3 yX3_firstOfRow yX3_firstOfRow, Cond.code yX3_firstOfRow cX3_firstOfRow 4 (some .int), Cond.methodLink RX3 56 yX3_isInRow, Cond.instanceMethod yX3_isInRow, Cond.selects RX3 yX3_isInRow yX3_isInRow, Cond.code yX3_isInRow cX3_isInRow 3 (some .boolean), Cond.methodLink RX3 20 yX2_at, Cond.methodLink RX3 59 yX3_need, Cond.instanceMethod yX3_need, Cond.selects RX3 yX3_need yX3_need, Cond.code yX3_need cX3_need 2 (some .int), Cond.methodLink RX4 111 yX3_branch, Cond.instanceMethod yX3_branch, Cond.selects RX3 yX3_branch yX3_branch]
def wsX7_giveBack_r8 : List Cond := [Cond.code yX3_branch cX3_branch 2 (some .int), Cond.methodLink RX4 112 yX1_nearestIn, Cond.instanceMethod yX1_nearestIn, Cond.selects RX1 yX1_nearestIn yX1_nearestIn, Cond.code yX1_nearestIn cX1_nearestIn 6 (some .int), Cond.methodLink RX1 40 yX1_title, Cond.instanceMethod yX1_title, Cond.selects RX1 yX1_title yX1_title, Cond.code yX1_title cX1_title 2 (some .int), Cond.methodLink RX1 61 yX1_branch, Cond.instanceMethod yX1_branch, Cond.selects RX1 yX1_branch yX1_branch, Cond.code yX1_branch cX1_branch 2 (some .int), Cond.static yX7_way, Cond.code yX7_way cX7_way 3 (some .int), Cond.methodLink RX7 264 Lib.Math.abs.name, Cond.static Lib.Math.abs.name, Cond.code Lib.Math.abs.name Lib.Math.abs.code 1 (some .int), Cond.methodLink RX4 115 yX4_assign, Cond.instanceMethod yX4_assign, Cond.selects RX4 yX4_assign yX4_assign, Cond.code yX4_assign cX4_assign 6 none, Cond.methodLink RX4 60 yX1_branch, Cond.methodLink RX4 118 yX3_number]
def wsX7_giveBack_r9 : List Cond := [Cond.instanceMethod yX3_number, Cond.selects RX3 yX3_number yX3_number, Cond.code yX3_number cX3_number 2 (some .int), Cond.methodLink RX4 82 yX3_putCopy, Cond.instanceMethod yX3_putCopy, Cond.selects RX3 yX3_putCopy yX3_putCopy, Cond.code yX3_putCopy cX3_putCopy 3 none, Cond.methodLink RX3 35 yX2_put, Cond.methodLink RX4 105 yX0_lastOfPatience, Cond.instanceMethod yX0_lastOfPatience, Cond.selects RX0 yX0_lastOfPatience yX0_lastOfPatience, Cond.code yX0_lastOfPatience cX0_lastOfPatience 1 (some .int)]
def wsX7_giveBack : List Cond := .code yX7_giveBack cX7_giveBack 4 (some .int) :: ((wsX7_giveBack_r1 ++ (wsX7_giveBack_r2 ++ (wsX7_giveBack_r3 ++ (wsX7_giveBack_r4 ++ (wsX7_giveBack_r5 ++ (wsX7_giveBack_r6 ++ (wsX7_giveBack_r7 ++ (wsX7_giveBack_r8 ++ wsX7_giveBack_r9)))))))) ++ wsX70 ++ wsX40 ++ wsX10 ++ wsX20 ++ wsX60 ++ wsX00 ++ wsX30)
def wsX7_renew_r1 : List Cond := [Cond.constant RX7 39 (-1000000001), Cond.fieldLink RX7 10 "LoanHouse" "house" "LLoanHouse$House;", Cond.constant RX7 90 (-1000000003), Cond.methodLink RX7 70 yX7_isCopy, Cond.instanceMethod yX7_isCopy, Cond.selects RX7 yX7_isCopy yX7_isCopy, Cond.initialized RX7, Cond.code yX7_isCopy cX7_isCopy 2 (some .boolean), Cond.methodLink RX7 35 yX7_isBelow, Cond.static yX7_isBelow, Cond.code yX7_isBelow cX7_isBelow 2 (some .boolean), Cond.methodLink RX7 74 yX1_state, Cond.instanceMethod yX1_state, Cond.selects RX1 yX1_state yX1_state, Cond.initialized RX1, Cond.code yX1_state cX1_state 2 (some .int), Cond.fieldLink RX1 16 "LoanHouse$Copies" "grid" "LLoanHouse$Grid;", Cond.methodLink RX1 20 yX2_at, Cond.instanceMethod yX2_at, Cond.selects RX2 yX2_at yX2_at, Cond.initialized RX2, Cond.code yX2_at cX2_at 3 (some .int), Cond.fieldLink RX2 15 "LoanHouse$Grid" "rows" "I", Cond.fieldLink RX2 21 "LoanHouse$Grid" "columns" "I"]
def wsX7_renew_r2 : List Cond := [Cond.fieldLink RX2 24 "LoanHouse$Grid" "cells" "[I", Cond.methodLink RX7 82 yX1_title, Cond.instanceMethod yX1_title, Cond.selects RX1 yX1_title yX1_title, Cond.code yX1_title cX1_title 2 (some .int), Cond.methodLink RX7 85 yX3_rowLength, Cond.instanceMethod yX3_rowLength, Cond.selects RX3 yX3_rowLength yX3_rowLength, Cond.initialized RX3, Cond.code yX3_rowLength cX3_rowLength 4 (some .int), Cond.fieldLink RX3 24 "LoanHouse$Holds" "count" "I", Cond.methodLink RX3 56 yX3_isInRow, Cond.instanceMethod yX3_isInRow, Cond.selects RX3 yX3_isInRow yX3_isInRow, Cond.code yX3_isInRow cX3_isInRow 3 (some .boolean), Cond.fieldLink RX3 16 "LoanHouse$Holds" "grid" "LLoanHouse$Grid;", Cond.methodLink RX3 20 yX2_at, Cond.methodLink RX7 51 yX7_remember, Cond.instanceMethod yX7_remember, Cond.selects RX7 yX7_remember yX7_remember, Cond.code yX7_remember cX7_remember 1 none, Cond.fieldLink RX7 21 "LoanHouse" "past" "LLoanHouse$Pictures;", Cond.fieldLink RX7 148 "LoanHouse" "nextPast" "I", Cond.fieldLink RX7 145 "LoanHouse" "undoable" "I"]
def wsX7_renew_r3 : List Cond := [Cond.methodLink RX7 256 Lib.Math.min.name, Cond.static Lib.Math.min.name, Cond.initialized "java/lang/Math", Cond.code Lib.Math.min.name Lib.Math.min.code 2 (some .int), Cond.methodLink RX7 250 yX6_take, Cond.instanceMethod yX6_take, Cond.selects RX6 yX6_take yX6_take, Cond.initialized RX6, Cond.code yX6_take cX6_take 4 none, Cond.fieldLink RX6 15 "LoanHouse$Pictures" "places" "[LLoanHouse$House;", Cond.classLink RX6 13 RX4, Cond.instantiable RX4 4, Cond.initialized RX4, Cond.instanceMethod yX4_init, Cond.code yX4_init cX4_init 1 none, Cond.methodLink RX4 3 objectInit, Cond.instanceMethod objectInit, Cond.code objectInit ⟨#[0xb1]⟩ 1 none, Cond.classLink RX4 9 RX0, Cond.instantiable RX0 4, Cond.initialized RX0, Cond.fieldLink RX4 12 "LoanHouse$House" "calendar" "LLoanHouse$Calendar;", Cond.classLink RX4 18 RX1, Cond.instantiable RX1 2]
def wsX7_renew_r4 : List Cond := [Cond.fieldLink RX4 21 "LoanHouse$House" "copies" "LLoanHouse$Copies;", Cond.classLink RX4 25 RX3, Cond.instantiable RX3 3, Cond.fieldLink RX4 28 "LoanHouse$House" "holds" "LLoanHouse$Holds;", Cond.instanceMethod yX0_init, Cond.code yX0_init cX0_init 1 none, Cond.methodLink RX0 3 objectInit, Cond.fieldLink RX0 9 "LoanHouse$Calendar" "term" "I", Cond.fieldLink RX0 15 "LoanHouse$Calendar" "patience" "I", Cond.fieldLink RX0 18 "LoanHouse$Calendar" "closed" "I", Cond.instanceMethod yX1_init, Cond.code yX1_init cX1_init 1 none, Cond.methodLink RX1 3 objectInit, Cond.classLink RX1 9 RX2, Cond.instantiable RX2 3, Cond.methodLink RX1 13 yX2_init, Cond.instanceMethod yX2_init, Cond.code yX2_init cX2_init 3 none, Cond.methodLink RX2 3 objectInit, Cond.methodLink RX2 9 Lib.Math.max.name, Cond.static Lib.Math.max.name, Cond.code Lib.Math.max.name Lib.Math.max.code 2 (some .int), Cond.arrayClass .int, Cond.instanceMethod yX3_init]
def wsX7_renew_r5 : List Cond := [Cond.code yX3_init cX3_init 1 none, Cond.methodLink RX3 3 objectInit, Cond.classLink RX3 9 RX2, Cond.methodLink RX3 13 yX2_init, Cond.methodLink RX6 28 yX4_become, Cond.instanceMethod yX4_become, Cond.selects RX4 yX4_become yX4_become, Cond.code yX4_become cX4_become 2 none, Cond.fieldLink RX4 95 "LoanHouse$House" "trips" "I", Cond.methodLink RX4 137 yX0_become, Cond.instanceMethod yX0_become, Cond.selects RX0 yX0_become yX0_become, Cond.code yX0_become cX0_become 2 none, Cond.fieldLink RX0 27 "LoanHouse$Calendar" "now" "I", Cond.methodLink RX4 141 yX1_become, Cond.instanceMethod yX1_become, Cond.selects RX1 yX1_become yX1_become, Cond.code yX1_become cX1_become 2 none, Cond.fieldLink RX1 24 "LoanHouse$Copies" "count" "I", Cond.methodLink RX1 78 yX2_become, Cond.instanceMethod yX2_become, Cond.selects RX2 yX2_become yX2_become, Cond.code yX2_become cX2_become 2 none, Cond.methodLink RX2 34 Lib.Math.min.name]
def wsX7_renew_r6 : List Cond := [Cond.methodLink RX2 28 arraycopyName, Cond.native arraycopyName, Cond.static arraycopyName, Cond.initialized "java/lang/System", Cond.methodLink RX4 144 yX3_become, Cond.instanceMethod yX3_become, Cond.selects RX3 yX3_become yX3_become, Cond.code yX3_become cX3_become 2 none, Cond.fieldLink RX3 32 "LoanHouse$Holds" "nextNumber" "I", Cond.methodLink RX3 73 yX2_become, Cond.methodLink RX7 151 yJ9_floorMod_7cf53, Cond.static yJ9_floorMod_7cf53, Cond.initialized RJ9, Cond.code yJ9_floorMod_7cf53 cJ9_floorMod_7cf53 3 (some .int), Cond.methodLink RX7 91 yX4_lendAgain, Cond.instanceMethod yX4_lendAgain, Cond.selects RX4 yX4_lendAgain yX4_lendAgain, Cond.code yX4_lendAgain cX4_lendAgain 2 (some .int), Cond.methodLink RX4 43 yX1_whose, Cond.instanceMethod yX1_whose, Cond.selects RX1 yX1_whose yX1_whose, Cond.code yX1_whose cX1_whose 2 (some .int), Cond.methodLink RX4 67 yX4_lendTo, Cond.instanceMethod yX4_lendTo]
def wsX7_renew_r7 : List Cond := [Cond.selects RX4 yX4_lendTo yX4_lendTo, Cond.code yX4_lendTo cX4_lendTo 4 (some .int), Cond.methodLink RX4 39 yX1_state, Cond.methodLink RX4 46 yX3_slotOf, Cond.instanceMethod yX3_slotOf, Cond.selects RX3 yX3_slotOf yX3_slotOf, Cond.code yX3_slotOf cX3_slotOf 3 (some .int), Cond.methodLink RX3 28 yX3_number, Cond.instanceMethod yX3_number, Cond.selects RX3 yX3_number yX3_number, Cond.code yX3_number cX3_number 2 (some .int), Cond.methodLink RX4 52 yX3_takeOut, Cond.instanceMethod yX3_takeOut, Cond.selects RX3 yX3_takeOut yX3_takeOut, Cond.code yX3_takeOut cX3_takeOut 2 none, Cond.methodLink RX3 43 yX2_takeOut, Cond.instanceMethod yX2_takeOut, Cond.selects RX2 yX2_takeOut yX2_takeOut, Cond.code yX2_takeOut cX2_takeOut 4 none, Cond.methodLink RX4 56 yX0_dueFromNow, Cond.instanceMethod yX0_dueFromNow, Cond.selects RX0 yX0_dueFromNow yX0_dueFromNow, Cond.code yX0_dueFromNow cX0_dueFromNow 3 (some .int), Cond.methodLink RX0 30 yX0_isClosed]
def wsX7_renew_r8 : List Cond := [Cond.instanceMethod yX0_isClosed, Cond.selects RX0 yX0_isClosed yX0_isClosed, Cond.code yX0_isClosed cX0_isClosed 2 (some .boolean), Cond.methodLink RX0 21 yJ9_floorMod_7cf53, Cond.methodLink RX4 60 yX1_branch, Cond.instanceMethod yX1_branch, Cond.selects RX1 yX1_branch yX1_branch, Cond.code yX1_branch cX1_branch 2 (some .int), Cond.methodLink RX4 63 yX1_write, Cond.instanceMethod yX1_write, Cond.selects RX1 yX1_write yX1_write, Cond.code yX1_write cX1_write 6 none, Cond.methodLink RX1 28 yX2_put, Cond.instanceMethod yX2_put, Cond.selects RX2 yX2_put yX2_put, Cond.code yX2_put cX2_put 4 none]
def wsX7_renew : List Cond := .code yX7_renew cX7_renew 2 (some .int) :: ((wsX7_renew_r1 ++ (wsX7_renew_r2 ++ (wsX7_renew_r3 ++ (wsX7_renew_r4 ++ (wsX7_renew_r5 ++ (wsX7_renew_r6 ++ (wsX7_renew_r7 ++ wsX7_renew_r8))))))) ++ wsX70 ++ wsX40 ++ wsX10 ++ wsX20 ++ wsX30 ++ wsX60 ++ wsX00)
def wsX7_lose_r1 : List Cond := [Cond.constant RX7 39 (-1000000001), Cond.fieldLink RX7 10 "LoanHouse" "house" "LLoanHouse$House;", Cond.constant RX7 90 (-1000000003), Cond.methodLink RX7 70 yX7_isCopy, Cond.instanceMethod yX7_isCopy, Cond.selects RX7 yX7_isCopy yX7_isCopy, Cond.initialized RX7, Cond.code yX7_isCopy cX7_isCopy 2 (some .boolean), Cond.methodLink RX7 35 yX7_isBelow, Cond.static yX7_isBelow, Cond.code yX7_isBelow cX7_isBelow 2 (some .boolean), Cond.methodLink RX7 74 yX1_state, Cond.instanceMethod yX1_state, Cond.selects RX1 yX1_state yX1_state, Cond.initialized RX1, Cond.code yX1_state cX1_state 2 (some .int), Cond.fieldLink RX1 16 "LoanHouse$Copies" "grid" "LLoanHouse$Grid;", Cond.methodLink RX1 20 yX2_at, Cond.instanceMethod yX2_at, Cond.selects RX2 yX2_at yX2_at, Cond.initialized RX2, Cond.code yX2_at cX2_at 3 (some .int), Cond.fieldLink RX2 15 "LoanHouse$Grid" "rows" "I", Cond.fieldLink RX2 21 "LoanHouse$Grid" "columns" "I"]
def wsX7_lose_r2 : List Cond := [Cond.fieldLink RX2 24 "LoanHouse$Grid" "cells" "[I", Cond.methodLink RX7 51 yX7_remember, Cond.instanceMethod yX7_remember, Cond.selects RX7 yX7_remember yX7_remember, Cond.code yX7_remember cX7_remember 1 none, Cond.fieldLink RX7 21 "LoanHouse" "past" "LLoanHouse$Pictures;", Cond.fieldLink RX7 148 "LoanHouse" "nextPast" "I", Cond.fieldLink RX7 145 "LoanHouse" "undoable" "I", Cond.methodLink RX7 256 Lib.Math.min.name, Cond.static Lib.Math.min.name, Cond.initialized "java/lang/Math", Cond.code Lib.Math.min.name Lib.Math.min.code 2 (some .int), Cond.methodLink RX7 250 yX6_take, Cond.instanceMethod yX6_take, Cond.selects RX6 yX6_take yX6_take, Cond.initialized RX6, Cond.code yX6_take cX6_take 4 none, Cond.fieldLink RX6 15 "LoanHouse$Pictures" "places" "[LLoanHouse$House;", Cond.classLink RX6 13 RX4, Cond.instantiable RX4 4, Cond.initialized RX4, Cond.instanceMethod yX4_init, Cond.code yX4_init cX4_init 1 none, Cond.methodLink RX4 3 objectInit]
def wsX7_lose_r3 : List Cond := [Cond.instanceMethod objectInit, Cond.code objectInit ⟨#[0xb1]⟩ 1 none, Cond.classLink RX4 9 RX0, Cond.instantiable RX0 4, Cond.initialized RX0, Cond.fieldLink RX4 12 "LoanHouse$House" "calendar" "LLoanHouse$Calendar;", Cond.classLink RX4 18 RX1, Cond.instantiable RX1 2, Cond.fieldLink RX4 21 "LoanHouse$House" "copies" "LLoanHouse$Copies;", Cond.classLink RX4 25 RX3, Cond.instantiable RX3 3, Cond.initialized RX3, Cond.fieldLink RX4 28 "LoanHouse$House" "holds" "LLoanHouse$Holds;", Cond.instanceMethod yX0_init, Cond.code yX0_init cX0_init 1 none, Cond.methodLink RX0 3 objectInit, Cond.fieldLink RX0 9 "LoanHouse$Calendar" "term" "I", Cond.fieldLink RX0 15 "LoanHouse$Calendar" "patience" "I", Cond.fieldLink RX0 18 "LoanHouse$Calendar" "closed" "I", Cond.instanceMethod yX1_init, Cond.code yX1_init cX1_init 1 none, Cond.methodLink RX1 3 objectInit, Cond.classLink RX1 9 RX2, Cond.instantiable RX2 3]
def wsX7_lose_r4 : List Cond := [Cond.methodLink RX1 13 yX2_init, Cond.instanceMethod yX2_init, Cond.code yX2_init cX2_init 3 none, Cond.methodLink RX2 3 objectInit, Cond.methodLink RX2 9 Lib.Math.max.name, Cond.static Lib.Math.max.name, Cond.code Lib.Math.max.name Lib.Math.max.code 2 (some .int), Cond.arrayClass .int, Cond.instanceMethod yX3_init, Cond.code yX3_init cX3_init 1 none, Cond.methodLink RX3 3 objectInit, Cond.classLink RX3 9 RX2, Cond.fieldLink RX3 16 "LoanHouse$Holds" "grid" "LLoanHouse$Grid;", Cond.methodLink RX3 13 yX2_init, Cond.methodLink RX6 28 yX4_become, Cond.instanceMethod yX4_become, Cond.selects RX4 yX4_become yX4_become, Cond.code yX4_become cX4_become 2 none, Cond.fieldLink RX4 95 "LoanHouse$House" "trips" "I", Cond.methodLink RX4 137 yX0_become, Cond.instanceMethod yX0_become, Cond.selects RX0 yX0_become yX0_become, Cond.code yX0_become cX0_become 2 none, Cond.fieldLink RX0 27 "LoanHouse$Calendar" "now" "I"]
def wsX7_lose_r5 : List Cond := [Cond.methodLink RX4 141 yX1_become, Cond.instanceMethod yX1_become, Cond.selects RX1 yX1_become yX1_become, Cond.code yX1_become cX1_become 2 none, Cond.fieldLink RX1 24 "LoanHouse$Copies" "count" "I", Cond.methodLink RX1 78 yX2_become, Cond.instanceMethod yX2_become, Cond.selects RX2 yX2_become yX2_become, Cond.code yX2_become cX2_become 2 none, Cond.methodLink RX2 34 Lib.Math.min.name, Cond.methodLink RX2 28 arraycopyName, Cond.native arraycopyName, Cond.static arraycopyName, Cond.initialized "java/lang/System", Cond.methodLink RX4 144 yX3_become, Cond.instanceMethod yX3_become, Cond.selects RX3 yX3_become yX3_become, Cond.code yX3_become cX3_become 2 none, Cond.fieldLink RX3 24 "LoanHouse$Holds" "count" "I", Cond.fieldLink RX3 32 "LoanHouse$Holds" "nextNumber" "I", Cond.methodLink RX3 73 yX2_become, Cond.methodLink RX7 151 yJ9_floorMod_7cf53, Cond.static yJ9_floorMod_7cf53, Cond.initialized RJ9]
def wsX7_lose_r6 : List Cond := [Cond.code yJ9_floorMod_7cf53 cJ9_floorMod_7cf53 3 (some .int), Cond.methodLink RX7 94 yX4_loseCopy, Cond.instanceMethod yX4_loseCopy, Cond.selects RX4 yX4_loseCopy yX4_loseCopy, Cond.code yX4_loseCopy cX4_loseCopy 3 (some .int), Cond.methodLink RX4 39 yX1_state, Cond.methodLink RX4 43 yX1_whose, Cond.instanceMethod yX1_whose, Cond.selects RX1 yX1_whose yX1_whose, Cond.code yX1_whose cX1_whose 2 (some .int), Cond.methodLink RX4 46 yX3_slotOf, Cond.instanceMethod yX3_slotOf, Cond.selects RX3 yX3_slotOf yX3_slotOf, Cond.code yX3_slotOf cX3_slotOf 3 (some .int), Cond.methodLink RX3 28 yX3_number, Cond.instanceMethod yX3_number, Cond.selects RX3 yX3_number yX3_number, Cond.code yX3_number cX3_number 2 (some .int), Cond.methodLink RX3 20 yX2_at, Cond.methodLink RX4 82 yX3_putCopy, Cond.instanceMethod yX3_putCopy, Cond.selects RX3 yX3_putCopy yX3_putCopy, Cond.code yX3_putCopy cX3_putCopy 3 none, Cond.methodLink RX3 35 yX2_put]
def wsX7_lose_r7 : List Cond := [Cond.instanceMethod yX2_put, Cond.selects RX2 yX2_put yX2_put, Cond.code yX2_put cX2_put 4 none, Cond.methodLink RX4 60 yX1_branch, Cond.instanceMethod yX1_branch, Cond.selects RX1 yX1_branch yX1_branch, Cond.code yX1_branch cX1_branch 2 (some .int), Cond.methodLink RX4 63 yX1_write, Cond.instanceMethod yX1_write, Cond.selects RX1 yX1_write yX1_write, Cond.code yX1_write cX1_write 6 none, Cond.methodLink RX1 28 yX2_put, Cond.methodLink RX4 36 yX4_serve, Cond.instanceMethod yX4_serve, Cond.selects RX4 yX4_serve yX4_serve, Cond.code yX4_serve cX4_serve 5 none, Cond.methodLink RX4 108 yX3_firstOfRow, Cond.instanceMethod yX3_firstOfRow, Cond.selects RX3 yX3_firstOfRow yX3_firstOfRow, Cond.code yX3_firstOfRow cX3_firstOfRow 4 (some .int), Cond.methodLink RX3 56 yX3_isInRow, Cond.instanceMethod yX3_isInRow, Cond.selects RX3 yX3_isInRow yX3_isInRow, Cond.code yX3_isInRow cX3_isInRow 3 (some .boolean)]
def wsX7_lose_r8 : List Cond := [Cond.methodLink RX3 59 yX3_need, Cond.instanceMethod yX3_need, Cond.selects RX3 yX3_need yX3_need, Cond.code yX3_need cX3_need 2 (some .int), Cond.methodLink RX4 111 yX3_branch, Cond.instanceMethod yX3_branch, Cond.selects RX3 yX3_branch yX3_branch, Cond.code yX3_branch cX3_branch 2 (some .int), Cond.methodLink RX4 112 yX1_nearestIn, Cond.instanceMethod yX1_nearestIn, Cond.selects RX1 yX1_nearestIn yX1_nearestIn, Cond.code yX1_nearestIn cX1_nearestIn 6 (some .int), Cond.methodLink RX1 40 yX1_title, Cond.instanceMethod yX1_title, Cond.selects RX1 yX1_title yX1_title, Cond.code yX1_title cX1_title 2 (some .int), Cond.methodLink RX1 36 yX1_state, Cond.methodLink RX1 61 yX1_branch, Cond.static yX7_way, Cond.code yX7_way cX7_way 3 (some .int), Cond.methodLink RX7 264 Lib.Math.abs.name, Cond.static Lib.Math.abs.name, Cond.code Lib.Math.abs.name Lib.Math.abs.code 1 (some .int), Cond.methodLink RX4 115 yX4_assign]
def wsX7_lose_r9 : List Cond := [Cond.instanceMethod yX4_assign, Cond.selects RX4 yX4_assign yX4_assign, Cond.code yX4_assign cX4_assign 6 none, Cond.methodLink RX4 118 yX3_number, Cond.methodLink RX4 105 yX0_lastOfPatience, Cond.instanceMethod yX0_lastOfPatience, Cond.selects RX0 yX0_lastOfPatience yX0_lastOfPatience, Cond.code yX0_lastOfPatience cX0_lastOfPatience 1 (some .int)]
def wsX7_lose : List Cond := .code yX7_lose cX7_lose 2 (some .int) :: ((wsX7_lose_r1 ++ (wsX7_lose_r2 ++ (wsX7_lose_r3 ++ (wsX7_lose_r4 ++ (wsX7_lose_r5 ++ (wsX7_lose_r6 ++ (wsX7_lose_r7 ++ (wsX7_lose_r8 ++ wsX7_lose_r9)))))))) ++ wsX70 ++ wsX40 ++ wsX10 ++ wsX20 ++ wsX60 ++ wsX00 ++ wsX30)
def wsX7_refusalToHold_r1 : List Cond := [Cond.constant RX7 39 (-1000000001), Cond.constant RX7 110 (-1000000002), Cond.fieldLink RX7 10 "LoanHouse" "house" "LLoanHouse$House;", Cond.constant RX7 90 (-1000000003), Cond.constant RX7 50 (-1000000004), Cond.methodLink RX7 35 yX7_isBelow, Cond.static yX7_isBelow, Cond.initialized RX7, Cond.code yX7_isBelow cX7_isBelow 2 (some .boolean), Cond.methodLink RX7 238 yX1_outTo, Cond.instanceMethod yX1_outTo, Cond.selects RX1 yX1_outTo yX1_outTo, Cond.initialized RX1, Cond.code yX1_outTo cX1_outTo 4 (some .int), Cond.fieldLink RX1 24 "LoanHouse$Copies" "count" "I", Cond.methodLink RX1 43 yX1_isOutTo, Cond.instanceMethod yX1_isOutTo, Cond.selects RX1 yX1_isOutTo yX1_isOutTo, Cond.code yX1_isOutTo cX1_isOutTo 3 (some .boolean), Cond.methodLink RX1 36 yX1_state, Cond.instanceMethod yX1_state, Cond.selects RX1 yX1_state yX1_state, Cond.code yX1_state cX1_state 2 (some .int), Cond.fieldLink RX1 16 "LoanHouse$Copies" "grid" "LLoanHouse$Grid;"]
def wsX7_refusalToHold_r2 : List Cond := [Cond.methodLink RX1 20 yX2_at, Cond.instanceMethod yX2_at, Cond.selects RX2 yX2_at yX2_at, Cond.initialized RX2, Cond.code yX2_at cX2_at 3 (some .int), Cond.fieldLink RX2 15 "LoanHouse$Grid" "rows" "I", Cond.fieldLink RX2 21 "LoanHouse$Grid" "columns" "I", Cond.fieldLink RX2 24 "LoanHouse$Grid" "cells" "[I", Cond.methodLink RX1 75 yX1_whose, Cond.instanceMethod yX1_whose, Cond.selects RX1 yX1_whose yX1_whose, Cond.code yX1_whose cX1_whose 2 (some .int), Cond.methodLink RX7 226 yX1_ofTitle, Cond.instanceMethod yX1_ofTitle, Cond.selects RX1 yX1_ofTitle yX1_ofTitle, Cond.code yX1_ofTitle cX1_ofTitle 4 (some .int), Cond.methodLink RX1 40 yX1_title, Cond.instanceMethod yX1_title, Cond.selects RX1 yX1_title yX1_title, Cond.code yX1_title cX1_title 2 (some .int), Cond.methodLink RX7 262 yX3_has, Cond.instanceMethod yX3_has, Cond.selects RX3 yX3_has yX3_has, Cond.initialized RX3]
def wsX7_refusalToHold_r3 : List Cond := [Cond.code yX3_has cX3_has 4 (some .boolean), Cond.fieldLink RX3 24 "LoanHouse$Holds" "count" "I", Cond.methodLink RX3 50 yX3_reader, Cond.instanceMethod yX3_reader, Cond.selects RX3 yX3_reader yX3_reader, Cond.code yX3_reader cX3_reader 2 (some .int), Cond.fieldLink RX3 16 "LoanHouse$Holds" "grid" "LLoanHouse$Grid;", Cond.methodLink RX3 20 yX2_at, Cond.methodLink RX3 53 yX3_title, Cond.instanceMethod yX3_title, Cond.selects RX3 yX3_title yX3_title, Cond.code yX3_title cX3_title 2 (some .int)]
def wsX7_refusalToHold : List Cond := .code yX7_refusalToHold cX7_refusalToHold 6 (some .int) :: ((wsX7_refusalToHold_r1 ++ (wsX7_refusalToHold_r2 ++ wsX7_refusalToHold_r3)) ++ wsX70 ++ wsX40 ++ wsX30 ++ wsX10 ++ wsX20)
def wsX7_hold_r1 : List Cond := [Cond.fieldLink RX7 10 "LoanHouse" "house" "LLoanHouse$House;", Cond.methodLink RX7 97 yX7_refusalToHold, Cond.instanceMethod yX7_refusalToHold, Cond.selects RX7 yX7_refusalToHold yX7_refusalToHold, Cond.initialized RX7, Cond.code yX7_refusalToHold cX7_refusalToHold 6 (some .int), Cond.constant RX7 39 (-1000000001), Cond.constant RX7 110 (-1000000002), Cond.constant RX7 90 (-1000000003), Cond.constant RX7 50 (-1000000004), Cond.methodLink RX7 35 yX7_isBelow, Cond.static yX7_isBelow, Cond.code yX7_isBelow cX7_isBelow 2 (some .boolean), Cond.methodLink RX7 238 yX1_outTo, Cond.instanceMethod yX1_outTo, Cond.selects RX1 yX1_outTo yX1_outTo, Cond.initialized RX1, Cond.code yX1_outTo cX1_outTo 4 (some .int), Cond.fieldLink RX1 24 "LoanHouse$Copies" "count" "I", Cond.methodLink RX1 43 yX1_isOutTo, Cond.instanceMethod yX1_isOutTo, Cond.selects RX1 yX1_isOutTo yX1_isOutTo, Cond.code yX1_isOutTo cX1_isOutTo 3 (some .boolean), Cond.methodLink RX1 36 yX1_state]
def wsX7_hold_r2 : List Cond := [Cond.instanceMethod yX1_state, Cond.selects RX1 yX1_state yX1_state, Cond.code yX1_state cX1_state 2 (some .int), Cond.fieldLink RX1 16 "LoanHouse$Copies" "grid" "LLoanHouse$Grid;", Cond.methodLink RX1 20 yX2_at, Cond.instanceMethod yX2_at, Cond.selects RX2 yX2_at yX2_at, Cond.initialized RX2, Cond.code yX2_at cX2_at 3 (some .int), Cond.fieldLink RX2 15 "LoanHouse$Grid" "rows" "I", Cond.fieldLink RX2 21 "LoanHouse$Grid" "columns" "I", Cond.fieldLink RX2 24 "LoanHouse$Grid" "cells" "[I", Cond.methodLink RX1 75 yX1_whose, Cond.instanceMethod yX1_whose, Cond.selects RX1 yX1_whose yX1_whose, Cond.code yX1_whose cX1_whose 2 (some .int), Cond.methodLink RX7 226 yX1_ofTitle, Cond.instanceMethod yX1_ofTitle, Cond.selects RX1 yX1_ofTitle yX1_ofTitle, Cond.code yX1_ofTitle cX1_ofTitle 4 (some .int), Cond.methodLink RX1 40 yX1_title, Cond.instanceMethod yX1_title, Cond.selects RX1 yX1_title yX1_title, Cond.code yX1_title cX1_title 2 (some .int)]
def wsX7_hold_r3 : List Cond := [Cond.methodLink RX7 262 yX3_has, Cond.instanceMethod yX3_has, Cond.selects RX3 yX3_has yX3_has, Cond.initialized RX3, Cond.code yX3_has cX3_has 4 (some .boolean), Cond.fieldLink RX3 24 "LoanHouse$Holds" "count" "I", Cond.methodLink RX3 50 yX3_reader, Cond.instanceMethod yX3_reader, Cond.selects RX3 yX3_reader yX3_reader, Cond.code yX3_reader cX3_reader 2 (some .int), Cond.fieldLink RX3 16 "LoanHouse$Holds" "grid" "LLoanHouse$Grid;", Cond.methodLink RX3 20 yX2_at, Cond.methodLink RX3 53 yX3_title, Cond.instanceMethod yX3_title, Cond.selects RX3 yX3_title yX3_title, Cond.code yX3_title cX3_title 2 (some .int), Cond.methodLink RX7 51 yX7_remember, Cond.instanceMethod yX7_remember, Cond.selects RX7 yX7_remember yX7_remember, Cond.code yX7_remember cX7_remember 1 none, Cond.fieldLink RX7 21 "LoanHouse" "past" "LLoanHouse$Pictures;", Cond.fieldLink RX7 148 "LoanHouse" "nextPast" "I", Cond.fieldLink RX7 145 "LoanHouse" "undoable" "I", Cond.methodLink RX7 256 Lib.Math.min.name]
def wsX7_hold_r4 : List Cond := [Cond.static Lib.Math.min.name, Cond.initialized "java/lang/Math", Cond.code Lib.Math.min.name Lib.Math.min.code 2 (some .int), Cond.methodLink RX7 250 yX6_take, Cond.instanceMethod yX6_take, Cond.selects RX6 yX6_take yX6_take, Cond.initialized RX6, Cond.code yX6_take cX6_take 4 none, Cond.fieldLink RX6 15 "LoanHouse$Pictures" "places" "[LLoanHouse$House;", Cond.classLink RX6 13 RX4, Cond.instantiable RX4 4, Cond.initialized RX4, Cond.instanceMethod yX4_init, Cond.code yX4_init cX4_init 1 none, Cond.methodLink RX4 3 objectInit, Cond.instanceMethod objectInit, Cond.code objectInit ⟨#[0xb1]⟩ 1 none, Cond.classLink RX4 9 RX0, Cond.instantiable RX0 4, Cond.initialized RX0, Cond.fieldLink RX4 12 "LoanHouse$House" "calendar" "LLoanHouse$Calendar;", Cond.classLink RX4 18 RX1, Cond.instantiable RX1 2, Cond.fieldLink RX4 21 "LoanHouse$House" "copies" "LLoanHouse$Copies;"]
def wsX7_hold_r5 : List Cond := [Cond.classLink RX4 25 RX3, Cond.instantiable RX3 3, Cond.fieldLink RX4 28 "LoanHouse$House" "holds" "LLoanHouse$Holds;", Cond.instanceMethod yX0_init, Cond.code yX0_init cX0_init 1 none, Cond.methodLink RX0 3 objectInit, Cond.fieldLink RX0 9 "LoanHouse$Calendar" "term" "I", Cond.fieldLink RX0 15 "LoanHouse$Calendar" "patience" "I", Cond.fieldLink RX0 18 "LoanHouse$Calendar" "closed" "I", Cond.instanceMethod yX1_init, Cond.code yX1_init cX1_init 1 none, Cond.methodLink RX1 3 objectInit, Cond.classLink RX1 9 RX2, Cond.instantiable RX2 3, Cond.methodLink RX1 13 yX2_init, Cond.instanceMethod yX2_init, Cond.code yX2_init cX2_init 3 none, Cond.methodLink RX2 3 objectInit, Cond.methodLink RX2 9 Lib.Math.max.name, Cond.static Lib.Math.max.name, Cond.code Lib.Math.max.name Lib.Math.max.code 2 (some .int), Cond.arrayClass .int, Cond.instanceMethod yX3_init, Cond.code yX3_init cX3_init 1 none]
def wsX7_hold_r6 : List Cond := [Cond.methodLink RX3 3 objectInit, Cond.classLink RX3 9 RX2, Cond.methodLink RX3 13 yX2_init, Cond.methodLink RX6 28 yX4_become, Cond.instanceMethod yX4_become, Cond.selects RX4 yX4_become yX4_become, Cond.code yX4_become cX4_become 2 none, Cond.fieldLink RX4 95 "LoanHouse$House" "trips" "I", Cond.methodLink RX4 137 yX0_become, Cond.instanceMethod yX0_become, Cond.selects RX0 yX0_become yX0_become, Cond.code yX0_become cX0_become 2 none, Cond.fieldLink RX0 27 "LoanHouse$Calendar" "now" "I", Cond.methodLink RX4 141 yX1_become, Cond.instanceMethod yX1_become, Cond.selects RX1 yX1_become yX1_become, Cond.code yX1_become cX1_become 2 none, Cond.methodLink RX1 78 yX2_become, Cond.instanceMethod yX2_become, Cond.selects RX2 yX2_become yX2_become, Cond.code yX2_become cX2_become 2 none, Cond.methodLink RX2 34 Lib.Math.min.name, Cond.methodLink RX2 28 arraycopyName, Cond.native arraycopyName]
def wsX7_hold_r7 : List Cond := [Cond.static arraycopyName, Cond.initialized "java/lang/System", Cond.methodLink RX4 144 yX3_become, Cond.instanceMethod yX3_become, Cond.selects RX3 yX3_become yX3_become, Cond.code yX3_become cX3_become 2 none, Cond.fieldLink RX3 32 "LoanHouse$Holds" "nextNumber" "I", Cond.methodLink RX3 73 yX2_become, Cond.methodLink RX7 151 yJ9_floorMod_7cf53, Cond.static yJ9_floorMod_7cf53, Cond.initialized RJ9, Cond.code yJ9_floorMod_7cf53 cJ9_floorMod_7cf53 3 (some .int), Cond.methodLink RX7 101 yX4_addHold, Cond.instanceMethod yX4_addHold, Cond.selects RX4 yX4_addHold yX4_addHold, Cond.code yX4_addHold cX4_addHold 6 (some .int), Cond.methodLink RX4 86 yX3_add, Cond.instanceMethod yX3_add, Cond.selects RX3 yX3_add yX3_add, Cond.code yX3_add cX3_add 7 (some .int), Cond.methodLink RX3 35 yX2_put, Cond.instanceMethod yX2_put, Cond.selects RX2 yX2_put yX2_put, Cond.code yX2_put cX2_put 4 none]
def wsX7_hold_r8 : List Cond := [Cond.methodLink RX4 36 yX4_serve, Cond.instanceMethod yX4_serve, Cond.selects RX4 yX4_serve yX4_serve, Cond.code yX4_serve cX4_serve 5 none, Cond.methodLink RX4 108 yX3_firstOfRow, Cond.instanceMethod yX3_firstOfRow, Cond.selects RX3 yX3_firstOfRow yX3_firstOfRow, Cond.code yX3_firstOfRow cX3_firstOfRow 4 (some .int), Cond.methodLink RX3 56 yX3_isInRow, Cond.instanceMethod yX3_isInRow, Cond.selects RX3 yX3_isInRow yX3_isInRow, Cond.code yX3_isInRow cX3_isInRow 3 (some .boolean), Cond.methodLink RX3 59 yX3_need, Cond.instanceMethod yX3_need, Cond.selects RX3 yX3_need yX3_need, Cond.code yX3_need cX3_need 2 (some .int), Cond.methodLink RX4 111 yX3_branch, Cond.instanceMethod yX3_branch, Cond.selects RX3 yX3_branch yX3_branch, Cond.code yX3_branch cX3_branch 2 (some .int), Cond.methodLink RX4 112 yX1_nearestIn, Cond.instanceMethod yX1_nearestIn, Cond.selects RX1 yX1_nearestIn yX1_nearestIn, Cond.code yX1_nearestIn cX1_nearestIn 6 (some .int)]
def wsX7_hold_r9 : List Cond := [Cond.methodLink RX1 61 yX1_branch, Cond.instanceMethod yX1_branch, Cond.selects RX1 yX1_branch yX1_branch, Cond.code yX1_branch cX1_branch 2 (some .int), Cond.static yX7_way, Cond.code yX7_way cX7_way 3 (some .int), Cond.methodLink RX7 264 Lib.Math.abs.name, Cond.static Lib.Math.abs.name, Cond.code Lib.Math.abs.name Lib.Math.abs.code 1 (some .int), Cond.methodLink RX4 115 yX4_assign, Cond.instanceMethod yX4_assign, Cond.selects RX4 yX4_assign yX4_assign, Cond.code yX4_assign cX4_assign 6 none, Cond.methodLink RX4 60 yX1_branch, Cond.methodLink RX4 118 yX3_number, Cond.instanceMethod yX3_number, Cond.selects RX3 yX3_number yX3_number, Cond.code yX3_number cX3_number 2 (some .int), Cond.methodLink RX4 82 yX3_putCopy, Cond.instanceMethod yX3_putCopy, Cond.selects RX3 yX3_putCopy yX3_putCopy, Cond.code yX3_putCopy cX3_putCopy 3 none, Cond.methodLink RX4 105 yX0_lastOfPatience, Cond.instanceMethod yX0_lastOfPatience]
def wsX7_hold_r10 : List Cond := [Cond.selects RX0 yX0_lastOfPatience yX0_lastOfPatience, Cond.code yX0_lastOfPatience cX0_lastOfPatience 1 (some .int), Cond.methodLink RX4 63 yX1_write, Cond.instanceMethod yX1_write, Cond.selects RX1 yX1_write yX1_write, Cond.code yX1_write cX1_write 6 none, Cond.methodLink RX1 28 yX2_put]
def wsX7_hold : List Cond := .code yX7_hold cX7_hold 6 (some .int) :: ((wsX7_hold_r1 ++ (wsX7_hold_r2 ++ (wsX7_hold_r3 ++ (wsX7_hold_r4 ++ (wsX7_hold_r5 ++ (wsX7_hold_r6 ++ (wsX7_hold_r7 ++ (wsX7_hold_r8 ++ (wsX7_hold_r9 ++ wsX7_hold_r10))))))))) ++ wsX70 ++ wsX40 ++ wsX30 ++ wsX10 ++ wsX20 ++ wsX60 ++ wsX00)
def wsX7_giveUp_r1 : List Cond := [Cond.fieldLink RX7 10 "LoanHouse" "house" "LLoanHouse$House;", Cond.constant RX7 39 (-1000000001), Cond.methodLink RX7 104 yX3_slotOf, Cond.instanceMethod yX3_slotOf, Cond.selects RX3 yX3_slotOf yX3_slotOf, Cond.initialized RX3, Cond.code yX3_slotOf cX3_slotOf 3 (some .int), Cond.fieldLink RX3 24 "LoanHouse$Holds" "count" "I", Cond.methodLink RX3 28 yX3_number, Cond.instanceMethod yX3_number, Cond.selects RX3 yX3_number yX3_number, Cond.code yX3_number cX3_number 2 (some .int), Cond.fieldLink RX3 16 "LoanHouse$Holds" "grid" "LLoanHouse$Grid;", Cond.methodLink RX3 20 yX2_at, Cond.instanceMethod yX2_at, Cond.selects RX2 yX2_at yX2_at, Cond.initialized RX2, Cond.code yX2_at cX2_at 3 (some .int), Cond.fieldLink RX2 15 "LoanHouse$Grid" "rows" "I", Cond.fieldLink RX2 21 "LoanHouse$Grid" "columns" "I", Cond.fieldLink RX2 24 "LoanHouse$Grid" "cells" "[I", Cond.methodLink RX7 51 yX7_remember, Cond.instanceMethod yX7_remember, Cond.selects RX7 yX7_remember yX7_remember]
def wsX7_giveUp_r2 : List Cond := [Cond.initialized RX7, Cond.code yX7_remember cX7_remember 1 none, Cond.fieldLink RX7 21 "LoanHouse" "past" "LLoanHouse$Pictures;", Cond.fieldLink RX7 148 "LoanHouse" "nextPast" "I", Cond.fieldLink RX7 145 "LoanHouse" "undoable" "I", Cond.methodLink RX7 256 Lib.Math.min.name, Cond.static Lib.Math.min.name, Cond.initialized "java/lang/Math", Cond.code Lib.Math.min.name Lib.Math.min.code 2 (some .int), Cond.methodLink RX7 250 yX6_take, Cond.instanceMethod yX6_take, Cond.selects RX6 yX6_take yX6_take, Cond.initialized RX6, Cond.code yX6_take cX6_take 4 none, Cond.fieldLink RX6 15 "LoanHouse$Pictures" "places" "[LLoanHouse$House;", Cond.classLink RX6 13 RX4, Cond.instantiable RX4 4, Cond.initialized RX4, Cond.static yX7_isBelow, Cond.code yX7_isBelow cX7_isBelow 2 (some .boolean), Cond.instanceMethod yX4_init, Cond.code yX4_init cX4_init 1 none, Cond.methodLink RX4 3 objectInit, Cond.instanceMethod objectInit]
def wsX7_giveUp_r3 : List Cond := [Cond.code objectInit ⟨#[0xb1]⟩ 1 none, Cond.classLink RX4 9 RX0, Cond.instantiable RX0 4, Cond.initialized RX0, Cond.fieldLink RX4 12 "LoanHouse$House" "calendar" "LLoanHouse$Calendar;", Cond.classLink RX4 18 RX1, Cond.instantiable RX1 2, Cond.initialized RX1, Cond.fieldLink RX4 21 "LoanHouse$House" "copies" "LLoanHouse$Copies;", Cond.classLink RX4 25 RX3, Cond.instantiable RX3 3, Cond.fieldLink RX4 28 "LoanHouse$House" "holds" "LLoanHouse$Holds;", Cond.instanceMethod yX0_init, Cond.code yX0_init cX0_init 1 none, Cond.methodLink RX0 3 objectInit, Cond.fieldLink RX0 9 "LoanHouse$Calendar" "term" "I", Cond.fieldLink RX0 15 "LoanHouse$Calendar" "patience" "I", Cond.fieldLink RX0 18 "LoanHouse$Calendar" "closed" "I", Cond.instanceMethod yX1_init, Cond.code yX1_init cX1_init 1 none, Cond.methodLink RX1 3 objectInit, Cond.classLink RX1 9 RX2, Cond.instantiable RX2 3, Cond.fieldLink RX1 16 "LoanHouse$Copies" "grid" "LLoanHouse$Grid;"]
def wsX7_giveUp_r4 : List Cond := [Cond.methodLink RX1 13 yX2_init, Cond.instanceMethod yX2_init, Cond.code yX2_init cX2_init 3 none, Cond.methodLink RX2 3 objectInit, Cond.methodLink RX2 9 Lib.Math.max.name, Cond.static Lib.Math.max.name, Cond.code Lib.Math.max.name Lib.Math.max.code 2 (some .int), Cond.arrayClass .int, Cond.instanceMethod yX3_init, Cond.code yX3_init cX3_init 1 none, Cond.methodLink RX3 3 objectInit, Cond.classLink RX3 9 RX2, Cond.methodLink RX3 13 yX2_init, Cond.methodLink RX6 28 yX4_become, Cond.instanceMethod yX4_become, Cond.selects RX4 yX4_become yX4_become, Cond.code yX4_become cX4_become 2 none, Cond.fieldLink RX4 95 "LoanHouse$House" "trips" "I", Cond.methodLink RX4 137 yX0_become, Cond.instanceMethod yX0_become, Cond.selects RX0 yX0_become yX0_become, Cond.code yX0_become cX0_become 2 none, Cond.fieldLink RX0 27 "LoanHouse$Calendar" "now" "I", Cond.methodLink RX4 141 yX1_become]
def wsX7_giveUp_r5 : List Cond := [Cond.instanceMethod yX1_become, Cond.selects RX1 yX1_become yX1_become, Cond.code yX1_become cX1_become 2 none, Cond.fieldLink RX1 24 "LoanHouse$Copies" "count" "I", Cond.methodLink RX1 78 yX2_become, Cond.instanceMethod yX2_become, Cond.selects RX2 yX2_become yX2_become, Cond.code yX2_become cX2_become 2 none, Cond.methodLink RX2 34 Lib.Math.min.name, Cond.methodLink RX2 28 arraycopyName, Cond.native arraycopyName, Cond.static arraycopyName, Cond.initialized "java/lang/System", Cond.methodLink RX4 144 yX3_become, Cond.instanceMethod yX3_become, Cond.selects RX3 yX3_become yX3_become, Cond.code yX3_become cX3_become 2 none, Cond.fieldLink RX3 32 "LoanHouse$Holds" "nextNumber" "I", Cond.methodLink RX3 73 yX2_become, Cond.methodLink RX7 151 yJ9_floorMod_7cf53, Cond.static yJ9_floorMod_7cf53, Cond.initialized RJ9, Cond.code yJ9_floorMod_7cf53 cJ9_floorMod_7cf53 3 (some .int), Cond.methodLink RX7 107 yX4_dropHold]
def wsX7_giveUp_r6 : List Cond := [Cond.instanceMethod yX4_dropHold, Cond.selects RX4 yX4_dropHold yX4_dropHold, Cond.code yX4_dropHold cX4_dropHold 3 (some .int), Cond.methodLink RX4 89 yX3_copyFor, Cond.instanceMethod yX3_copyFor, Cond.selects RX3 yX3_copyFor yX3_copyFor, Cond.code yX3_copyFor cX3_copyFor 2 (some .int), Cond.methodLink RX4 52 yX3_takeOut, Cond.instanceMethod yX3_takeOut, Cond.selects RX3 yX3_takeOut yX3_takeOut, Cond.code yX3_takeOut cX3_takeOut 2 none, Cond.methodLink RX3 43 yX2_takeOut, Cond.instanceMethod yX2_takeOut, Cond.selects RX2 yX2_takeOut yX2_takeOut, Cond.code yX2_takeOut cX2_takeOut 4 none, Cond.methodLink RX4 60 yX1_branch, Cond.instanceMethod yX1_branch, Cond.selects RX1 yX1_branch yX1_branch, Cond.code yX1_branch cX1_branch 2 (some .int), Cond.methodLink RX1 20 yX2_at, Cond.methodLink RX4 63 yX1_write, Cond.instanceMethod yX1_write, Cond.selects RX1 yX1_write yX1_write, Cond.code yX1_write cX1_write 6 none]
def wsX7_giveUp_r7 : List Cond := [Cond.methodLink RX1 28 yX2_put, Cond.instanceMethod yX2_put, Cond.selects RX2 yX2_put yX2_put, Cond.code yX2_put cX2_put 4 none, Cond.methodLink RX4 36 yX4_serve, Cond.instanceMethod yX4_serve, Cond.selects RX4 yX4_serve yX4_serve, Cond.code yX4_serve cX4_serve 5 none, Cond.methodLink RX4 108 yX3_firstOfRow, Cond.instanceMethod yX3_firstOfRow, Cond.selects RX3 yX3_firstOfRow yX3_firstOfRow, Cond.code yX3_firstOfRow cX3_firstOfRow 4 (some .int), Cond.methodLink RX3 56 yX3_isInRow, Cond.instanceMethod yX3_isInRow, Cond.selects RX3 yX3_isInRow yX3_isInRow, Cond.code yX3_isInRow cX3_isInRow 3 (some .boolean), Cond.methodLink RX3 59 yX3_need, Cond.instanceMethod yX3_need, Cond.selects RX3 yX3_need yX3_need, Cond.code yX3_need cX3_need 2 (some .int), Cond.methodLink RX4 111 yX3_branch, Cond.instanceMethod yX3_branch, Cond.selects RX3 yX3_branch yX3_branch, Cond.code yX3_branch cX3_branch 2 (some .int)]
def wsX7_giveUp_r8 : List Cond := [Cond.methodLink RX4 112 yX1_nearestIn, Cond.instanceMethod yX1_nearestIn, Cond.selects RX1 yX1_nearestIn yX1_nearestIn, Cond.code yX1_nearestIn cX1_nearestIn 6 (some .int), Cond.methodLink RX1 40 yX1_title, Cond.instanceMethod yX1_title, Cond.selects RX1 yX1_title yX1_title, Cond.code yX1_title cX1_title 2 (some .int), Cond.methodLink RX1 36 yX1_state, Cond.instanceMethod yX1_state, Cond.selects RX1 yX1_state yX1_state, Cond.code yX1_state cX1_state 2 (some .int), Cond.methodLink RX1 61 yX1_branch, Cond.static yX7_way, Cond.code yX7_way cX7_way 3 (some .int), Cond.methodLink RX7 264 Lib.Math.abs.name, Cond.static Lib.Math.abs.name, Cond.code Lib.Math.abs.name Lib.Math.abs.code 1 (some .int), Cond.methodLink RX4 115 yX4_assign, Cond.instanceMethod yX4_assign, Cond.selects RX4 yX4_assign yX4_assign, Cond.code yX4_assign cX4_assign 6 none, Cond.methodLink RX4 118 yX3_number, Cond.methodLink RX4 82 yX3_putCopy]
def wsX7_giveUp_r9 : List Cond := [Cond.instanceMethod yX3_putCopy, Cond.selects RX3 yX3_putCopy yX3_putCopy, Cond.code yX3_putCopy cX3_putCopy 3 none, Cond.methodLink RX3 35 yX2_put, Cond.methodLink RX4 105 yX0_lastOfPatience, Cond.instanceMethod yX0_lastOfPatience, Cond.selects RX0 yX0_lastOfPatience yX0_lastOfPatience, Cond.code yX0_lastOfPatience cX0_lastOfPatience 1 (some .int)]
def wsX7_giveUp : List Cond := .code yX7_giveUp cX7_giveUp 3 (some .int) :: ((wsX7_giveUp_r1 ++ (wsX7_giveUp_r2 ++ (wsX7_giveUp_r3 ++ (wsX7_giveUp_r4 ++ (wsX7_giveUp_r5 ++ (wsX7_giveUp_r6 ++ (wsX7_giveUp_r7 ++ (wsX7_giveUp_r8 ++ wsX7_giveUp_r9)))))))) ++ wsX70 ++ wsX40 ++ wsX30 ++ wsX20 ++ wsX60 ++ wsX00 ++ wsX10)
def wsX7_pass_r1 : List Cond := [Cond.constant RX7 110 (-1000000002), Cond.fieldLink RX7 10 "LoanHouse" "house" "LLoanHouse$House;", Cond.constant RX7 90 (-1000000003), Cond.methodLink RX7 51 yX7_remember, Cond.instanceMethod yX7_remember, Cond.selects RX7 yX7_remember yX7_remember, Cond.initialized RX7, Cond.code yX7_remember cX7_remember 1 none, Cond.fieldLink RX7 21 "LoanHouse" "past" "LLoanHouse$Pictures;", Cond.fieldLink RX7 148 "LoanHouse" "nextPast" "I", Cond.fieldLink RX7 145 "LoanHouse" "undoable" "I", Cond.methodLink RX7 256 Lib.Math.min.name, Cond.static Lib.Math.min.name, Cond.initialized "java/lang/Math", Cond.code Lib.Math.min.name Lib.Math.min.code 2 (some .int), Cond.methodLink RX7 250 yX6_take, Cond.instanceMethod yX6_take, Cond.selects RX6 yX6_take yX6_take, Cond.initialized RX6, Cond.code yX6_take cX6_take 4 none, Cond.fieldLink RX6 15 "LoanHouse$Pictures" "places" "[LLoanHouse$House;", Cond.classLink RX6 13 RX4, Cond.instantiable RX4 4, Cond.initialized RX4]
def wsX7_pass_r2 : List Cond := [Cond.static yX7_isBelow, Cond.code yX7_isBelow cX7_isBelow 2 (some .boolean), Cond.instanceMethod yX4_init, Cond.code yX4_init cX4_init 1 none, Cond.methodLink RX4 3 objectInit, Cond.instanceMethod objectInit, Cond.code objectInit ⟨#[0xb1]⟩ 1 none, Cond.classLink RX4 9 RX0, Cond.instantiable RX0 4, Cond.initialized RX0, Cond.fieldLink RX4 12 "LoanHouse$House" "calendar" "LLoanHouse$Calendar;", Cond.classLink RX4 18 RX1, Cond.instantiable RX1 2, Cond.initialized RX1, Cond.fieldLink RX4 21 "LoanHouse$House" "copies" "LLoanHouse$Copies;", Cond.classLink RX4 25 RX3, Cond.instantiable RX3 3, Cond.initialized RX3, Cond.fieldLink RX4 28 "LoanHouse$House" "holds" "LLoanHouse$Holds;", Cond.instanceMethod yX0_init, Cond.code yX0_init cX0_init 1 none, Cond.methodLink RX0 3 objectInit, Cond.fieldLink RX0 9 "LoanHouse$Calendar" "term" "I", Cond.fieldLink RX0 15 "LoanHouse$Calendar" "patience" "I"]
def wsX7_pass_r3 : List Cond := [Cond.fieldLink RX0 18 "LoanHouse$Calendar" "closed" "I", Cond.instanceMethod yX1_init, Cond.code yX1_init cX1_init 1 none, Cond.methodLink RX1 3 objectInit, Cond.classLink RX1 9 RX2, Cond.instantiable RX2 3, Cond.initialized RX2, Cond.fieldLink RX1 16 "LoanHouse$Copies" "grid" "LLoanHouse$Grid;", Cond.methodLink RX1 13 yX2_init, Cond.instanceMethod yX2_init, Cond.code yX2_init cX2_init 3 none, Cond.methodLink RX2 3 objectInit, Cond.methodLink RX2 9 Lib.Math.max.name, Cond.static Lib.Math.max.name, Cond.code Lib.Math.max.name Lib.Math.max.code 2 (some .int), Cond.fieldLink RX2 15 "LoanHouse$Grid" "rows" "I", Cond.fieldLink RX2 21 "LoanHouse$Grid" "columns" "I", Cond.arrayClass .int, Cond.fieldLink RX2 24 "LoanHouse$Grid" "cells" "[I", Cond.instanceMethod yX3_init, Cond.code yX3_init cX3_init 1 none, Cond.methodLink RX3 3 objectInit, Cond.classLink RX3 9 RX2, Cond.fieldLink RX3 16 "LoanHouse$Holds" "grid" "LLoanHouse$Grid;"]
def wsX7_pass_r4 : List Cond := [Cond.methodLink RX3 13 yX2_init, Cond.methodLink RX6 28 yX4_become, Cond.instanceMethod yX4_become, Cond.selects RX4 yX4_become yX4_become, Cond.code yX4_become cX4_become 2 none, Cond.fieldLink RX4 95 "LoanHouse$House" "trips" "I", Cond.methodLink RX4 137 yX0_become, Cond.instanceMethod yX0_become, Cond.selects RX0 yX0_become yX0_become, Cond.code yX0_become cX0_become 2 none, Cond.fieldLink RX0 27 "LoanHouse$Calendar" "now" "I", Cond.methodLink RX4 141 yX1_become, Cond.instanceMethod yX1_become, Cond.selects RX1 yX1_become yX1_become, Cond.code yX1_become cX1_become 2 none, Cond.fieldLink RX1 24 "LoanHouse$Copies" "count" "I", Cond.methodLink RX1 78 yX2_become, Cond.instanceMethod yX2_become, Cond.selects RX2 yX2_become yX2_become, Cond.code yX2_become cX2_become 2 none, Cond.methodLink RX2 34 Lib.Math.min.name, Cond.methodLink RX2 28 arraycopyName, Cond.native arraycopyName, Cond.static arraycopyName]
def wsX7_pass_r5 : List Cond := [Cond.initialized "java/lang/System", Cond.methodLink RX4 144 yX3_become, Cond.instanceMethod yX3_become, Cond.selects RX3 yX3_become yX3_become, Cond.code yX3_become cX3_become 2 none, Cond.fieldLink RX3 24 "LoanHouse$Holds" "count" "I", Cond.fieldLink RX3 32 "LoanHouse$Holds" "nextNumber" "I", Cond.methodLink RX3 73 yX2_become, Cond.methodLink RX7 151 yJ9_floorMod_7cf53, Cond.static yJ9_floorMod_7cf53, Cond.initialized RJ9, Cond.code yJ9_floorMod_7cf53 cJ9_floorMod_7cf53 3 (some .int), Cond.methodLink RX7 120 yX4_dayPasses, Cond.instanceMethod yX4_dayPasses, Cond.selects RX4 yX4_dayPasses yX4_dayPasses, Cond.code yX4_dayPasses cX4_dayPasses 2 none, Cond.methodLink RX4 99 yX4_seeToday, Cond.instanceMethod yX4_seeToday, Cond.selects RX4 yX4_seeToday yX4_seeToday, Cond.code yX4_seeToday cX4_seeToday 4 none, Cond.methodLink RX4 39 yX1_state, Cond.instanceMethod yX1_state, Cond.selects RX1 yX1_state yX1_state, Cond.code yX1_state cX1_state 2 (some .int)]
def wsX7_pass_r6 : List Cond := [Cond.methodLink RX1 20 yX2_at, Cond.instanceMethod yX2_at, Cond.selects RX2 yX2_at yX2_at, Cond.code yX2_at cX2_at 3 (some .int), Cond.methodLink RX4 102 yX1_day, Cond.instanceMethod yX1_day, Cond.selects RX1 yX1_day yX1_day, Cond.code yX1_day cX1_day 2 (some .int), Cond.methodLink RX4 60 yX1_branch, Cond.instanceMethod yX1_branch, Cond.selects RX1 yX1_branch yX1_branch, Cond.code yX1_branch cX1_branch 2 (some .int), Cond.methodLink RX4 43 yX1_whose, Cond.instanceMethod yX1_whose, Cond.selects RX1 yX1_whose yX1_whose, Cond.code yX1_whose cX1_whose 2 (some .int), Cond.methodLink RX4 105 yX0_lastOfPatience, Cond.instanceMethod yX0_lastOfPatience, Cond.selects RX0 yX0_lastOfPatience yX0_lastOfPatience, Cond.code yX0_lastOfPatience cX0_lastOfPatience 1 (some .int), Cond.methodLink RX4 63 yX1_write, Cond.instanceMethod yX1_write, Cond.selects RX1 yX1_write yX1_write, Cond.code yX1_write cX1_write 6 none]
def wsX7_pass_r7 : List Cond := [Cond.methodLink RX1 28 yX2_put, Cond.instanceMethod yX2_put, Cond.selects RX2 yX2_put yX2_put, Cond.code yX2_put cX2_put 4 none, Cond.methodLink RX4 46 yX3_slotOf, Cond.instanceMethod yX3_slotOf, Cond.selects RX3 yX3_slotOf yX3_slotOf, Cond.code yX3_slotOf cX3_slotOf 3 (some .int), Cond.methodLink RX3 28 yX3_number, Cond.instanceMethod yX3_number, Cond.selects RX3 yX3_number yX3_number, Cond.code yX3_number cX3_number 2 (some .int), Cond.methodLink RX3 20 yX2_at, Cond.methodLink RX4 52 yX3_takeOut, Cond.instanceMethod yX3_takeOut, Cond.selects RX3 yX3_takeOut yX3_takeOut, Cond.code yX3_takeOut cX3_takeOut 2 none, Cond.methodLink RX3 43 yX2_takeOut, Cond.instanceMethod yX2_takeOut, Cond.selects RX2 yX2_takeOut yX2_takeOut, Cond.code yX2_takeOut cX2_takeOut 4 none, Cond.methodLink RX4 36 yX4_serve, Cond.instanceMethod yX4_serve, Cond.selects RX4 yX4_serve yX4_serve]
def wsX7_pass_r8 : List Cond := [Cond.code yX4_serve cX4_serve 5 none, Cond.methodLink RX4 108 yX3_firstOfRow, Cond.instanceMethod yX3_firstOfRow, Cond.selects RX3 yX3_firstOfRow yX3_firstOfRow, Cond.code yX3_firstOfRow cX3_firstOfRow 4 (some .int), Cond.methodLink RX3 56 yX3_isInRow, Cond.instanceMethod yX3_isInRow, Cond.selects RX3 yX3_isInRow yX3_isInRow, Cond.code yX3_isInRow cX3_isInRow 3 (some .boolean), Cond.methodLink RX3 59 yX3_need, Cond.instanceMethod yX3_need, Cond.selects RX3 yX3_need yX3_need, Cond.code yX3_need cX3_need 2 (some .int), Cond.methodLink RX4 111 yX3_branch, Cond.instanceMethod yX3_branch, Cond.selects RX3 yX3_branch yX3_branch, Cond.code yX3_branch cX3_branch 2 (some .int), Cond.methodLink RX4 112 yX1_nearestIn, Cond.instanceMethod yX1_nearestIn, Cond.selects RX1 yX1_nearestIn yX1_nearestIn, Cond.code yX1_nearestIn cX1_nearestIn 6 (some .int), Cond.methodLink RX1 40 yX1_title, Cond.instanceMethod yX1_title, Cond.selects RX1 yX1_title yX1_title]
def wsX7_pass_r9 : List Cond := [Cond.code yX1_title cX1_title 2 (some .int), Cond.methodLink RX1 36 yX1_state, Cond.methodLink RX1 61 yX1_branch, Cond.static yX7_way, Cond.code yX7_way cX7_way 3 (some .int), Cond.methodLink RX7 264 Lib.Math.abs.name, Cond.static Lib.Math.abs.name, Cond.code Lib.Math.abs.name Lib.Math.abs.code 1 (some .int), Cond.methodLink RX4 115 yX4_assign, Cond.instanceMethod yX4_assign, Cond.selects RX4 yX4_assign yX4_assign, Cond.code yX4_assign cX4_assign 6 none, Cond.methodLink RX4 118 yX3_number, Cond.methodLink RX4 82 yX3_putCopy, Cond.instanceMethod yX3_putCopy, Cond.selects RX3 yX3_putCopy yX3_putCopy, Cond.code yX3_putCopy cX3_putCopy 3 none, Cond.methodLink RX3 35 yX2_put]
def wsX7_pass : List Cond := .code yX7_pass cX7_pass 3 (some .int) :: ((wsX7_pass_r1 ++ (wsX7_pass_r2 ++ (wsX7_pass_r3 ++ (wsX7_pass_r4 ++ (wsX7_pass_r5 ++ (wsX7_pass_r6 ++ (wsX7_pass_r7 ++ (wsX7_pass_r8 ++ wsX7_pass_r9)))))))) ++ wsX70 ++ wsX40 ++ wsX00 ++ wsX60 ++ wsX10 ++ wsX30 ++ wsX20)
def wsX7_set_r1 : List Cond := [Cond.constant RX7 110 (-1000000002), Cond.fieldLink RX7 10 "LoanHouse" "house" "LLoanHouse$House;", Cond.methodLink RX7 123 yX0_allows, Cond.static yX0_allows, Cond.initialized RX0, Cond.code yX0_allows cX0_allows 2 (some .boolean), Cond.methodLink RX7 51 yX7_remember, Cond.instanceMethod yX7_remember, Cond.selects RX7 yX7_remember yX7_remember, Cond.initialized RX7, Cond.code yX7_remember cX7_remember 1 none, Cond.fieldLink RX7 21 "LoanHouse" "past" "LLoanHouse$Pictures;", Cond.fieldLink RX7 148 "LoanHouse" "nextPast" "I", Cond.fieldLink RX7 145 "LoanHouse" "undoable" "I", Cond.methodLink RX7 256 Lib.Math.min.name, Cond.static Lib.Math.min.name, Cond.initialized "java/lang/Math", Cond.code Lib.Math.min.name Lib.Math.min.code 2 (some .int), Cond.methodLink RX7 250 yX6_take, Cond.instanceMethod yX6_take, Cond.selects RX6 yX6_take yX6_take, Cond.initialized RX6, Cond.code yX6_take cX6_take 4 none, Cond.fieldLink RX6 15 "LoanHouse$Pictures" "places" "[LLoanHouse$House;"]
def wsX7_set_r2 : List Cond := [Cond.classLink RX6 13 RX4, Cond.instantiable RX4 4, Cond.initialized RX4, Cond.static yX7_isBelow, Cond.code yX7_isBelow cX7_isBelow 2 (some .boolean), Cond.instanceMethod yX4_init, Cond.code yX4_init cX4_init 1 none, Cond.methodLink RX4 3 objectInit, Cond.instanceMethod objectInit, Cond.code objectInit ⟨#[0xb1]⟩ 1 none, Cond.classLink RX4 9 RX0, Cond.instantiable RX0 4, Cond.fieldLink RX4 12 "LoanHouse$House" "calendar" "LLoanHouse$Calendar;", Cond.classLink RX4 18 RX1, Cond.instantiable RX1 2, Cond.initialized RX1, Cond.fieldLink RX4 21 "LoanHouse$House" "copies" "LLoanHouse$Copies;", Cond.classLink RX4 25 RX3, Cond.instantiable RX3 3, Cond.initialized RX3, Cond.fieldLink RX4 28 "LoanHouse$House" "holds" "LLoanHouse$Holds;", Cond.instanceMethod yX0_init, Cond.code yX0_init cX0_init 1 none, Cond.methodLink RX0 3 objectInit]
def wsX7_set_r3 : List Cond := [Cond.fieldLink RX0 9 "LoanHouse$Calendar" "term" "I", Cond.fieldLink RX0 15 "LoanHouse$Calendar" "patience" "I", Cond.fieldLink RX0 18 "LoanHouse$Calendar" "closed" "I", Cond.instanceMethod yX1_init, Cond.code yX1_init cX1_init 1 none, Cond.methodLink RX1 3 objectInit, Cond.classLink RX1 9 RX2, Cond.instantiable RX2 3, Cond.initialized RX2, Cond.fieldLink RX1 16 "LoanHouse$Copies" "grid" "LLoanHouse$Grid;", Cond.methodLink RX1 13 yX2_init, Cond.instanceMethod yX2_init, Cond.code yX2_init cX2_init 3 none, Cond.methodLink RX2 3 objectInit, Cond.methodLink RX2 9 Lib.Math.max.name, Cond.static Lib.Math.max.name, Cond.code Lib.Math.max.name Lib.Math.max.code 2 (some .int), Cond.fieldLink RX2 15 "LoanHouse$Grid" "rows" "I", Cond.fieldLink RX2 21 "LoanHouse$Grid" "columns" "I", Cond.arrayClass .int, Cond.fieldLink RX2 24 "LoanHouse$Grid" "cells" "[I", Cond.instanceMethod yX3_init, Cond.code yX3_init cX3_init 1 none, Cond.methodLink RX3 3 objectInit]
def wsX7_set_r4 : List Cond := [Cond.classLink RX3 9 RX2, Cond.fieldLink RX3 16 "LoanHouse$Holds" "grid" "LLoanHouse$Grid;", Cond.methodLink RX3 13 yX2_init, Cond.methodLink RX6 28 yX4_become, Cond.instanceMethod yX4_become, Cond.selects RX4 yX4_become yX4_become, Cond.code yX4_become cX4_become 2 none, Cond.fieldLink RX4 95 "LoanHouse$House" "trips" "I", Cond.methodLink RX4 137 yX0_become, Cond.instanceMethod yX0_become, Cond.selects RX0 yX0_become yX0_become, Cond.code yX0_become cX0_become 2 none, Cond.fieldLink RX0 27 "LoanHouse$Calendar" "now" "I", Cond.methodLink RX4 141 yX1_become, Cond.instanceMethod yX1_become, Cond.selects RX1 yX1_become yX1_become, Cond.code yX1_become cX1_become 2 none, Cond.fieldLink RX1 24 "LoanHouse$Copies" "count" "I", Cond.methodLink RX1 78 yX2_become, Cond.instanceMethod yX2_become, Cond.selects RX2 yX2_become yX2_become, Cond.code yX2_become cX2_become 2 none, Cond.methodLink RX2 34 Lib.Math.min.name, Cond.methodLink RX2 28 arraycopyName]
def wsX7_set_r5 : List Cond := [Cond.native arraycopyName, Cond.static arraycopyName, Cond.initialized "java/lang/System", Cond.methodLink RX4 144 yX3_become, Cond.instanceMethod yX3_become, Cond.selects RX3 yX3_become yX3_become, Cond.code yX3_become cX3_become 2 none, Cond.fieldLink RX3 24 "LoanHouse$Holds" "count" "I", Cond.fieldLink RX3 32 "LoanHouse$Holds" "nextNumber" "I", Cond.methodLink RX3 73 yX2_become, Cond.methodLink RX7 151 yJ9_floorMod_7cf53, Cond.static yJ9_floorMod_7cf53, Cond.initialized RJ9, Cond.code yJ9_floorMod_7cf53 cJ9_floorMod_7cf53 3 (some .int), Cond.methodLink RX7 126 yX0_change, Cond.instanceMethod yX0_change, Cond.selects RX0 yX0_change yX0_change, Cond.code yX0_change cX0_change 4 (some .int)]
def wsX7_set : List Cond := .code yX7_set cX7_set 3 (some .int) :: ((wsX7_set_r1 ++ (wsX7_set_r2 ++ (wsX7_set_r3 ++ (wsX7_set_r4 ++ wsX7_set_r5)))) ++ wsX70 ++ wsX40 ++ wsX60 ++ wsX00 ++ wsX10 ++ wsX30 ++ wsX20)
def wsX7_drawHold_r1 : List Cond := [Cond.fieldLink RX7 31 "LoanHouse" "lots" "LLoanHouse$Lots;", Cond.fieldLink RX7 10 "LoanHouse" "house" "LLoanHouse$House;", Cond.methodLink RX7 133 yX5_below, Cond.instanceMethod yX5_below, Cond.selects RX5 yX5_below yX5_below, Cond.initialized RX5, Cond.code yX5_below cX5_below 2 (some .int), Cond.fieldLink RX5 7 "LoanHouse$Lots" "x" "J", Cond.constantLong RX5 13 (16807), Cond.constantLong RX5 15 (2147483647), Cond.methodLink RX7 97 yX7_refusalToHold, Cond.instanceMethod yX7_refusalToHold, Cond.selects RX7 yX7_refusalToHold yX7_refusalToHold, Cond.initialized RX7, Cond.code yX7_refusalToHold cX7_refusalToHold 6 (some .int), Cond.constant RX7 39 (-1000000001), Cond.constant RX7 110 (-1000000002), Cond.constant RX7 90 (-1000000003), Cond.constant RX7 50 (-1000000004), Cond.methodLink RX7 35 yX7_isBelow, Cond.static yX7_isBelow, Cond.code yX7_isBelow cX7_isBelow 2 (some .boolean), Cond.methodLink RX7 238 yX1_outTo, Cond.instanceMethod yX1_outTo]
def wsX7_drawHold_r2 : List Cond := [Cond.selects RX1 yX1_outTo yX1_outTo, Cond.initialized RX1, Cond.code yX1_outTo cX1_outTo 4 (some .int), Cond.fieldLink RX1 24 "LoanHouse$Copies" "count" "I", Cond.methodLink RX1 43 yX1_isOutTo, Cond.instanceMethod yX1_isOutTo, Cond.selects RX1 yX1_isOutTo yX1_isOutTo, Cond.code yX1_isOutTo cX1_isOutTo 3 (some .boolean), Cond.methodLink RX1 36 yX1_state, Cond.instanceMethod yX1_state, Cond.selects RX1 yX1_state yX1_state, Cond.code yX1_state cX1_state 2 (some .int), Cond.fieldLink RX1 16 "LoanHouse$Copies" "grid" "LLoanHouse$Grid;", Cond.methodLink RX1 20 yX2_at, Cond.instanceMethod yX2_at, Cond.selects RX2 yX2_at yX2_at, Cond.initialized RX2, Cond.code yX2_at cX2_at 3 (some .int), Cond.fieldLink RX2 15 "LoanHouse$Grid" "rows" "I", Cond.fieldLink RX2 21 "LoanHouse$Grid" "columns" "I", Cond.fieldLink RX2 24 "LoanHouse$Grid" "cells" "[I", Cond.methodLink RX1 75 yX1_whose, Cond.instanceMethod yX1_whose, Cond.selects RX1 yX1_whose yX1_whose]
def wsX7_drawHold_r3 : List Cond := [Cond.code yX1_whose cX1_whose 2 (some .int), Cond.methodLink RX7 226 yX1_ofTitle, Cond.instanceMethod yX1_ofTitle, Cond.selects RX1 yX1_ofTitle yX1_ofTitle, Cond.code yX1_ofTitle cX1_ofTitle 4 (some .int), Cond.methodLink RX1 40 yX1_title, Cond.instanceMethod yX1_title, Cond.selects RX1 yX1_title yX1_title, Cond.code yX1_title cX1_title 2 (some .int), Cond.methodLink RX7 262 yX3_has, Cond.instanceMethod yX3_has, Cond.selects RX3 yX3_has yX3_has, Cond.initialized RX3, Cond.code yX3_has cX3_has 4 (some .boolean), Cond.fieldLink RX3 24 "LoanHouse$Holds" "count" "I", Cond.methodLink RX3 50 yX3_reader, Cond.instanceMethod yX3_reader, Cond.selects RX3 yX3_reader yX3_reader, Cond.code yX3_reader cX3_reader 2 (some .int), Cond.fieldLink RX3 16 "LoanHouse$Holds" "grid" "LLoanHouse$Grid;", Cond.methodLink RX3 20 yX2_at, Cond.methodLink RX3 53 yX3_title, Cond.instanceMethod yX3_title, Cond.selects RX3 yX3_title yX3_title]
def wsX7_drawHold_r4 : List Cond := [Cond.code yX3_title cX3_title 2 (some .int), Cond.methodLink RX7 101 yX4_addHold, Cond.instanceMethod yX4_addHold, Cond.selects RX4 yX4_addHold yX4_addHold, Cond.initialized RX4, Cond.code yX4_addHold cX4_addHold 6 (some .int), Cond.fieldLink RX4 28 "LoanHouse$House" "holds" "LLoanHouse$Holds;", Cond.fieldLink RX4 12 "LoanHouse$House" "calendar" "LLoanHouse$Calendar;", Cond.methodLink RX4 86 yX3_add, Cond.instanceMethod yX3_add, Cond.selects RX3 yX3_add yX3_add, Cond.code yX3_add cX3_add 7 (some .int), Cond.fieldLink RX3 32 "LoanHouse$Holds" "nextNumber" "I", Cond.methodLink RX3 35 yX2_put, Cond.instanceMethod yX2_put, Cond.selects RX2 yX2_put yX2_put, Cond.code yX2_put cX2_put 4 none, Cond.methodLink RX4 36 yX4_serve, Cond.instanceMethod yX4_serve, Cond.selects RX4 yX4_serve yX4_serve, Cond.code yX4_serve cX4_serve 5 none, Cond.fieldLink RX4 21 "LoanHouse$House" "copies" "LLoanHouse$Copies;", Cond.methodLink RX4 108 yX3_firstOfRow, Cond.instanceMethod yX3_firstOfRow]
def wsX7_drawHold_r5 : List Cond := [Cond.selects RX3 yX3_firstOfRow yX3_firstOfRow, Cond.code yX3_firstOfRow cX3_firstOfRow 4 (some .int), Cond.methodLink RX3 56 yX3_isInRow, Cond.instanceMethod yX3_isInRow, Cond.selects RX3 yX3_isInRow yX3_isInRow, Cond.code yX3_isInRow cX3_isInRow 3 (some .boolean), Cond.methodLink RX3 59 yX3_need, Cond.instanceMethod yX3_need, Cond.selects RX3 yX3_need yX3_need, Cond.code yX3_need cX3_need 2 (some .int), Cond.methodLink RX4 111 yX3_branch, Cond.instanceMethod yX3_branch, Cond.selects RX3 yX3_branch yX3_branch, Cond.code yX3_branch cX3_branch 2 (some .int), Cond.methodLink RX4 112 yX1_nearestIn, Cond.instanceMethod yX1_nearestIn, Cond.selects RX1 yX1_nearestIn yX1_nearestIn, Cond.code yX1_nearestIn cX1_nearestIn 6 (some .int), Cond.methodLink RX1 61 yX1_branch, Cond.instanceMethod yX1_branch, Cond.selects RX1 yX1_branch yX1_branch, Cond.code yX1_branch cX1_branch 2 (some .int), Cond.static yX7_way, Cond.code yX7_way cX7_way 3 (some .int)]
def wsX7_drawHold_r6 : List Cond := [Cond.methodLink RX7 264 Lib.Math.abs.name, Cond.static Lib.Math.abs.name, Cond.initialized "java/lang/Math", Cond.code Lib.Math.abs.name Lib.Math.abs.code 1 (some .int), Cond.methodLink RX7 256 Lib.Math.min.name, Cond.static Lib.Math.min.name, Cond.code Lib.Math.min.name Lib.Math.min.code 2 (some .int), Cond.methodLink RX4 115 yX4_assign, Cond.instanceMethod yX4_assign, Cond.selects RX4 yX4_assign yX4_assign, Cond.code yX4_assign cX4_assign 6 none, Cond.fieldLink RX4 95 "LoanHouse$House" "trips" "I", Cond.methodLink RX4 60 yX1_branch, Cond.methodLink RX4 118 yX3_number, Cond.instanceMethod yX3_number, Cond.selects RX3 yX3_number yX3_number, Cond.code yX3_number cX3_number 2 (some .int), Cond.methodLink RX4 82 yX3_putCopy, Cond.instanceMethod yX3_putCopy, Cond.selects RX3 yX3_putCopy yX3_putCopy, Cond.code yX3_putCopy cX3_putCopy 3 none, Cond.methodLink RX4 105 yX0_lastOfPatience, Cond.instanceMethod yX0_lastOfPatience, Cond.selects RX0 yX0_lastOfPatience yX0_lastOfPatience]
def wsX7_drawHold_r7 : List Cond := [Cond.initialized RX0, Cond.code yX0_lastOfPatience cX0_lastOfPatience 1 (some .int), Cond.fieldLink RX0 27 "LoanHouse$Calendar" "now" "I", Cond.fieldLink RX0 15 "LoanHouse$Calendar" "patience" "I", Cond.methodLink RX4 63 yX1_write, Cond.instanceMethod yX1_write, Cond.selects RX1 yX1_write yX1_write, Cond.code yX1_write cX1_write 6 none, Cond.methodLink RX1 28 yX2_put]
def wsX7_drawHold : List Cond := .code yX7_drawHold cX7_drawHold 5 none :: ((wsX7_drawHold_r1 ++ (wsX7_drawHold_r2 ++ (wsX7_drawHold_r3 ++ (wsX7_drawHold_r4 ++ (wsX7_drawHold_r5 ++ (wsX7_drawHold_r6 ++ wsX7_drawHold_r7)))))) ++ wsX70 ++ wsX50 ++ wsX40 ++ wsX30 ++ wsX10 ++ wsX20 ++ wsX00)
def wsX7_drawLending_r1 : List Cond := [Cond.fieldLink RX7 10 "LoanHouse" "house" "LLoanHouse$House;", Cond.fieldLink RX7 31 "LoanHouse" "lots" "LLoanHouse$Lots;", Cond.methodLink RX7 133 yX5_below, Cond.instanceMethod yX5_below, Cond.selects RX5 yX5_below yX5_below, Cond.initialized RX5, Cond.code yX5_below cX5_below 2 (some .int), Cond.fieldLink RX5 7 "LoanHouse$Lots" "x" "J", Cond.constantLong RX5 13 (16807), Cond.constantLong RX5 15 (2147483647), Cond.methodLink RX7 58 yX7_refusalToLend, Cond.instanceMethod yX7_refusalToLend, Cond.selects RX7 yX7_refusalToLend yX7_refusalToLend, Cond.initialized RX7, Cond.code yX7_refusalToLend cX7_refusalToLend 3 (some .int), Cond.constant RX7 39 (-1000000001), Cond.constant RX7 90 (-1000000003), Cond.methodLink RX7 70 yX7_isCopy, Cond.instanceMethod yX7_isCopy, Cond.selects RX7 yX7_isCopy yX7_isCopy, Cond.code yX7_isCopy cX7_isCopy 2 (some .boolean), Cond.methodLink RX7 35 yX7_isBelow, Cond.static yX7_isBelow, Cond.code yX7_isBelow cX7_isBelow 2 (some .boolean)]
def wsX7_drawLending_r2 : List Cond := [Cond.methodLink RX7 259 yX4_mayTake, Cond.instanceMethod yX4_mayTake, Cond.selects RX4 yX4_mayTake yX4_mayTake, Cond.initialized RX4, Cond.code yX4_mayTake cX4_mayTake 4 (some .boolean), Cond.fieldLink RX4 21 "LoanHouse$House" "copies" "LLoanHouse$Copies;", Cond.fieldLink RX4 28 "LoanHouse$House" "holds" "LLoanHouse$Holds;", Cond.methodLink RX4 39 yX1_state, Cond.instanceMethod yX1_state, Cond.selects RX1 yX1_state yX1_state, Cond.initialized RX1, Cond.code yX1_state cX1_state 2 (some .int), Cond.fieldLink RX1 16 "LoanHouse$Copies" "grid" "LLoanHouse$Grid;", Cond.methodLink RX1 20 yX2_at, Cond.instanceMethod yX2_at, Cond.selects RX2 yX2_at yX2_at, Cond.initialized RX2, Cond.code yX2_at cX2_at 3 (some .int), Cond.fieldLink RX2 15 "LoanHouse$Grid" "rows" "I", Cond.fieldLink RX2 21 "LoanHouse$Grid" "columns" "I", Cond.fieldLink RX2 24 "LoanHouse$Grid" "cells" "[I", Cond.methodLink RX4 43 yX1_whose, Cond.instanceMethod yX1_whose, Cond.selects RX1 yX1_whose yX1_whose]
def wsX7_drawLending_r3 : List Cond := [Cond.code yX1_whose cX1_whose 2 (some .int), Cond.methodLink RX4 46 yX3_slotOf, Cond.instanceMethod yX3_slotOf, Cond.selects RX3 yX3_slotOf yX3_slotOf, Cond.initialized RX3, Cond.code yX3_slotOf cX3_slotOf 3 (some .int), Cond.fieldLink RX3 24 "LoanHouse$Holds" "count" "I", Cond.methodLink RX3 28 yX3_number, Cond.instanceMethod yX3_number, Cond.selects RX3 yX3_number yX3_number, Cond.code yX3_number cX3_number 2 (some .int), Cond.fieldLink RX3 16 "LoanHouse$Holds" "grid" "LLoanHouse$Grid;", Cond.methodLink RX3 20 yX2_at, Cond.methodLink RX4 49 yX3_reader, Cond.instanceMethod yX3_reader, Cond.selects RX3 yX3_reader yX3_reader, Cond.code yX3_reader cX3_reader 2 (some .int), Cond.methodLink RX7 238 yX1_outTo, Cond.instanceMethod yX1_outTo, Cond.selects RX1 yX1_outTo yX1_outTo, Cond.code yX1_outTo cX1_outTo 4 (some .int), Cond.fieldLink RX1 24 "LoanHouse$Copies" "count" "I", Cond.methodLink RX1 43 yX1_isOutTo, Cond.instanceMethod yX1_isOutTo]
def wsX7_drawLending_r4 : List Cond := [Cond.selects RX1 yX1_isOutTo yX1_isOutTo, Cond.code yX1_isOutTo cX1_isOutTo 3 (some .boolean), Cond.methodLink RX1 36 yX1_state, Cond.methodLink RX1 75 yX1_whose, Cond.methodLink RX7 180 yJ6_bitCount_0f7a4, Cond.static yJ6_bitCount_0f7a4, Cond.initialized RJ6, Cond.code yJ6_bitCount_0f7a4 cJ6_bitCount_0f7a4 1 (some .int), Cond.constant RJ6 265 (1431655765), Cond.constant RJ6 266 (858993459), Cond.constant RJ6 267 (252645135), Cond.methodLink RX7 61 yX4_lendTo, Cond.instanceMethod yX4_lendTo, Cond.selects RX4 yX4_lendTo yX4_lendTo, Cond.code yX4_lendTo cX4_lendTo 4 (some .int), Cond.fieldLink RX4 12 "LoanHouse$House" "calendar" "LLoanHouse$Calendar;", Cond.methodLink RX4 52 yX3_takeOut, Cond.instanceMethod yX3_takeOut, Cond.selects RX3 yX3_takeOut yX3_takeOut, Cond.code yX3_takeOut cX3_takeOut 2 none, Cond.methodLink RX3 43 yX2_takeOut, Cond.instanceMethod yX2_takeOut, Cond.selects RX2 yX2_takeOut yX2_takeOut, Cond.code yX2_takeOut cX2_takeOut 4 none]
def wsX7_drawLending_r5 : List Cond := [Cond.methodLink RX2 28 arraycopyName, Cond.native arraycopyName, Cond.static arraycopyName, Cond.initialized "java/lang/System", Cond.methodLink RX4 56 yX0_dueFromNow, Cond.instanceMethod yX0_dueFromNow, Cond.selects RX0 yX0_dueFromNow yX0_dueFromNow, Cond.initialized RX0, Cond.code yX0_dueFromNow cX0_dueFromNow 3 (some .int), Cond.fieldLink RX0 27 "LoanHouse$Calendar" "now" "I", Cond.fieldLink RX0 9 "LoanHouse$Calendar" "term" "I", Cond.methodLink RX0 30 yX0_isClosed, Cond.instanceMethod yX0_isClosed, Cond.selects RX0 yX0_isClosed yX0_isClosed, Cond.code yX0_isClosed cX0_isClosed 2 (some .boolean), Cond.fieldLink RX0 18 "LoanHouse$Calendar" "closed" "I", Cond.methodLink RX0 21 yJ9_floorMod_7cf53, Cond.static yJ9_floorMod_7cf53, Cond.initialized RJ9, Cond.code yJ9_floorMod_7cf53 cJ9_floorMod_7cf53 3 (some .int), Cond.methodLink RX4 60 yX1_branch, Cond.instanceMethod yX1_branch, Cond.selects RX1 yX1_branch yX1_branch, Cond.code yX1_branch cX1_branch 2 (some .int)]
def wsX7_drawLending_r6 : List Cond := [Cond.methodLink RX4 63 yX1_write, Cond.instanceMethod yX1_write, Cond.selects RX1 yX1_write yX1_write, Cond.code yX1_write cX1_write 6 none, Cond.methodLink RX1 28 yX2_put, Cond.instanceMethod yX2_put, Cond.selects RX2 yX2_put yX2_put, Cond.code yX2_put cX2_put 4 none]
def wsX7_drawLending : List Cond := .code yX7_drawLending cX7_drawLending 3 none :: ((wsX7_drawLending_r1 ++ (wsX7_drawLending_r2 ++ (wsX7_drawLending_r3 ++ (wsX7_drawLending_r4 ++ (wsX7_drawLending_r5 ++ wsX7_drawLending_r6))))) ++ wsX70 ++ wsX40 ++ wsX10 ++ wsX50 ++ wsX20 ++ wsX30 ++ wsX00)
def wsX7_drawGivingBack_r1 : List Cond := [Cond.fieldLink RX7 10 "LoanHouse" "house" "LLoanHouse$House;", Cond.fieldLink RX7 31 "LoanHouse" "lots" "LLoanHouse$Lots;", Cond.methodLink RX7 133 yX5_below, Cond.instanceMethod yX5_below, Cond.selects RX5 yX5_below yX5_below, Cond.initialized RX5, Cond.code yX5_below cX5_below 2 (some .int), Cond.fieldLink RX5 7 "LoanHouse$Lots" "x" "J", Cond.constantLong RX5 13 (16807), Cond.constantLong RX5 15 (2147483647), Cond.methodLink RX7 64 yX7_refusalToTakeBack, Cond.instanceMethod yX7_refusalToTakeBack, Cond.selects RX7 yX7_refusalToTakeBack yX7_refusalToTakeBack, Cond.initialized RX7, Cond.code yX7_refusalToTakeBack cX7_refusalToTakeBack 4 (some .int), Cond.constant RX7 39 (-1000000001), Cond.constant RX7 90 (-1000000003), Cond.methodLink RX7 70 yX7_isCopy, Cond.instanceMethod yX7_isCopy, Cond.selects RX7 yX7_isCopy yX7_isCopy, Cond.code yX7_isCopy cX7_isCopy 2 (some .boolean), Cond.methodLink RX7 35 yX7_isBelow, Cond.static yX7_isBelow, Cond.code yX7_isBelow cX7_isBelow 2 (some .boolean)]
def wsX7_drawGivingBack_r2 : List Cond := [Cond.methodLink RX7 74 yX1_state, Cond.instanceMethod yX1_state, Cond.selects RX1 yX1_state yX1_state, Cond.initialized RX1, Cond.code yX1_state cX1_state 2 (some .int), Cond.fieldLink RX1 16 "LoanHouse$Copies" "grid" "LLoanHouse$Grid;", Cond.methodLink RX1 20 yX2_at, Cond.instanceMethod yX2_at, Cond.selects RX2 yX2_at yX2_at, Cond.initialized RX2, Cond.code yX2_at cX2_at 3 (some .int), Cond.fieldLink RX2 15 "LoanHouse$Grid" "rows" "I", Cond.fieldLink RX2 21 "LoanHouse$Grid" "columns" "I", Cond.fieldLink RX2 24 "LoanHouse$Grid" "cells" "[I", Cond.methodLink RX7 67 yX4_takeBack, Cond.instanceMethod yX4_takeBack, Cond.selects RX4 yX4_takeBack yX4_takeBack, Cond.initialized RX4, Cond.code yX4_takeBack cX4_takeBack 4 (some .int), Cond.fieldLink RX4 21 "LoanHouse$House" "copies" "LLoanHouse$Copies;", Cond.fieldLink RX4 12 "LoanHouse$House" "calendar" "LLoanHouse$Calendar;", Cond.methodLink RX4 77 Lib.Math.max.name, Cond.static Lib.Math.max.name, Cond.initialized "java/lang/Math"]
def wsX7_drawGivingBack_r3 : List Cond := [Cond.code Lib.Math.max.name Lib.Math.max.code 2 (some .int), Cond.methodLink RX4 74 yX1_step, Cond.instanceMethod yX1_step, Cond.selects RX1 yX1_step yX1_step, Cond.code yX1_step cX1_step 4 (some .int), Cond.methodLink RX1 50 Lib.Math.min.name, Cond.static Lib.Math.min.name, Cond.code Lib.Math.min.name Lib.Math.min.code 2 (some .int), Cond.methodLink RX1 36 yX1_state, Cond.methodLink RX1 47 yX1_day, Cond.instanceMethod yX1_day, Cond.selects RX1 yX1_day yX1_day, Cond.code yX1_day cX1_day 2 (some .int), Cond.methodLink RX4 63 yX1_write, Cond.instanceMethod yX1_write, Cond.selects RX1 yX1_write yX1_write, Cond.code yX1_write cX1_write 6 none, Cond.methodLink RX1 28 yX2_put, Cond.instanceMethod yX2_put, Cond.selects RX2 yX2_put yX2_put, Cond.code yX2_put cX2_put 4 none, Cond.methodLink RX4 36 yX4_serve, Cond.instanceMethod yX4_serve, Cond.selects RX4 yX4_serve yX4_serve]
def wsX7_drawGivingBack_r4 : List Cond := [Cond.code yX4_serve cX4_serve 5 none, Cond.fieldLink RX4 28 "LoanHouse$House" "holds" "LLoanHouse$Holds;", Cond.methodLink RX4 108 yX3_firstOfRow, Cond.instanceMethod yX3_firstOfRow, Cond.selects RX3 yX3_firstOfRow yX3_firstOfRow, Cond.initialized RX3, Cond.code yX3_firstOfRow cX3_firstOfRow 4 (some .int), Cond.fieldLink RX3 24 "LoanHouse$Holds" "count" "I", Cond.methodLink RX3 56 yX3_isInRow, Cond.instanceMethod yX3_isInRow, Cond.selects RX3 yX3_isInRow yX3_isInRow, Cond.code yX3_isInRow cX3_isInRow 3 (some .boolean), Cond.fieldLink RX3 16 "LoanHouse$Holds" "grid" "LLoanHouse$Grid;", Cond.methodLink RX3 20 yX2_at, Cond.methodLink RX3 59 yX3_need, Cond.instanceMethod yX3_need, Cond.selects RX3 yX3_need yX3_need, Cond.code yX3_need cX3_need 2 (some .int), Cond.methodLink RX4 111 yX3_branch, Cond.instanceMethod yX3_branch, Cond.selects RX3 yX3_branch yX3_branch, Cond.code yX3_branch cX3_branch 2 (some .int), Cond.methodLink RX4 112 yX1_nearestIn, Cond.instanceMethod yX1_nearestIn]
def wsX7_drawGivingBack_r5 : List Cond := [Cond.selects RX1 yX1_nearestIn yX1_nearestIn, Cond.code yX1_nearestIn cX1_nearestIn 6 (some .int), Cond.fieldLink RX1 24 "LoanHouse$Copies" "count" "I", Cond.methodLink RX1 40 yX1_title, Cond.instanceMethod yX1_title, Cond.selects RX1 yX1_title yX1_title, Cond.code yX1_title cX1_title 2 (some .int), Cond.methodLink RX1 61 yX1_branch, Cond.instanceMethod yX1_branch, Cond.selects RX1 yX1_branch yX1_branch, Cond.code yX1_branch cX1_branch 2 (some .int), Cond.static yX7_way, Cond.code yX7_way cX7_way 3 (some .int), Cond.methodLink RX7 264 Lib.Math.abs.name, Cond.static Lib.Math.abs.name, Cond.code Lib.Math.abs.name Lib.Math.abs.code 1 (some .int), Cond.methodLink RX7 256 Lib.Math.min.name, Cond.methodLink RX4 115 yX4_assign, Cond.instanceMethod yX4_assign, Cond.selects RX4 yX4_assign yX4_assign, Cond.code yX4_assign cX4_assign 6 none, Cond.fieldLink RX4 95 "LoanHouse$House" "trips" "I", Cond.methodLink RX4 60 yX1_branch, Cond.methodLink RX4 118 yX3_number]
def wsX7_drawGivingBack_r6 : List Cond := [Cond.instanceMethod yX3_number, Cond.selects RX3 yX3_number yX3_number, Cond.code yX3_number cX3_number 2 (some .int), Cond.methodLink RX4 82 yX3_putCopy, Cond.instanceMethod yX3_putCopy, Cond.selects RX3 yX3_putCopy yX3_putCopy, Cond.code yX3_putCopy cX3_putCopy 3 none, Cond.methodLink RX3 35 yX2_put, Cond.methodLink RX4 105 yX0_lastOfPatience, Cond.instanceMethod yX0_lastOfPatience, Cond.selects RX0 yX0_lastOfPatience yX0_lastOfPatience, Cond.initialized RX0, Cond.code yX0_lastOfPatience cX0_lastOfPatience 1 (some .int), Cond.fieldLink RX0 27 "LoanHouse$Calendar" "now" "I", Cond.fieldLink RX0 15 "LoanHouse$Calendar" "patience" "I"]
def wsX7_drawGivingBack : List Cond := .code yX7_drawGivingBack cX7_drawGivingBack 3 none :: ((wsX7_drawGivingBack_r1 ++ (wsX7_drawGivingBack_r2 ++ (wsX7_drawGivingBack_r3 ++ (wsX7_drawGivingBack_r4 ++ (wsX7_drawGivingBack_r5 ++ wsX7_drawGivingBack_r6))))) ++ wsX70 ++ wsX40 ++ wsX10 ++ wsX50 ++ wsX20 ++ wsX00 ++ wsX30)
def wsX7_drift_r1 : List Cond := [Cond.constant RX7 129 (999999), Cond.constant RX7 110 (-1000000002), Cond.fieldLink RX7 31 "LoanHouse" "lots" "LLoanHouse$Lots;", Cond.fieldLink RX7 10 "LoanHouse" "house" "LLoanHouse$House;", Cond.methodLink RX7 51 yX7_remember, Cond.instanceMethod yX7_remember, Cond.selects RX7 yX7_remember yX7_remember, Cond.initialized RX7, Cond.code yX7_remember cX7_remember 1 none, Cond.fieldLink RX7 21 "LoanHouse" "past" "LLoanHouse$Pictures;", Cond.fieldLink RX7 148 "LoanHouse" "nextPast" "I", Cond.fieldLink RX7 145 "LoanHouse" "undoable" "I", Cond.methodLink RX7 256 Lib.Math.min.name, Cond.static Lib.Math.min.name, Cond.initialized "java/lang/Math", Cond.code Lib.Math.min.name Lib.Math.min.code 2 (some .int), Cond.methodLink RX7 250 yX6_take, Cond.instanceMethod yX6_take, Cond.selects RX6 yX6_take yX6_take, Cond.initialized RX6, Cond.code yX6_take cX6_take 4 none, Cond.fieldLink RX6 15 "LoanHouse$Pictures" "places" "[LLoanHouse$House;", Cond.classLink RX6 13 RX4, Cond.instantiable RX4 4]
def wsX7_drift_r2 : List Cond := [Cond.initialized RX4, Cond.static yX7_isBelow, Cond.code yX7_isBelow cX7_isBelow 2 (some .boolean), Cond.instanceMethod yX4_init, Cond.code yX4_init cX4_init 1 none, Cond.methodLink RX4 3 objectInit, Cond.instanceMethod objectInit, Cond.code objectInit ⟨#[0xb1]⟩ 1 none, Cond.classLink RX4 9 RX0, Cond.instantiable RX0 4, Cond.initialized RX0, Cond.fieldLink RX4 12 "LoanHouse$House" "calendar" "LLoanHouse$Calendar;", Cond.classLink RX4 18 RX1, Cond.instantiable RX1 2, Cond.initialized RX1, Cond.fieldLink RX4 21 "LoanHouse$House" "copies" "LLoanHouse$Copies;", Cond.classLink RX4 25 RX3, Cond.instantiable RX3 3, Cond.initialized RX3, Cond.fieldLink RX4 28 "LoanHouse$House" "holds" "LLoanHouse$Holds;", Cond.instanceMethod yX0_init, Cond.code yX0_init cX0_init 1 none, Cond.methodLink RX0 3 objectInit, Cond.fieldLink RX0 9 "LoanHouse$Calendar" "term" "I"]
def wsX7_drift_r3 : List Cond := [Cond.fieldLink RX0 15 "LoanHouse$Calendar" "patience" "I", Cond.fieldLink RX0 18 "LoanHouse$Calendar" "closed" "I", Cond.instanceMethod yX1_init, Cond.code yX1_init cX1_init 1 none, Cond.methodLink RX1 3 objectInit, Cond.classLink RX1 9 RX2, Cond.instantiable RX2 3, Cond.initialized RX2, Cond.fieldLink RX1 16 "LoanHouse$Copies" "grid" "LLoanHouse$Grid;", Cond.methodLink RX1 13 yX2_init, Cond.instanceMethod yX2_init, Cond.code yX2_init cX2_init 3 none, Cond.methodLink RX2 3 objectInit, Cond.methodLink RX2 9 Lib.Math.max.name, Cond.static Lib.Math.max.name, Cond.code Lib.Math.max.name Lib.Math.max.code 2 (some .int), Cond.fieldLink RX2 15 "LoanHouse$Grid" "rows" "I", Cond.fieldLink RX2 21 "LoanHouse$Grid" "columns" "I", Cond.arrayClass .int, Cond.fieldLink RX2 24 "LoanHouse$Grid" "cells" "[I", Cond.instanceMethod yX3_init, Cond.code yX3_init cX3_init 1 none, Cond.methodLink RX3 3 objectInit, Cond.classLink RX3 9 RX2]
def wsX7_drift_r4 : List Cond := [Cond.fieldLink RX3 16 "LoanHouse$Holds" "grid" "LLoanHouse$Grid;", Cond.methodLink RX3 13 yX2_init, Cond.methodLink RX6 28 yX4_become, Cond.instanceMethod yX4_become, Cond.selects RX4 yX4_become yX4_become, Cond.code yX4_become cX4_become 2 none, Cond.fieldLink RX4 95 "LoanHouse$House" "trips" "I", Cond.methodLink RX4 137 yX0_become, Cond.instanceMethod yX0_become, Cond.selects RX0 yX0_become yX0_become, Cond.code yX0_become cX0_become 2 none, Cond.fieldLink RX0 27 "LoanHouse$Calendar" "now" "I", Cond.methodLink RX4 141 yX1_become, Cond.instanceMethod yX1_become, Cond.selects RX1 yX1_become yX1_become, Cond.code yX1_become cX1_become 2 none, Cond.fieldLink RX1 24 "LoanHouse$Copies" "count" "I", Cond.methodLink RX1 78 yX2_become, Cond.instanceMethod yX2_become, Cond.selects RX2 yX2_become yX2_become, Cond.code yX2_become cX2_become 2 none, Cond.methodLink RX2 34 Lib.Math.min.name, Cond.methodLink RX2 28 arraycopyName, Cond.native arraycopyName]
def wsX7_drift_r5 : List Cond := [Cond.static arraycopyName, Cond.initialized "java/lang/System", Cond.methodLink RX4 144 yX3_become, Cond.instanceMethod yX3_become, Cond.selects RX3 yX3_become yX3_become, Cond.code yX3_become cX3_become 2 none, Cond.fieldLink RX3 24 "LoanHouse$Holds" "count" "I", Cond.fieldLink RX3 32 "LoanHouse$Holds" "nextNumber" "I", Cond.methodLink RX3 73 yX2_become, Cond.methodLink RX7 151 yJ9_floorMod_7cf53, Cond.static yJ9_floorMod_7cf53, Cond.initialized RJ9, Cond.code yJ9_floorMod_7cf53 cJ9_floorMod_7cf53 3 (some .int), Cond.methodLink RX7 130 yX5_begin, Cond.instanceMethod yX5_begin, Cond.selects RX5 yX5_begin yX5_begin, Cond.initialized RX5, Cond.code yX5_begin cX5_begin 2 none, Cond.fieldLink RX5 7 "LoanHouse$Lots" "x" "J", Cond.methodLink RX7 133 yX5_below, Cond.instanceMethod yX5_below, Cond.selects RX5 yX5_below yX5_below, Cond.code yX5_below cX5_below 2 (some .int), Cond.constantLong RX5 13 (16807)]
def wsX7_drift_r6 : List Cond := [Cond.constantLong RX5 15 (2147483647), Cond.methodLink RX7 136 yX7_drawHold, Cond.instanceMethod yX7_drawHold, Cond.selects RX7 yX7_drawHold yX7_drawHold, Cond.code yX7_drawHold cX7_drawHold 5 none, Cond.methodLink RX7 97 yX7_refusalToHold, Cond.instanceMethod yX7_refusalToHold, Cond.selects RX7 yX7_refusalToHold yX7_refusalToHold, Cond.code yX7_refusalToHold cX7_refusalToHold 6 (some .int), Cond.constant RX7 39 (-1000000001), Cond.constant RX7 90 (-1000000003), Cond.constant RX7 50 (-1000000004), Cond.methodLink RX7 35 yX7_isBelow, Cond.methodLink RX7 238 yX1_outTo, Cond.instanceMethod yX1_outTo, Cond.selects RX1 yX1_outTo yX1_outTo, Cond.code yX1_outTo cX1_outTo 4 (some .int), Cond.methodLink RX1 43 yX1_isOutTo, Cond.instanceMethod yX1_isOutTo, Cond.selects RX1 yX1_isOutTo yX1_isOutTo, Cond.code yX1_isOutTo cX1_isOutTo 3 (some .boolean), Cond.methodLink RX1 36 yX1_state, Cond.instanceMethod yX1_state, Cond.selects RX1 yX1_state yX1_state]
def wsX7_drift_r7 : List Cond := [Cond.code yX1_state cX1_state 2 (some .int), Cond.methodLink RX1 20 yX2_at, Cond.instanceMethod yX2_at, Cond.selects RX2 yX2_at yX2_at, Cond.code yX2_at cX2_at 3 (some .int), Cond.methodLink RX1 75 yX1_whose, Cond.instanceMethod yX1_whose, Cond.selects RX1 yX1_whose yX1_whose, Cond.code yX1_whose cX1_whose 2 (some .int), Cond.methodLink RX7 226 yX1_ofTitle, Cond.instanceMethod yX1_ofTitle, Cond.selects RX1 yX1_ofTitle yX1_ofTitle, Cond.code yX1_ofTitle cX1_ofTitle 4 (some .int), Cond.methodLink RX1 40 yX1_title, Cond.instanceMethod yX1_title, Cond.selects RX1 yX1_title yX1_title, Cond.code yX1_title cX1_title 2 (some .int), Cond.methodLink RX7 262 yX3_has, Cond.instanceMethod yX3_has, Cond.selects RX3 yX3_has yX3_has, Cond.code yX3_has cX3_has 4 (some .boolean), Cond.methodLink RX3 50 yX3_reader, Cond.instanceMethod yX3_reader, Cond.selects RX3 yX3_reader yX3_reader]
def wsX7_drift_r8 : List Cond := [Cond.code yX3_reader cX3_reader 2 (some .int), Cond.methodLink RX3 20 yX2_at, Cond.methodLink RX3 53 yX3_title, Cond.instanceMethod yX3_title, Cond.selects RX3 yX3_title yX3_title, Cond.code yX3_title cX3_title 2 (some .int), Cond.methodLink RX7 101 yX4_addHold, Cond.instanceMethod yX4_addHold, Cond.selects RX4 yX4_addHold yX4_addHold, Cond.code yX4_addHold cX4_addHold 6 (some .int), Cond.methodLink RX4 86 yX3_add, Cond.instanceMethod yX3_add, Cond.selects RX3 yX3_add yX3_add, Cond.code yX3_add cX3_add 7 (some .int), Cond.methodLink RX3 35 yX2_put, Cond.instanceMethod yX2_put, Cond.selects RX2 yX2_put yX2_put, Cond.code yX2_put cX2_put 4 none, Cond.methodLink RX4 36 yX4_serve, Cond.instanceMethod yX4_serve, Cond.selects RX4 yX4_serve yX4_serve, Cond.code yX4_serve cX4_serve 5 none, Cond.methodLink RX4 108 yX3_firstOfRow, Cond.instanceMethod yX3_firstOfRow]
def wsX7_drift_r9 : List Cond := [Cond.selects RX3 yX3_firstOfRow yX3_firstOfRow, Cond.code yX3_firstOfRow cX3_firstOfRow 4 (some .int), Cond.methodLink RX3 56 yX3_isInRow, Cond.instanceMethod yX3_isInRow, Cond.selects RX3 yX3_isInRow yX3_isInRow, Cond.code yX3_isInRow cX3_isInRow 3 (some .boolean), Cond.methodLink RX3 59 yX3_need, Cond.instanceMethod yX3_need, Cond.selects RX3 yX3_need yX3_need, Cond.code yX3_need cX3_need 2 (some .int), Cond.methodLink RX4 111 yX3_branch, Cond.instanceMethod yX3_branch, Cond.selects RX3 yX3_branch yX3_branch, Cond.code yX3_branch cX3_branch 2 (some .int), Cond.methodLink RX4 112 yX1_nearestIn, Cond.instanceMethod yX1_nearestIn, Cond.selects RX1 yX1_nearestIn yX1_nearestIn, Cond.code yX1_nearestIn cX1_nearestIn 6 (some .int), Cond.methodLink RX1 61 yX1_branch, Cond.instanceMethod yX1_branch, Cond.selects RX1 yX1_branch yX1_branch, Cond.code yX1_branch cX1_branch 2 (some .int), Cond.static yX7_way, Cond.code yX7_way cX7_way 3 (some .int)]
def wsX7_drift_r10 : List Cond := [Cond.methodLink RX7 264 Lib.Math.abs.name, Cond.static Lib.Math.abs.name, Cond.code Lib.Math.abs.name Lib.Math.abs.code 1 (some .int), Cond.methodLink RX4 115 yX4_assign, Cond.instanceMethod yX4_assign, Cond.selects RX4 yX4_assign yX4_assign, Cond.code yX4_assign cX4_assign 6 none, Cond.methodLink RX4 60 yX1_branch, Cond.methodLink RX4 118 yX3_number, Cond.instanceMethod yX3_number, Cond.selects RX3 yX3_number yX3_number, Cond.code yX3_number cX3_number 2 (some .int), Cond.methodLink RX4 82 yX3_putCopy, Cond.instanceMethod yX3_putCopy, Cond.selects RX3 yX3_putCopy yX3_putCopy, Cond.code yX3_putCopy cX3_putCopy 3 none, Cond.methodLink RX4 105 yX0_lastOfPatience, Cond.instanceMethod yX0_lastOfPatience, Cond.selects RX0 yX0_lastOfPatience yX0_lastOfPatience, Cond.code yX0_lastOfPatience cX0_lastOfPatience 1 (some .int), Cond.methodLink RX4 63 yX1_write, Cond.instanceMethod yX1_write, Cond.selects RX1 yX1_write yX1_write, Cond.code yX1_write cX1_write 6 none]
def wsX7_drift_r11 : List Cond := [Cond.methodLink RX1 28 yX2_put, Cond.methodLink RX7 139 yX7_drawLending, Cond.instanceMethod yX7_drawLending, Cond.selects RX7 yX7_drawLending yX7_drawLending, Cond.code yX7_drawLending cX7_drawLending 3 none, Cond.methodLink RX7 58 yX7_refusalToLend, Cond.instanceMethod yX7_refusalToLend, Cond.selects RX7 yX7_refusalToLend yX7_refusalToLend, Cond.code yX7_refusalToLend cX7_refusalToLend 3 (some .int), Cond.methodLink RX7 70 yX7_isCopy, Cond.instanceMethod yX7_isCopy, Cond.selects RX7 yX7_isCopy yX7_isCopy, Cond.code yX7_isCopy cX7_isCopy 2 (some .boolean), Cond.methodLink RX7 259 yX4_mayTake, Cond.instanceMethod yX4_mayTake, Cond.selects RX4 yX4_mayTake yX4_mayTake, Cond.code yX4_mayTake cX4_mayTake 4 (some .boolean), Cond.methodLink RX4 39 yX1_state, Cond.methodLink RX4 43 yX1_whose, Cond.methodLink RX4 46 yX3_slotOf, Cond.instanceMethod yX3_slotOf, Cond.selects RX3 yX3_slotOf yX3_slotOf, Cond.code yX3_slotOf cX3_slotOf 3 (some .int), Cond.methodLink RX3 28 yX3_number]
def wsX7_drift_r12 : List Cond := [Cond.methodLink RX4 49 yX3_reader, Cond.methodLink RX7 180 yJ6_bitCount_0f7a4, Cond.static yJ6_bitCount_0f7a4, Cond.initialized RJ6, Cond.code yJ6_bitCount_0f7a4 cJ6_bitCount_0f7a4 1 (some .int), Cond.constant RJ6 265 (1431655765), Cond.constant RJ6 266 (858993459), Cond.constant RJ6 267 (252645135), Cond.methodLink RX7 61 yX4_lendTo, Cond.instanceMethod yX4_lendTo, Cond.selects RX4 yX4_lendTo yX4_lendTo, Cond.code yX4_lendTo cX4_lendTo 4 (some .int), Cond.methodLink RX4 52 yX3_takeOut, Cond.instanceMethod yX3_takeOut, Cond.selects RX3 yX3_takeOut yX3_takeOut, Cond.code yX3_takeOut cX3_takeOut 2 none, Cond.methodLink RX3 43 yX2_takeOut, Cond.instanceMethod yX2_takeOut, Cond.selects RX2 yX2_takeOut yX2_takeOut, Cond.code yX2_takeOut cX2_takeOut 4 none, Cond.methodLink RX4 56 yX0_dueFromNow, Cond.instanceMethod yX0_dueFromNow, Cond.selects RX0 yX0_dueFromNow yX0_dueFromNow, Cond.code yX0_dueFromNow cX0_dueFromNow 3 (some .int)]
def wsX7_drift_r13 : List Cond := [Cond.methodLink RX0 30 yX0_isClosed, Cond.instanceMethod yX0_isClosed, Cond.selects RX0 yX0_isClosed yX0_isClosed, Cond.code yX0_isClosed cX0_isClosed 2 (some .boolean), Cond.methodLink RX0 21 yJ9_floorMod_7cf53, Cond.methodLink RX7 142 yX7_drawGivingBack, Cond.instanceMethod yX7_drawGivingBack, Cond.selects RX7 yX7_drawGivingBack yX7_drawGivingBack, Cond.code yX7_drawGivingBack cX7_drawGivingBack 3 none, Cond.methodLink RX7 64 yX7_refusalToTakeBack, Cond.instanceMethod yX7_refusalToTakeBack, Cond.selects RX7 yX7_refusalToTakeBack yX7_refusalToTakeBack, Cond.code yX7_refusalToTakeBack cX7_refusalToTakeBack 4 (some .int), Cond.methodLink RX7 74 yX1_state, Cond.methodLink RX7 67 yX4_takeBack, Cond.instanceMethod yX4_takeBack, Cond.selects RX4 yX4_takeBack yX4_takeBack, Cond.code yX4_takeBack cX4_takeBack 4 (some .int), Cond.methodLink RX4 77 Lib.Math.max.name, Cond.methodLink RX4 74 yX1_step, Cond.instanceMethod yX1_step, Cond.selects RX1 yX1_step yX1_step, Cond.code yX1_step cX1_step 4 (some .int), Cond.methodLink RX1 50 Lib.Math.min.name]
def wsX7_drift_r14 : List Cond := [Cond.methodLink RX1 47 yX1_day, Cond.instanceMethod yX1_day, Cond.selects RX1 yX1_day yX1_day, Cond.code yX1_day cX1_day 2 (some .int), Cond.methodLink RX7 120 yX4_dayPasses, Cond.instanceMethod yX4_dayPasses, Cond.selects RX4 yX4_dayPasses yX4_dayPasses, Cond.code yX4_dayPasses cX4_dayPasses 2 none, Cond.methodLink RX4 99 yX4_seeToday, Cond.instanceMethod yX4_seeToday, Cond.selects RX4 yX4_seeToday yX4_seeToday, Cond.code yX4_seeToday cX4_seeToday 4 none, Cond.methodLink RX4 102 yX1_day]
def wsX7_drift : List Cond := .code yX7_drift cX7_drift 4 (some .int) :: ((wsX7_drift_r1 ++ (wsX7_drift_r2 ++ (wsX7_drift_r3 ++ (wsX7_drift_r4 ++ (wsX7_drift_r5 ++ (wsX7_drift_r6 ++ (wsX7_drift_r7 ++ (wsX7_drift_r8 ++ (wsX7_drift_r9 ++ (wsX7_drift_r10 ++ (wsX7_drift_r11 ++ (wsX7_drift_r12 ++ (wsX7_drift_r13 ++ wsX7_drift_r14))))))))))))) ++ wsX70 ++ wsX40 ++ wsX00 ++ wsX60 ++ wsX10 ++ wsX30 ++ wsX20 ++ wsX50)
def wsX7_undo_r1 : List Cond := [Cond.fieldLink RX7 145 "LoanHouse" "undoable" "I", Cond.constant RX7 90 (-1000000003), Cond.fieldLink RX7 148 "LoanHouse" "nextPast" "I", Cond.fieldLink RX7 21 "LoanHouse" "past" "LLoanHouse$Pictures;", Cond.fieldLink RX7 10 "LoanHouse" "house" "LLoanHouse$House;", Cond.methodLink RX7 151 yJ9_floorMod_7cf53, Cond.static yJ9_floorMod_7cf53, Cond.initialized RJ9, Cond.code yJ9_floorMod_7cf53 cJ9_floorMod_7cf53 3 (some .int), Cond.methodLink RX7 156 yX6_show, Cond.instanceMethod yX6_show, Cond.selects RX6 yX6_show yX6_show, Cond.initialized RX6, Cond.code yX6_show cX6_show 4 none, Cond.fieldLink RX6 15 "LoanHouse$Pictures" "places" "[LLoanHouse$House;", Cond.static yX7_isBelow, Cond.initialized RX7, Cond.code yX7_isBelow cX7_isBelow 2 (some .boolean), Cond.methodLink RX6 28 yX4_become, Cond.instanceMethod yX4_become, Cond.selects RX4 yX4_become yX4_become, Cond.initialized RX4, Cond.code yX4_become cX4_become 2 none, Cond.fieldLink RX4 12 "LoanHouse$House" "calendar" "LLoanHouse$Calendar;"]
def wsX7_undo_r2 : List Cond := [Cond.fieldLink RX4 21 "LoanHouse$House" "copies" "LLoanHouse$Copies;", Cond.fieldLink RX4 28 "LoanHouse$House" "holds" "LLoanHouse$Holds;", Cond.fieldLink RX4 95 "LoanHouse$House" "trips" "I", Cond.methodLink RX4 137 yX0_become, Cond.instanceMethod yX0_become, Cond.selects RX0 yX0_become yX0_become, Cond.initialized RX0, Cond.code yX0_become cX0_become 2 none, Cond.fieldLink RX0 27 "LoanHouse$Calendar" "now" "I", Cond.fieldLink RX0 9 "LoanHouse$Calendar" "term" "I", Cond.fieldLink RX0 15 "LoanHouse$Calendar" "patience" "I", Cond.fieldLink RX0 18 "LoanHouse$Calendar" "closed" "I", Cond.methodLink RX4 141 yX1_become, Cond.instanceMethod yX1_become, Cond.selects RX1 yX1_become yX1_become, Cond.initialized RX1, Cond.code yX1_become cX1_become 2 none, Cond.fieldLink RX1 24 "LoanHouse$Copies" "count" "I", Cond.fieldLink RX1 16 "LoanHouse$Copies" "grid" "LLoanHouse$Grid;", Cond.methodLink RX1 78 yX2_become, Cond.instanceMethod yX2_become, Cond.selects RX2 yX2_become yX2_become, Cond.initialized RX2, Cond.code yX2_become cX2_become 2 none]
def wsX7_undo_r3 : List Cond := [Cond.fieldLink RX2 24 "LoanHouse$Grid" "cells" "[I", Cond.methodLink RX2 34 Lib.Math.min.name, Cond.static Lib.Math.min.name, Cond.initialized "java/lang/Math", Cond.code Lib.Math.min.name Lib.Math.min.code 2 (some .int), Cond.methodLink RX2 28 arraycopyName, Cond.native arraycopyName, Cond.static arraycopyName, Cond.initialized "java/lang/System", Cond.methodLink RX4 144 yX3_become, Cond.instanceMethod yX3_become, Cond.selects RX3 yX3_become yX3_become, Cond.initialized RX3, Cond.code yX3_become cX3_become 2 none, Cond.fieldLink RX3 24 "LoanHouse$Holds" "count" "I", Cond.fieldLink RX3 32 "LoanHouse$Holds" "nextNumber" "I", Cond.fieldLink RX3 16 "LoanHouse$Holds" "grid" "LLoanHouse$Grid;", Cond.methodLink RX3 73 yX2_become]
def wsX7_undo : List Cond := .code yX7_undo cX7_undo 1 (some .int) :: ((wsX7_undo_r1 ++ (wsX7_undo_r2 ++ wsX7_undo_r3)) ++ wsX70 ++ wsX60 ++ wsX40 ++ wsX00 ++ wsX10 ++ wsX20 ++ wsX30)
def wsX7_told_r1 : List Cond := [Cond.fieldLink RX7 10 "LoanHouse" "house" "LLoanHouse$House;", Cond.fieldLink RX7 145 "LoanHouse" "undoable" "I", Cond.constant RX7 110 (-1000000002), Cond.methodLink RX7 169 yX1_thatAre, Cond.instanceMethod yX1_thatAre, Cond.selects RX1 yX1_thatAre yX1_thatAre, Cond.initialized RX1, Cond.code yX1_thatAre cX1_thatAre 4 (some .int), Cond.fieldLink RX1 24 "LoanHouse$Copies" "count" "I", Cond.methodLink RX1 36 yX1_state, Cond.instanceMethod yX1_state, Cond.selects RX1 yX1_state yX1_state, Cond.code yX1_state cX1_state 2 (some .int), Cond.fieldLink RX1 16 "LoanHouse$Copies" "grid" "LLoanHouse$Grid;", Cond.methodLink RX1 20 yX2_at, Cond.instanceMethod yX2_at, Cond.selects RX2 yX2_at yX2_at, Cond.initialized RX2, Cond.code yX2_at cX2_at 3 (some .int), Cond.fieldLink RX2 15 "LoanHouse$Grid" "rows" "I", Cond.fieldLink RX2 21 "LoanHouse$Grid" "columns" "I", Cond.fieldLink RX2 24 "LoanHouse$Grid" "cells" "[I", Cond.methodLink RX7 173 yX3_waiting, Cond.instanceMethod yX3_waiting]
def wsX7_told_r2 : List Cond := [Cond.selects RX3 yX3_waiting yX3_waiting, Cond.initialized RX3, Cond.code yX3_waiting cX3_waiting 3 (some .int), Cond.fieldLink RX3 24 "LoanHouse$Holds" "count" "I", Cond.methodLink RX3 47 yX3_copyFor, Cond.instanceMethod yX3_copyFor, Cond.selects RX3 yX3_copyFor yX3_copyFor, Cond.code yX3_copyFor cX3_copyFor 2 (some .int), Cond.fieldLink RX3 16 "LoanHouse$Holds" "grid" "LLoanHouse$Grid;", Cond.methodLink RX3 20 yX2_at, Cond.methodLink RX7 180 yJ6_bitCount_0f7a4, Cond.static yJ6_bitCount_0f7a4, Cond.initialized RJ6, Cond.code yJ6_bitCount_0f7a4 cJ6_bitCount_0f7a4 1 (some .int), Cond.constant RJ6 265 (1431655765), Cond.constant RJ6 266 (858993459), Cond.constant RJ6 267 (252645135), Cond.methodLink RX7 185 yX1_overdue, Cond.instanceMethod yX1_overdue, Cond.selects RX1 yX1_overdue yX1_overdue, Cond.code yX1_overdue cX1_overdue 4 (some .int), Cond.methodLink RX1 47 yX1_day, Cond.instanceMethod yX1_day, Cond.selects RX1 yX1_day yX1_day]
def wsX7_told_r3 : List Cond := [Cond.code yX1_day cX1_day 2 (some .int), Cond.methodLink RX7 188 yX0_isClosed, Cond.instanceMethod yX0_isClosed, Cond.selects RX0 yX0_isClosed yX0_isClosed, Cond.initialized RX0, Cond.code yX0_isClosed cX0_isClosed 2 (some .boolean), Cond.fieldLink RX0 18 "LoanHouse$Calendar" "closed" "I", Cond.methodLink RX0 21 yJ9_floorMod_7cf53, Cond.static yJ9_floorMod_7cf53, Cond.initialized RJ9, Cond.code yJ9_floorMod_7cf53 cJ9_floorMod_7cf53 3 (some .int)]
def wsX7_told : List Cond := .code yX7_told cX7_told 2 (some .int) :: ((wsX7_told_r1 ++ (wsX7_told_r2 ++ wsX7_told_r3)) ++ wsX70 ++ wsX40 ++ wsX00 ++ wsX10 ++ wsX30 ++ wsX20)
def wsX7_copyOf_r1 : List Cond := [Cond.constant RX7 39 (-1000000001), Cond.fieldLink RX7 10 "LoanHouse" "house" "LLoanHouse$House;", Cond.constant RX7 110 (-1000000002), Cond.methodLink RX7 70 yX7_isCopy, Cond.instanceMethod yX7_isCopy, Cond.selects RX7 yX7_isCopy yX7_isCopy, Cond.initialized RX7, Cond.code yX7_isCopy cX7_isCopy 2 (some .boolean), Cond.methodLink RX7 35 yX7_isBelow, Cond.static yX7_isBelow, Cond.code yX7_isBelow cX7_isBelow 2 (some .boolean), Cond.methodLink RX7 82 yX1_title, Cond.instanceMethod yX1_title, Cond.selects RX1 yX1_title yX1_title, Cond.initialized RX1, Cond.code yX1_title cX1_title 2 (some .int), Cond.fieldLink RX1 16 "LoanHouse$Copies" "grid" "LLoanHouse$Grid;", Cond.methodLink RX1 20 yX2_at, Cond.instanceMethod yX2_at, Cond.selects RX2 yX2_at yX2_at, Cond.initialized RX2, Cond.code yX2_at cX2_at 3 (some .int), Cond.fieldLink RX2 15 "LoanHouse$Grid" "rows" "I", Cond.fieldLink RX2 21 "LoanHouse$Grid" "columns" "I"]
def wsX7_copyOf_r2 : List Cond := [Cond.fieldLink RX2 24 "LoanHouse$Grid" "cells" "[I", Cond.methodLink RX7 191 yX1_branch, Cond.instanceMethod yX1_branch, Cond.selects RX1 yX1_branch yX1_branch, Cond.code yX1_branch cX1_branch 2 (some .int), Cond.methodLink RX7 74 yX1_state, Cond.instanceMethod yX1_state, Cond.selects RX1 yX1_state yX1_state, Cond.code yX1_state cX1_state 2 (some .int), Cond.methodLink RX7 194 yX1_whose, Cond.instanceMethod yX1_whose, Cond.selects RX1 yX1_whose yX1_whose, Cond.code yX1_whose cX1_whose 2 (some .int), Cond.methodLink RX7 197 yX1_day, Cond.instanceMethod yX1_day, Cond.selects RX1 yX1_day yX1_day, Cond.code yX1_day cX1_day 2 (some .int), Cond.methodLink RX7 200 yX1_step, Cond.instanceMethod yX1_step, Cond.selects RX1 yX1_step yX1_step, Cond.code yX1_step cX1_step 4 (some .int), Cond.methodLink RX1 50 Lib.Math.min.name, Cond.static Lib.Math.min.name, Cond.initialized "java/lang/Math"]
def wsX7_copyOf_r3 : List Cond := [Cond.code Lib.Math.min.name Lib.Math.min.code 2 (some .int), Cond.methodLink RX1 36 yX1_state, Cond.methodLink RX1 47 yX1_day]
def wsX7_copyOf : List Cond := .code yX7_copyOf cX7_copyOf 3 (some .int) :: ((wsX7_copyOf_r1 ++ (wsX7_copyOf_r2 ++ wsX7_copyOf_r3)) ++ wsX70 ++ wsX40 ++ wsX00 ++ wsX10 ++ wsX20)
def wsX7_holdOf_r1 : List Cond := [Cond.fieldLink RX7 10 "LoanHouse" "house" "LLoanHouse$House;", Cond.constant RX7 39 (-1000000001), Cond.constant RX7 110 (-1000000002), Cond.methodLink RX7 104 yX3_slotOf, Cond.instanceMethod yX3_slotOf, Cond.selects RX3 yX3_slotOf yX3_slotOf, Cond.initialized RX3, Cond.code yX3_slotOf cX3_slotOf 3 (some .int), Cond.fieldLink RX3 24 "LoanHouse$Holds" "count" "I", Cond.methodLink RX3 28 yX3_number, Cond.instanceMethod yX3_number, Cond.selects RX3 yX3_number yX3_number, Cond.code yX3_number cX3_number 2 (some .int), Cond.fieldLink RX3 16 "LoanHouse$Holds" "grid" "LLoanHouse$Grid;", Cond.methodLink RX3 20 yX2_at, Cond.instanceMethod yX2_at, Cond.selects RX2 yX2_at yX2_at, Cond.initialized RX2, Cond.code yX2_at cX2_at 3 (some .int), Cond.fieldLink RX2 15 "LoanHouse$Grid" "rows" "I", Cond.fieldLink RX2 21 "LoanHouse$Grid" "columns" "I", Cond.fieldLink RX2 24 "LoanHouse$Grid" "cells" "[I", Cond.methodLink RX7 203 yX3_reader, Cond.instanceMethod yX3_reader]
def wsX7_holdOf_r2 : List Cond := [Cond.selects RX3 yX3_reader yX3_reader, Cond.code yX3_reader cX3_reader 2 (some .int), Cond.methodLink RX7 206 yX3_title, Cond.instanceMethod yX3_title, Cond.selects RX3 yX3_title yX3_title, Cond.code yX3_title cX3_title 2 (some .int), Cond.methodLink RX7 207 yX3_branch, Cond.instanceMethod yX3_branch, Cond.selects RX3 yX3_branch yX3_branch, Cond.code yX3_branch cX3_branch 2 (some .int), Cond.methodLink RX7 208 yX3_need, Cond.instanceMethod yX3_need, Cond.selects RX3 yX3_need yX3_need, Cond.code yX3_need cX3_need 2 (some .int), Cond.methodLink RX7 211 yX3_made, Cond.instanceMethod yX3_made, Cond.selects RX3 yX3_made yX3_made, Cond.code yX3_made cX3_made 2 (some .int), Cond.methodLink RX7 214 yX4_stateOfHold, Cond.instanceMethod yX4_stateOfHold, Cond.selects RX4 yX4_stateOfHold yX4_stateOfHold, Cond.initialized RX4, Cond.code yX4_stateOfHold cX4_stateOfHold 3 (some .int), Cond.fieldLink RX4 28 "LoanHouse$House" "holds" "LLoanHouse$Holds;"]
def wsX7_holdOf_r3 : List Cond := [Cond.fieldLink RX4 21 "LoanHouse$House" "copies" "LLoanHouse$Copies;", Cond.methodLink RX4 89 yX3_copyFor, Cond.instanceMethod yX3_copyFor, Cond.selects RX3 yX3_copyFor yX3_copyFor, Cond.code yX3_copyFor cX3_copyFor 2 (some .int), Cond.methodLink RX4 39 yX1_state, Cond.instanceMethod yX1_state, Cond.selects RX1 yX1_state yX1_state, Cond.initialized RX1, Cond.code yX1_state cX1_state 2 (some .int), Cond.fieldLink RX1 16 "LoanHouse$Copies" "grid" "LLoanHouse$Grid;", Cond.methodLink RX1 20 yX2_at, Cond.methodLink RX7 217 yX3_copyFor, Cond.methodLink RX7 220 yX3_placeInRow, Cond.instanceMethod yX3_placeInRow, Cond.selects RX3 yX3_placeInRow yX3_placeInRow, Cond.code yX3_placeInRow cX3_placeInRow 4 (some .int), Cond.methodLink RX3 53 yX3_title, Cond.methodLink RX3 56 yX3_isInRow, Cond.instanceMethod yX3_isInRow, Cond.selects RX3 yX3_isInRow yX3_isInRow, Cond.code yX3_isInRow cX3_isInRow 3 (some .boolean), Cond.methodLink RX3 62 yX3_isAhead, Cond.instanceMethod yX3_isAhead]
def wsX7_holdOf_r4 : List Cond := [Cond.selects RX3 yX3_isAhead yX3_isAhead, Cond.code yX3_isAhead cX3_isAhead 3 (some .boolean), Cond.methodLink RX3 59 yX3_need, Cond.methodLink RX7 223 yX4_soon, Cond.instanceMethod yX4_soon, Cond.selects RX4 yX4_soon yX4_soon, Cond.code yX4_soon cX4_soon 2 (some .int), Cond.fieldLink RX4 12 "LoanHouse$House" "calendar" "LLoanHouse$Calendar;", Cond.methodLink RX4 124 yX4_stateOfHold, Cond.methodLink RX4 127 yX3_title, Cond.methodLink RX4 130 yX3_placeInRow, Cond.methodLink RX4 133 yX1_dayAtPlace, Cond.instanceMethod yX1_dayAtPlace, Cond.selects RX1 yX1_dayAtPlace yX1_dayAtPlace, Cond.code yX1_dayAtPlace cX1_dayAtPlace 5 (some .int), Cond.fieldLink RX1 24 "LoanHouse$Copies" "count" "I", Cond.constant RX1 74 (99999), Cond.methodLink RX1 67 yX1_placeOfDay, Cond.instanceMethod yX1_placeOfDay, Cond.selects RX1 yX1_placeOfDay yX1_placeOfDay, Cond.code yX1_placeOfDay cX1_placeOfDay 8 (some .int), Cond.methodLink RX1 71 yX1_dayIn, Cond.instanceMethod yX1_dayIn, Cond.selects RX1 yX1_dayIn yX1_dayIn]
def wsX7_holdOf_r5 : List Cond := [Cond.code yX1_dayIn cX1_dayIn 4 (some .int), Cond.methodLink RX1 55 Lib.Math.max.name, Cond.static Lib.Math.max.name, Cond.initialized "java/lang/Math", Cond.code Lib.Math.max.name Lib.Math.max.code 2 (some .int), Cond.methodLink RX1 40 yX1_title, Cond.instanceMethod yX1_title, Cond.selects RX1 yX1_title yX1_title, Cond.code yX1_title cX1_title 2 (some .int), Cond.methodLink RX1 36 yX1_state, Cond.methodLink RX1 47 yX1_day, Cond.instanceMethod yX1_day, Cond.selects RX1 yX1_day yX1_day, Cond.code yX1_day cX1_day 2 (some .int), Cond.methodLink RX4 102 yX1_day]
def wsX7_holdOf : List Cond := .code yX7_holdOf cX7_holdOf 4 (some .int) :: ((wsX7_holdOf_r1 ++ (wsX7_holdOf_r2 ++ (wsX7_holdOf_r3 ++ (wsX7_holdOf_r4 ++ wsX7_holdOf_r5)))) ++ wsX70 ++ wsX40 ++ wsX30 ++ wsX20 ++ wsX10 ++ wsX00)
def wsX7_titleOf_r1 : List Cond := [Cond.constant RX7 39 (-1000000001), Cond.fieldLink RX7 10 "LoanHouse" "house" "LLoanHouse$House;", Cond.constant RX7 110 (-1000000002), Cond.methodLink RX7 35 yX7_isBelow, Cond.static yX7_isBelow, Cond.initialized RX7, Cond.code yX7_isBelow cX7_isBelow 2 (some .boolean), Cond.methodLink RX7 226 yX1_ofTitle, Cond.instanceMethod yX1_ofTitle, Cond.selects RX1 yX1_ofTitle yX1_ofTitle, Cond.initialized RX1, Cond.code yX1_ofTitle cX1_ofTitle 4 (some .int), Cond.fieldLink RX1 24 "LoanHouse$Copies" "count" "I", Cond.methodLink RX1 40 yX1_title, Cond.instanceMethod yX1_title, Cond.selects RX1 yX1_title yX1_title, Cond.code yX1_title cX1_title 2 (some .int), Cond.fieldLink RX1 16 "LoanHouse$Copies" "grid" "LLoanHouse$Grid;", Cond.methodLink RX1 20 yX2_at, Cond.instanceMethod yX2_at, Cond.selects RX2 yX2_at yX2_at, Cond.initialized RX2, Cond.code yX2_at cX2_at 3 (some .int), Cond.fieldLink RX2 15 "LoanHouse$Grid" "rows" "I"]
def wsX7_titleOf_r2 : List Cond := [Cond.fieldLink RX2 21 "LoanHouse$Grid" "columns" "I", Cond.fieldLink RX2 24 "LoanHouse$Grid" "cells" "[I", Cond.methodLink RX7 169 yX1_thatAre, Cond.instanceMethod yX1_thatAre, Cond.selects RX1 yX1_thatAre yX1_thatAre, Cond.code yX1_thatAre cX1_thatAre 4 (some .int), Cond.methodLink RX1 36 yX1_state, Cond.instanceMethod yX1_state, Cond.selects RX1 yX1_state yX1_state, Cond.code yX1_state cX1_state 2 (some .int), Cond.methodLink RX7 85 yX3_rowLength, Cond.instanceMethod yX3_rowLength, Cond.selects RX3 yX3_rowLength yX3_rowLength, Cond.initialized RX3, Cond.code yX3_rowLength cX3_rowLength 4 (some .int), Cond.fieldLink RX3 24 "LoanHouse$Holds" "count" "I", Cond.methodLink RX3 56 yX3_isInRow, Cond.instanceMethod yX3_isInRow, Cond.selects RX3 yX3_isInRow yX3_isInRow, Cond.code yX3_isInRow cX3_isInRow 3 (some .boolean), Cond.fieldLink RX3 16 "LoanHouse$Holds" "grid" "LLoanHouse$Grid;", Cond.methodLink RX3 20 yX2_at, Cond.methodLink RX7 229 yX3_firstOfRow, Cond.instanceMethod yX3_firstOfRow]
def wsX7_titleOf_r3 : List Cond := [Cond.selects RX3 yX3_firstOfRow yX3_firstOfRow, Cond.code yX3_firstOfRow cX3_firstOfRow 4 (some .int), Cond.methodLink RX3 59 yX3_need, Cond.instanceMethod yX3_need, Cond.selects RX3 yX3_need yX3_need, Cond.code yX3_need cX3_need 2 (some .int), Cond.methodLink RX7 232 yX3_number, Cond.instanceMethod yX3_number, Cond.selects RX3 yX3_number yX3_number, Cond.code yX3_number cX3_number 2 (some .int), Cond.methodLink RX7 235 yX3_longestWait, Cond.instanceMethod yX3_longestWait, Cond.selects RX3 yX3_longestWait yX3_longestWait, Cond.code yX3_longestWait cX3_longestWait 5 (some .int), Cond.methodLink RX3 68 Lib.Math.max.name, Cond.static Lib.Math.max.name, Cond.initialized "java/lang/Math", Cond.code Lib.Math.max.name Lib.Math.max.code 2 (some .int), Cond.methodLink RX3 65 yX3_made, Cond.instanceMethod yX3_made, Cond.selects RX3 yX3_made yX3_made, Cond.code yX3_made cX3_made 2 (some .int)]
def wsX7_titleOf : List Cond := .code yX7_titleOf cX7_titleOf 3 (some .int) :: ((wsX7_titleOf_r1 ++ (wsX7_titleOf_r2 ++ wsX7_titleOf_r3)) ++ wsX70 ++ wsX40 ++ wsX00 ++ wsX10 ++ wsX20 ++ wsX30)
def wsX7_readerOf_r1 : List Cond := [Cond.constant RX7 39 (-1000000001), Cond.fieldLink RX7 10 "LoanHouse" "house" "LLoanHouse$House;", Cond.constant RX7 110 (-1000000002), Cond.methodLink RX7 35 yX7_isBelow, Cond.static yX7_isBelow, Cond.initialized RX7, Cond.code yX7_isBelow cX7_isBelow 2 (some .boolean), Cond.methodLink RX7 238 yX1_outTo, Cond.instanceMethod yX1_outTo, Cond.selects RX1 yX1_outTo yX1_outTo, Cond.initialized RX1, Cond.code yX1_outTo cX1_outTo 4 (some .int), Cond.fieldLink RX1 24 "LoanHouse$Copies" "count" "I", Cond.methodLink RX1 43 yX1_isOutTo, Cond.instanceMethod yX1_isOutTo, Cond.selects RX1 yX1_isOutTo yX1_isOutTo, Cond.code yX1_isOutTo cX1_isOutTo 3 (some .boolean), Cond.methodLink RX1 36 yX1_state, Cond.instanceMethod yX1_state, Cond.selects RX1 yX1_state yX1_state, Cond.code yX1_state cX1_state 2 (some .int), Cond.fieldLink RX1 16 "LoanHouse$Copies" "grid" "LLoanHouse$Grid;", Cond.methodLink RX1 20 yX2_at, Cond.instanceMethod yX2_at]
def wsX7_readerOf_r2 : List Cond := [Cond.selects RX2 yX2_at yX2_at, Cond.initialized RX2, Cond.code yX2_at cX2_at 3 (some .int), Cond.fieldLink RX2 15 "LoanHouse$Grid" "rows" "I", Cond.fieldLink RX2 21 "LoanHouse$Grid" "columns" "I", Cond.fieldLink RX2 24 "LoanHouse$Grid" "cells" "[I", Cond.methodLink RX1 75 yX1_whose, Cond.instanceMethod yX1_whose, Cond.selects RX1 yX1_whose yX1_whose, Cond.code yX1_whose cX1_whose 2 (some .int), Cond.methodLink RX7 241 yX3_ofReader, Cond.instanceMethod yX3_ofReader, Cond.selects RX3 yX3_ofReader yX3_ofReader, Cond.initialized RX3, Cond.code yX3_ofReader cX3_ofReader 4 (some .int), Cond.fieldLink RX3 24 "LoanHouse$Holds" "count" "I", Cond.methodLink RX3 50 yX3_reader, Cond.instanceMethod yX3_reader, Cond.selects RX3 yX3_reader yX3_reader, Cond.code yX3_reader cX3_reader 2 (some .int), Cond.fieldLink RX3 16 "LoanHouse$Holds" "grid" "LLoanHouse$Grid;", Cond.methodLink RX3 20 yX2_at, Cond.methodLink RX7 244 yX1_owedBy, Cond.instanceMethod yX1_owedBy]
def wsX7_readerOf_r3 : List Cond := [Cond.selects RX1 yX1_owedBy yX1_owedBy, Cond.code yX1_owedBy cX1_owedBy 5 (some .int), Cond.methodLink RX1 55 Lib.Math.max.name, Cond.static Lib.Math.max.name, Cond.initialized "java/lang/Math", Cond.code Lib.Math.max.name Lib.Math.max.code 2 (some .int), Cond.methodLink RX1 47 yX1_day, Cond.instanceMethod yX1_day, Cond.selects RX1 yX1_day yX1_day, Cond.code yX1_day cX1_day 2 (some .int), Cond.methodLink RX7 247 yX1_greatestStep, Cond.instanceMethod yX1_greatestStep, Cond.selects RX1 yX1_greatestStep yX1_greatestStep, Cond.code yX1_greatestStep cX1_greatestStep 5 (some .int), Cond.methodLink RX1 58 yX1_step, Cond.instanceMethod yX1_step, Cond.selects RX1 yX1_step yX1_step, Cond.code yX1_step cX1_step 4 (some .int), Cond.methodLink RX1 50 Lib.Math.min.name, Cond.static Lib.Math.min.name, Cond.code Lib.Math.min.name Lib.Math.min.code 2 (some .int)]
def wsX7_readerOf : List Cond := .code yX7_readerOf cX7_readerOf 3 (some .int) :: ((wsX7_readerOf_r1 ++ (wsX7_readerOf_r2 ++ wsX7_readerOf_r3)) ++ wsX70 ++ wsX40 ++ wsX00 ++ wsX10 ++ wsX20 ++ wsX30)
def wsX7_keep_r1 : List Cond := [Cond.constant RX7 39 (-1000000001), Cond.fieldLink RX7 25 "LoanHouse" "images" "LLoanHouse$Pictures;", Cond.fieldLink RX7 10 "LoanHouse" "house" "LLoanHouse$House;", Cond.fieldLink RX7 145 "LoanHouse" "undoable" "I", Cond.methodLink RX7 35 yX7_isBelow, Cond.static yX7_isBelow, Cond.initialized RX7, Cond.code yX7_isBelow cX7_isBelow 2 (some .boolean), Cond.methodLink RX7 250 yX6_take, Cond.instanceMethod yX6_take, Cond.selects RX6 yX6_take yX6_take, Cond.initialized RX6, Cond.code yX6_take cX6_take 4 none, Cond.fieldLink RX6 15 "LoanHouse$Pictures" "places" "[LLoanHouse$House;", Cond.classLink RX6 13 RX4, Cond.instantiable RX4 4, Cond.initialized RX4, Cond.instanceMethod yX4_init, Cond.code yX4_init cX4_init 1 none, Cond.methodLink RX4 3 objectInit, Cond.instanceMethod objectInit, Cond.code objectInit ⟨#[0xb1]⟩ 1 none, Cond.classLink RX4 9 RX0, Cond.instantiable RX0 4]
def wsX7_keep_r2 : List Cond := [Cond.initialized RX0, Cond.fieldLink RX4 12 "LoanHouse$House" "calendar" "LLoanHouse$Calendar;", Cond.classLink RX4 18 RX1, Cond.instantiable RX1 2, Cond.initialized RX1, Cond.fieldLink RX4 21 "LoanHouse$House" "copies" "LLoanHouse$Copies;", Cond.classLink RX4 25 RX3, Cond.instantiable RX3 3, Cond.initialized RX3, Cond.fieldLink RX4 28 "LoanHouse$House" "holds" "LLoanHouse$Holds;", Cond.instanceMethod yX0_init, Cond.code yX0_init cX0_init 1 none, Cond.methodLink RX0 3 objectInit, Cond.fieldLink RX0 9 "LoanHouse$Calendar" "term" "I", Cond.fieldLink RX0 15 "LoanHouse$Calendar" "patience" "I", Cond.fieldLink RX0 18 "LoanHouse$Calendar" "closed" "I", Cond.instanceMethod yX1_init, Cond.code yX1_init cX1_init 1 none, Cond.methodLink RX1 3 objectInit, Cond.classLink RX1 9 RX2, Cond.instantiable RX2 3, Cond.initialized RX2, Cond.fieldLink RX1 16 "LoanHouse$Copies" "grid" "LLoanHouse$Grid;", Cond.methodLink RX1 13 yX2_init]
def wsX7_keep_r3 : List Cond := [Cond.instanceMethod yX2_init, Cond.code yX2_init cX2_init 3 none, Cond.methodLink RX2 3 objectInit, Cond.methodLink RX2 9 Lib.Math.max.name, Cond.static Lib.Math.max.name, Cond.initialized "java/lang/Math", Cond.code Lib.Math.max.name Lib.Math.max.code 2 (some .int), Cond.fieldLink RX2 15 "LoanHouse$Grid" "rows" "I", Cond.fieldLink RX2 21 "LoanHouse$Grid" "columns" "I", Cond.arrayClass .int, Cond.fieldLink RX2 24 "LoanHouse$Grid" "cells" "[I", Cond.instanceMethod yX3_init, Cond.code yX3_init cX3_init 1 none, Cond.methodLink RX3 3 objectInit, Cond.classLink RX3 9 RX2, Cond.fieldLink RX3 16 "LoanHouse$Holds" "grid" "LLoanHouse$Grid;", Cond.methodLink RX3 13 yX2_init, Cond.methodLink RX6 28 yX4_become, Cond.instanceMethod yX4_become, Cond.selects RX4 yX4_become yX4_become, Cond.code yX4_become cX4_become 2 none, Cond.fieldLink RX4 95 "LoanHouse$House" "trips" "I", Cond.methodLink RX4 137 yX0_become, Cond.instanceMethod yX0_become]
def wsX7_keep_r4 : List Cond := [Cond.selects RX0 yX0_become yX0_become, Cond.code yX0_become cX0_become 2 none, Cond.fieldLink RX0 27 "LoanHouse$Calendar" "now" "I", Cond.methodLink RX4 141 yX1_become, Cond.instanceMethod yX1_become, Cond.selects RX1 yX1_become yX1_become, Cond.code yX1_become cX1_become 2 none, Cond.fieldLink RX1 24 "LoanHouse$Copies" "count" "I", Cond.methodLink RX1 78 yX2_become, Cond.instanceMethod yX2_become, Cond.selects RX2 yX2_become yX2_become, Cond.code yX2_become cX2_become 2 none, Cond.methodLink RX2 34 Lib.Math.min.name, Cond.static Lib.Math.min.name, Cond.code Lib.Math.min.name Lib.Math.min.code 2 (some .int), Cond.methodLink RX2 28 arraycopyName, Cond.native arraycopyName, Cond.static arraycopyName, Cond.initialized "java/lang/System", Cond.methodLink RX4 144 yX3_become, Cond.instanceMethod yX3_become, Cond.selects RX3 yX3_become yX3_become, Cond.code yX3_become cX3_become 2 none, Cond.fieldLink RX3 24 "LoanHouse$Holds" "count" "I"]
def wsX7_keep_r5 : List Cond := [Cond.fieldLink RX3 32 "LoanHouse$Holds" "nextNumber" "I", Cond.methodLink RX3 73 yX2_become]
def wsX7_keep : List Cond := .code yX7_keep cX7_keep 2 (some .int) :: ((wsX7_keep_r1 ++ (wsX7_keep_r2 ++ (wsX7_keep_r3 ++ (wsX7_keep_r4 ++ wsX7_keep_r5)))) ++ wsX70 ++ wsX40 ++ wsX00 ++ wsX60 ++ wsX10 ++ wsX30 ++ wsX20)
def wsX7_goBack_r1 : List Cond := [Cond.constant RX7 39 (-1000000001), Cond.fieldLink RX7 25 "LoanHouse" "images" "LLoanHouse$Pictures;", Cond.constant RX7 90 (-1000000003), Cond.fieldLink RX7 10 "LoanHouse" "house" "LLoanHouse$House;", Cond.fieldLink RX7 145 "LoanHouse" "undoable" "I", Cond.methodLink RX7 35 yX7_isBelow, Cond.static yX7_isBelow, Cond.initialized RX7, Cond.code yX7_isBelow cX7_isBelow 2 (some .boolean), Cond.methodLink RX7 253 yX6_has, Cond.instanceMethod yX6_has, Cond.selects RX6 yX6_has yX6_has, Cond.initialized RX6, Cond.code yX6_has cX6_has 2 (some .boolean), Cond.fieldLink RX6 15 "LoanHouse$Pictures" "places" "[LLoanHouse$House;", Cond.methodLink RX7 156 yX6_show, Cond.instanceMethod yX6_show, Cond.selects RX6 yX6_show yX6_show, Cond.code yX6_show cX6_show 4 none, Cond.methodLink RX6 28 yX4_become, Cond.instanceMethod yX4_become, Cond.selects RX4 yX4_become yX4_become, Cond.initialized RX4, Cond.code yX4_become cX4_become 2 none]
def wsX7_goBack_r2 : List Cond := [Cond.fieldLink RX4 12 "LoanHouse$House" "calendar" "LLoanHouse$Calendar;", Cond.fieldLink RX4 21 "LoanHouse$House" "copies" "LLoanHouse$Copies;", Cond.fieldLink RX4 28 "LoanHouse$House" "holds" "LLoanHouse$Holds;", Cond.fieldLink RX4 95 "LoanHouse$House" "trips" "I", Cond.methodLink RX4 137 yX0_become, Cond.instanceMethod yX0_become, Cond.selects RX0 yX0_become yX0_become, Cond.initialized RX0, Cond.code yX0_become cX0_become 2 none, Cond.fieldLink RX0 27 "LoanHouse$Calendar" "now" "I", Cond.fieldLink RX0 9 "LoanHouse$Calendar" "term" "I", Cond.fieldLink RX0 15 "LoanHouse$Calendar" "patience" "I", Cond.fieldLink RX0 18 "LoanHouse$Calendar" "closed" "I", Cond.methodLink RX4 141 yX1_become, Cond.instanceMethod yX1_become, Cond.selects RX1 yX1_become yX1_become, Cond.initialized RX1, Cond.code yX1_become cX1_become 2 none, Cond.fieldLink RX1 24 "LoanHouse$Copies" "count" "I", Cond.fieldLink RX1 16 "LoanHouse$Copies" "grid" "LLoanHouse$Grid;", Cond.methodLink RX1 78 yX2_become, Cond.instanceMethod yX2_become, Cond.selects RX2 yX2_become yX2_become, Cond.initialized RX2]
def wsX7_goBack_r3 : List Cond := [Cond.code yX2_become cX2_become 2 none, Cond.fieldLink RX2 24 "LoanHouse$Grid" "cells" "[I", Cond.methodLink RX2 34 Lib.Math.min.name, Cond.static Lib.Math.min.name, Cond.initialized "java/lang/Math", Cond.code Lib.Math.min.name Lib.Math.min.code 2 (some .int), Cond.methodLink RX2 28 arraycopyName, Cond.native arraycopyName, Cond.static arraycopyName, Cond.initialized "java/lang/System", Cond.methodLink RX4 144 yX3_become, Cond.instanceMethod yX3_become, Cond.selects RX3 yX3_become yX3_become, Cond.initialized RX3, Cond.code yX3_become cX3_become 2 none, Cond.fieldLink RX3 24 "LoanHouse$Holds" "count" "I", Cond.fieldLink RX3 32 "LoanHouse$Holds" "nextNumber" "I", Cond.fieldLink RX3 16 "LoanHouse$Holds" "grid" "LLoanHouse$Grid;", Cond.methodLink RX3 73 yX2_become]
def wsX7_goBack : List Cond := .code yX7_goBack cX7_goBack 2 (some .int) :: ((wsX7_goBack_r1 ++ (wsX7_goBack_r2 ++ wsX7_goBack_r3)) ++ wsX70 ++ wsX40 ++ wsX00 ++ wsX60 ++ wsX10 ++ wsX20 ++ wsX30)
def wsX8_init : List Cond := .code yX8_init cX8_init 1 none :: ([.methodLink RX8 1 objectInit, .instanceMethod objectInit, .code objectInit ⟨#[0xb1]⟩ 1 none, .arrayClass .int, .fieldLink RX8 7 "LoanHouseModel" "st" "[I", .fieldLink RX8 13 "LoanHouseModel" "past" "[I", .fieldLink RX8 16 "LoanHouseModel" "kept" "[I", .arrayClass .boolean, .fieldLink RX8 19 "LoanHouseModel" "isKept" "[Z"] ++ wsX80)
def wsX8_in : List Cond := .code yX8_in cX8_in 6 (some .boolean) :: ([])
def wsX8_has : List Cond := .code yX8_has cX8_has 2 (some .boolean) :: ([])
def wsX8_copyAt : List Cond := .code yX8_copyAt cX8_copyAt 3 (some .int) :: ([.fieldLink RX8 7 "LoanHouseModel" "st" "[I"] ++ wsX80)
def wsX8_holdAt : List Cond := .code yX8_holdAt cX8_holdAt 3 (some .int) :: ([.fieldLink RX8 7 "LoanHouseModel" "st" "[I"] ++ wsX80)
def wsX8_setCopy : List Cond := .code yX8_setCopy cX8_setCopy 5 none :: ([.fieldLink RX8 7 "LoanHouseModel" "st" "[I"] ++ wsX80)
def wsX8_isCopy : List Cond := .code yX8_isCopy cX8_isCopy 2 (some .boolean) :: ([.fieldLink RX8 7 "LoanHouseModel" "st" "[I", .methodLink RX8 23 yX8_in, .static yX8_in, .initialized RX8, .code yX8_in cX8_in 6 (some .boolean)] ++ wsX80)
def wsX8_isBranch : List Cond := .code yX8_isBranch cX8_isBranch 1 (some .boolean) :: ([.constantLong RX8 27 (3), .methodLink RX8 23 yX8_in, .static yX8_in, .initialized RX8, .code yX8_in cX8_in 6 (some .boolean)])
def wsX8_isTitle : List Cond := .code yX8_isTitle cX8_isTitle 1 (some .boolean) :: ([.constantLong RX8 29 (5), .methodLink RX8 23 yX8_in, .static yX8_in, .initialized RX8, .code yX8_in cX8_in 6 (some .boolean)])
def wsX8_isReader : List Cond := .code yX8_isReader cX8_isReader 1 (some .boolean) :: ([.constantLong RX8 31 (9), .methodLink RX8 23 yX8_in, .static yX8_in, .initialized RX8, .code yX8_in cX8_in 6 (some .boolean)])
def wsX8_wayOf : List Cond := .code yX8_wayOf cX8_wayOf 3 (some .int) :: ([])
def wsX8_isClosed : List Cond := .code yX8_isClosed cX8_isClosed 2 (some .boolean) :: ([.fieldLink RX8 7 "LoanHouseModel" "st" "[I", .methodLink RX8 33 yX8_has, .static yX8_has, .initialized RX8, .code yX8_has cX8_has 2 (some .boolean)] ++ wsX80)
def wsX8_openDay : List Cond := .code yX8_openDay cX8_openDay 3 (some .int) :: ([.fieldLink RX8 7 "LoanHouseModel" "st" "[I", .methodLink RX8 37 yX8_isClosed, .instanceMethod yX8_isClosed, .selects RX8 yX8_isClosed yX8_isClosed, .initialized RX8, .code yX8_isClosed cX8_isClosed 2 (some .boolean), .methodLink RX8 33 yX8_has, .static yX8_has, .code yX8_has cX8_has 2 (some .boolean)] ++ wsX80)
def wsX8_findHold : List Cond := .code yX8_findHold cX8_findHold 4 (some .int) :: ([.fieldLink RX8 7 "LoanHouseModel" "st" "[I", .methodLink RX8 41 yX8_holdAt, .instanceMethod yX8_holdAt, .selects RX8 yX8_holdAt yX8_holdAt, .initialized RX8, .code yX8_holdAt cX8_holdAt 3 (some .int)] ++ wsX80)
def wsX8_removeHold : List Cond := .code yX8_removeHold cX8_removeHold 3 none :: ([.fieldLink RX8 7 "LoanHouseModel" "st" "[I"] ++ wsX80)
def wsX8_isAhead : List Cond := .code yX8_isAhead cX8_isAhead 3 (some .boolean) :: ([.methodLink RX8 41 yX8_holdAt, .instanceMethod yX8_holdAt, .selects RX8 yX8_holdAt yX8_holdAt, .initialized RX8, .code yX8_holdAt cX8_holdAt 3 (some .int), .fieldLink RX8 7 "LoanHouseModel" "st" "[I"] ++ wsX80)
def wsX8_waitsFor : List Cond := .code yX8_waitsFor cX8_waitsFor 3 (some .boolean) :: ([.methodLink RX8 41 yX8_holdAt, .instanceMethod yX8_holdAt, .selects RX8 yX8_holdAt yX8_holdAt, .initialized RX8, .code yX8_holdAt cX8_holdAt 3 (some .int), .fieldLink RX8 7 "LoanHouseModel" "st" "[I"] ++ wsX80)
def wsX8_firstOf : List Cond := .code yX8_firstOf cX8_firstOf 4 (some .int) :: ([.fieldLink RX8 7 "LoanHouseModel" "st" "[I", .methodLink RX8 45 yX8_waitsFor, .instanceMethod yX8_waitsFor, .selects RX8 yX8_waitsFor yX8_waitsFor, .initialized RX8, .code yX8_waitsFor cX8_waitsFor 3 (some .boolean), .methodLink RX8 41 yX8_holdAt, .instanceMethod yX8_holdAt, .selects RX8 yX8_holdAt yX8_holdAt, .code yX8_holdAt cX8_holdAt 3 (some .int), .methodLink RX8 48 yX8_isAhead, .instanceMethod yX8_isAhead, .selects RX8 yX8_isAhead yX8_isAhead, .code yX8_isAhead cX8_isAhead 3 (some .boolean)] ++ wsX80)
def wsX8_rowOf : List Cond := .code yX8_rowOf cX8_rowOf 4 (some .int) :: ([.fieldLink RX8 7 "LoanHouseModel" "st" "[I", .methodLink RX8 45 yX8_waitsFor, .instanceMethod yX8_waitsFor, .selects RX8 yX8_waitsFor yX8_waitsFor, .initialized RX8, .code yX8_waitsFor cX8_waitsFor 3 (some .boolean), .methodLink RX8 41 yX8_holdAt, .instanceMethod yX8_holdAt, .selects RX8 yX8_holdAt yX8_holdAt, .code yX8_holdAt cX8_holdAt 3 (some .int)] ++ wsX80)
def wsX8_nearest : List Cond := .code yX8_nearest cX8_nearest 7 (some .int) :: ([.fieldLink RX8 7 "LoanHouseModel" "st" "[I", .methodLink RX8 51 yX8_copyAt, .instanceMethod yX8_copyAt, .selects RX8 yX8_copyAt yX8_copyAt, .initialized RX8, .code yX8_copyAt cX8_copyAt 3 (some .int), .methodLink RX8 54 yX8_wayOf, .static yX8_wayOf, .code yX8_wayOf cX8_wayOf 3 (some .int)] ++ wsX80)
def wsX8_give : List Cond := .code yX8_give cX8_give 6 none :: ([.fieldLink RX8 7 "LoanHouseModel" "st" "[I", .methodLink RX8 51 yX8_copyAt, .instanceMethod yX8_copyAt, .selects RX8 yX8_copyAt yX8_copyAt, .initialized RX8, .code yX8_copyAt cX8_copyAt 3 (some .int), .methodLink RX8 41 yX8_holdAt, .instanceMethod yX8_holdAt, .selects RX8 yX8_holdAt yX8_holdAt, .code yX8_holdAt cX8_holdAt 3 (some .int), .methodLink RX8 54 yX8_wayOf, .static yX8_wayOf, .code yX8_wayOf cX8_wayOf 3 (some .int), .methodLink RX8 57 yX8_setCopy, .instanceMethod yX8_setCopy, .selects RX8 yX8_setCopy yX8_setCopy, .code yX8_setCopy cX8_setCopy 5 none] ++ wsX80)
def wsX8_serve_r1 : List Cond := [Cond.methodLink RX8 61 yX8_firstOf, Cond.instanceMethod yX8_firstOf, Cond.selects RX8 yX8_firstOf yX8_firstOf, Cond.initialized RX8, Cond.code yX8_firstOf cX8_firstOf 4 (some .int), Cond.fieldLink RX8 7 "LoanHouseModel" "st" "[I", Cond.methodLink RX8 45 yX8_waitsFor, Cond.instanceMethod yX8_waitsFor, Cond.selects RX8 yX8_waitsFor yX8_waitsFor, Cond.code yX8_waitsFor cX8_waitsFor 3 (some .boolean), Cond.methodLink RX8 41 yX8_holdAt, Cond.instanceMethod yX8_holdAt, Cond.selects RX8 yX8_holdAt yX8_holdAt, Cond.code yX8_holdAt cX8_holdAt 3 (some .int), Cond.methodLink RX8 48 yX8_isAhead, Cond.instanceMethod yX8_isAhead, Cond.selects RX8 yX8_isAhead yX8_isAhead, Cond.code yX8_isAhead cX8_isAhead 3 (some .boolean), Cond.methodLink RX8 65 yX8_nearest, Cond.instanceMethod yX8_nearest, Cond.selects RX8 yX8_nearest yX8_nearest, Cond.code yX8_nearest cX8_nearest 7 (some .int), Cond.methodLink RX8 51 yX8_copyAt, Cond.instanceMethod yX8_copyAt]
def wsX8_serve_r2 : List Cond := [Cond.selects RX8 yX8_copyAt yX8_copyAt, Cond.code yX8_copyAt cX8_copyAt 3 (some .int), Cond.methodLink RX8 54 yX8_wayOf, Cond.static yX8_wayOf, Cond.code yX8_wayOf cX8_wayOf 3 (some .int), Cond.methodLink RX8 68 yX8_give, Cond.instanceMethod yX8_give, Cond.selects RX8 yX8_give yX8_give, Cond.code yX8_give cX8_give 6 none, Cond.methodLink RX8 57 yX8_setCopy, Cond.instanceMethod yX8_setCopy, Cond.selects RX8 yX8_setCopy yX8_setCopy, Cond.code yX8_setCopy cX8_setCopy 5 none]
def wsX8_serve : List Cond := .code yX8_serve cX8_serve 5 none :: ((wsX8_serve_r1 ++ wsX8_serve_r2) ++ wsX80)
def wsX8_passDay_r1 : List Cond := [Cond.fieldLink RX8 7 "LoanHouseModel" "st" "[I", Cond.methodLink RX8 51 yX8_copyAt, Cond.instanceMethod yX8_copyAt, Cond.selects RX8 yX8_copyAt yX8_copyAt, Cond.initialized RX8, Cond.code yX8_copyAt cX8_copyAt 3 (some .int), Cond.methodLink RX8 72 yX8_findHold, Cond.instanceMethod yX8_findHold, Cond.selects RX8 yX8_findHold yX8_findHold, Cond.code yX8_findHold cX8_findHold 4 (some .int), Cond.methodLink RX8 41 yX8_holdAt, Cond.instanceMethod yX8_holdAt, Cond.selects RX8 yX8_holdAt yX8_holdAt, Cond.code yX8_holdAt cX8_holdAt 3 (some .int), Cond.methodLink RX8 57 yX8_setCopy, Cond.instanceMethod yX8_setCopy, Cond.selects RX8 yX8_setCopy yX8_setCopy, Cond.code yX8_setCopy cX8_setCopy 5 none, Cond.methodLink RX8 75 yX8_removeHold, Cond.instanceMethod yX8_removeHold, Cond.selects RX8 yX8_removeHold yX8_removeHold, Cond.code yX8_removeHold cX8_removeHold 3 none, Cond.methodLink RX8 79 yX8_serve, Cond.instanceMethod yX8_serve]
def wsX8_passDay_r2 : List Cond := [Cond.selects RX8 yX8_serve yX8_serve, Cond.code yX8_serve cX8_serve 5 none, Cond.methodLink RX8 61 yX8_firstOf, Cond.instanceMethod yX8_firstOf, Cond.selects RX8 yX8_firstOf yX8_firstOf, Cond.code yX8_firstOf cX8_firstOf 4 (some .int), Cond.methodLink RX8 45 yX8_waitsFor, Cond.instanceMethod yX8_waitsFor, Cond.selects RX8 yX8_waitsFor yX8_waitsFor, Cond.code yX8_waitsFor cX8_waitsFor 3 (some .boolean), Cond.methodLink RX8 48 yX8_isAhead, Cond.instanceMethod yX8_isAhead, Cond.selects RX8 yX8_isAhead yX8_isAhead, Cond.code yX8_isAhead cX8_isAhead 3 (some .boolean), Cond.methodLink RX8 65 yX8_nearest, Cond.instanceMethod yX8_nearest, Cond.selects RX8 yX8_nearest yX8_nearest, Cond.code yX8_nearest cX8_nearest 7 (some .int), Cond.methodLink RX8 54 yX8_wayOf, Cond.static yX8_wayOf, Cond.code yX8_wayOf cX8_wayOf 3 (some .int), Cond.methodLink RX8 68 yX8_give, Cond.instanceMethod yX8_give, Cond.selects RX8 yX8_give yX8_give]
def wsX8_passDay_r3 : List Cond := [Cond.code yX8_give cX8_give 6 none]
def wsX8_passDay : List Cond := .code yX8_passDay cX8_passDay 2 none :: ((wsX8_passDay_r1 ++ (wsX8_passDay_r2 ++ wsX8_passDay_r3)) ++ wsX80)
def wsX8_note : List Cond := .code yX8_note cX8_note 2 none :: ([.fieldLink RX8 82 "LoanHouseModel" "undoMany" "I", .fieldLink RX8 13 "LoanHouseModel" "past" "[I", .fieldLink RX8 7 "LoanHouseModel" "st" "[I"] ++ wsX80)
def wsX8_copy_r1 : List Cond := [Cond.constant RX8 92 (-1000000001), Cond.fieldLink RX8 7 "LoanHouseModel" "st" "[I", Cond.constant RX8 93 (-1000000004), Cond.methodLink RX8 86 yX8_isTitle, Cond.static yX8_isTitle, Cond.initialized RX8, Cond.code yX8_isTitle cX8_isTitle 1 (some .boolean), Cond.constantLong RX8 29 (5), Cond.methodLink RX8 23 yX8_in, Cond.static yX8_in, Cond.code yX8_in cX8_in 6 (some .boolean), Cond.methodLink RX8 89 yX8_isBranch, Cond.static yX8_isBranch, Cond.code yX8_isBranch cX8_isBranch 1 (some .boolean), Cond.constantLong RX8 27 (3), Cond.methodLink RX8 94 yX8_note, Cond.instanceMethod yX8_note, Cond.selects RX8 yX8_note yX8_note, Cond.code yX8_note cX8_note 2 none, Cond.fieldLink RX8 82 "LoanHouseModel" "undoMany" "I", Cond.fieldLink RX8 13 "LoanHouseModel" "past" "[I", Cond.methodLink RX8 57 yX8_setCopy, Cond.instanceMethod yX8_setCopy, Cond.selects RX8 yX8_setCopy yX8_setCopy]
def wsX8_copy_r2 : List Cond := [Cond.code yX8_setCopy cX8_setCopy 5 none, Cond.methodLink RX8 79 yX8_serve, Cond.instanceMethod yX8_serve, Cond.selects RX8 yX8_serve yX8_serve, Cond.code yX8_serve cX8_serve 5 none, Cond.methodLink RX8 61 yX8_firstOf, Cond.instanceMethod yX8_firstOf, Cond.selects RX8 yX8_firstOf yX8_firstOf, Cond.code yX8_firstOf cX8_firstOf 4 (some .int), Cond.methodLink RX8 45 yX8_waitsFor, Cond.instanceMethod yX8_waitsFor, Cond.selects RX8 yX8_waitsFor yX8_waitsFor, Cond.code yX8_waitsFor cX8_waitsFor 3 (some .boolean), Cond.methodLink RX8 41 yX8_holdAt, Cond.instanceMethod yX8_holdAt, Cond.selects RX8 yX8_holdAt yX8_holdAt, Cond.code yX8_holdAt cX8_holdAt 3 (some .int), Cond.methodLink RX8 48 yX8_isAhead, Cond.instanceMethod yX8_isAhead, Cond.selects RX8 yX8_isAhead yX8_isAhead, Cond.code yX8_isAhead cX8_isAhead 3 (some .boolean), Cond.methodLink RX8 65 yX8_nearest, Cond.instanceMethod yX8_nearest, Cond.selects RX8 yX8_nearest yX8_nearest]
def wsX8_copy_r3 : List Cond := [Cond.code yX8_nearest cX8_nearest 7 (some .int), Cond.methodLink RX8 51 yX8_copyAt, Cond.instanceMethod yX8_copyAt, Cond.selects RX8 yX8_copyAt yX8_copyAt, Cond.code yX8_copyAt cX8_copyAt 3 (some .int), Cond.methodLink RX8 54 yX8_wayOf, Cond.static yX8_wayOf, Cond.code yX8_wayOf cX8_wayOf 3 (some .int), Cond.methodLink RX8 68 yX8_give, Cond.instanceMethod yX8_give, Cond.selects RX8 yX8_give yX8_give, Cond.code yX8_give cX8_give 6 none]
def wsX8_copy : List Cond := .code yX8_copy cX8_copy 4 (some .int) :: ((wsX8_copy_r1 ++ (wsX8_copy_r2 ++ wsX8_copy_r3)) ++ wsX80)
def wsX8_outsOf : List Cond := .code yX8_outsOf cX8_outsOf 4 (some .int) :: ([.fieldLink RX8 7 "LoanHouseModel" "st" "[I", .methodLink RX8 51 yX8_copyAt, .instanceMethod yX8_copyAt, .selects RX8 yX8_copyAt yX8_copyAt, .initialized RX8, .code yX8_copyAt cX8_copyAt 3 (some .int)] ++ wsX80)
def wsX8_ones : List Cond := .code yX8_ones cX8_ones 3 (some .int) :: ([])
def wsX8_mayLend : List Cond := .code yX8_mayLend cX8_mayLend 5 (some .boolean) :: ([.methodLink RX8 51 yX8_copyAt, .instanceMethod yX8_copyAt, .selects RX8 yX8_copyAt yX8_copyAt, .initialized RX8, .code yX8_copyAt cX8_copyAt 3 (some .int), .fieldLink RX8 7 "LoanHouseModel" "st" "[I", .methodLink RX8 72 yX8_findHold, .instanceMethod yX8_findHold, .selects RX8 yX8_findHold yX8_findHold, .code yX8_findHold cX8_findHold 4 (some .int), .methodLink RX8 41 yX8_holdAt, .instanceMethod yX8_holdAt, .selects RX8 yX8_holdAt yX8_holdAt, .code yX8_holdAt cX8_holdAt 3 (some .int), .methodLink RX8 97 yX8_outsOf, .instanceMethod yX8_outsOf, .selects RX8 yX8_outsOf yX8_outsOf, .code yX8_outsOf cX8_outsOf 4 (some .int), .methodLink RX8 100 yX8_ones, .static yX8_ones, .code yX8_ones cX8_ones 3 (some .int)] ++ wsX80)
def wsX8_doLend_r1 : List Cond := [Cond.fieldLink RX8 7 "LoanHouseModel" "st" "[I", Cond.methodLink RX8 51 yX8_copyAt, Cond.instanceMethod yX8_copyAt, Cond.selects RX8 yX8_copyAt yX8_copyAt, Cond.initialized RX8, Cond.code yX8_copyAt cX8_copyAt 3 (some .int), Cond.methodLink RX8 72 yX8_findHold, Cond.instanceMethod yX8_findHold, Cond.selects RX8 yX8_findHold yX8_findHold, Cond.code yX8_findHold cX8_findHold 4 (some .int), Cond.methodLink RX8 41 yX8_holdAt, Cond.instanceMethod yX8_holdAt, Cond.selects RX8 yX8_holdAt yX8_holdAt, Cond.code yX8_holdAt cX8_holdAt 3 (some .int), Cond.methodLink RX8 75 yX8_removeHold, Cond.instanceMethod yX8_removeHold, Cond.selects RX8 yX8_removeHold yX8_removeHold, Cond.code yX8_removeHold cX8_removeHold 3 none, Cond.methodLink RX8 103 yX8_openDay, Cond.instanceMethod yX8_openDay, Cond.selects RX8 yX8_openDay yX8_openDay, Cond.code yX8_openDay cX8_openDay 3 (some .int), Cond.methodLink RX8 37 yX8_isClosed, Cond.instanceMethod yX8_isClosed]
def wsX8_doLend_r2 : List Cond := [Cond.selects RX8 yX8_isClosed yX8_isClosed, Cond.code yX8_isClosed cX8_isClosed 2 (some .boolean), Cond.methodLink RX8 33 yX8_has, Cond.static yX8_has, Cond.code yX8_has cX8_has 2 (some .boolean), Cond.methodLink RX8 57 yX8_setCopy, Cond.instanceMethod yX8_setCopy, Cond.selects RX8 yX8_setCopy yX8_setCopy, Cond.code yX8_setCopy cX8_setCopy 5 none, Cond.methodLink RX8 79 yX8_serve, Cond.instanceMethod yX8_serve, Cond.selects RX8 yX8_serve yX8_serve, Cond.code yX8_serve cX8_serve 5 none, Cond.methodLink RX8 61 yX8_firstOf, Cond.instanceMethod yX8_firstOf, Cond.selects RX8 yX8_firstOf yX8_firstOf, Cond.code yX8_firstOf cX8_firstOf 4 (some .int), Cond.methodLink RX8 45 yX8_waitsFor, Cond.instanceMethod yX8_waitsFor, Cond.selects RX8 yX8_waitsFor yX8_waitsFor, Cond.code yX8_waitsFor cX8_waitsFor 3 (some .boolean), Cond.methodLink RX8 48 yX8_isAhead, Cond.instanceMethod yX8_isAhead, Cond.selects RX8 yX8_isAhead yX8_isAhead]
def wsX8_doLend_r3 : List Cond := [Cond.code yX8_isAhead cX8_isAhead 3 (some .boolean), Cond.methodLink RX8 65 yX8_nearest, Cond.instanceMethod yX8_nearest, Cond.selects RX8 yX8_nearest yX8_nearest, Cond.code yX8_nearest cX8_nearest 7 (some .int), Cond.methodLink RX8 54 yX8_wayOf, Cond.static yX8_wayOf, Cond.code yX8_wayOf cX8_wayOf 3 (some .int), Cond.methodLink RX8 68 yX8_give, Cond.instanceMethod yX8_give, Cond.selects RX8 yX8_give yX8_give, Cond.code yX8_give cX8_give 6 none]
def wsX8_doLend : List Cond := .code yX8_doLend cX8_doLend 3 none :: ((wsX8_doLend_r1 ++ (wsX8_doLend_r2 ++ wsX8_doLend_r3)) ++ wsX80)
def wsX8_lend_r1 : List Cond := [Cond.constant RX8 92 (-1000000001), Cond.constant RX8 115 (-1000000003), Cond.methodLink RX8 106 yX8_isCopy, Cond.instanceMethod yX8_isCopy, Cond.selects RX8 yX8_isCopy yX8_isCopy, Cond.initialized RX8, Cond.code yX8_isCopy cX8_isCopy 2 (some .boolean), Cond.fieldLink RX8 7 "LoanHouseModel" "st" "[I", Cond.methodLink RX8 23 yX8_in, Cond.static yX8_in, Cond.code yX8_in cX8_in 6 (some .boolean), Cond.methodLink RX8 109 yX8_isReader, Cond.static yX8_isReader, Cond.code yX8_isReader cX8_isReader 1 (some .boolean), Cond.constantLong RX8 31 (9), Cond.methodLink RX8 112 yX8_mayLend, Cond.instanceMethod yX8_mayLend, Cond.selects RX8 yX8_mayLend yX8_mayLend, Cond.code yX8_mayLend cX8_mayLend 5 (some .boolean), Cond.methodLink RX8 51 yX8_copyAt, Cond.instanceMethod yX8_copyAt, Cond.selects RX8 yX8_copyAt yX8_copyAt, Cond.code yX8_copyAt cX8_copyAt 3 (some .int), Cond.methodLink RX8 72 yX8_findHold]
def wsX8_lend_r2 : List Cond := [Cond.instanceMethod yX8_findHold, Cond.selects RX8 yX8_findHold yX8_findHold, Cond.code yX8_findHold cX8_findHold 4 (some .int), Cond.methodLink RX8 41 yX8_holdAt, Cond.instanceMethod yX8_holdAt, Cond.selects RX8 yX8_holdAt yX8_holdAt, Cond.code yX8_holdAt cX8_holdAt 3 (some .int), Cond.methodLink RX8 97 yX8_outsOf, Cond.instanceMethod yX8_outsOf, Cond.selects RX8 yX8_outsOf yX8_outsOf, Cond.code yX8_outsOf cX8_outsOf 4 (some .int), Cond.methodLink RX8 100 yX8_ones, Cond.static yX8_ones, Cond.code yX8_ones cX8_ones 3 (some .int), Cond.methodLink RX8 94 yX8_note, Cond.instanceMethod yX8_note, Cond.selects RX8 yX8_note yX8_note, Cond.code yX8_note cX8_note 2 none, Cond.fieldLink RX8 82 "LoanHouseModel" "undoMany" "I", Cond.fieldLink RX8 13 "LoanHouseModel" "past" "[I", Cond.methodLink RX8 116 yX8_doLend, Cond.instanceMethod yX8_doLend, Cond.selects RX8 yX8_doLend yX8_doLend, Cond.code yX8_doLend cX8_doLend 3 none]
def wsX8_lend_r3 : List Cond := [Cond.methodLink RX8 75 yX8_removeHold, Cond.instanceMethod yX8_removeHold, Cond.selects RX8 yX8_removeHold yX8_removeHold, Cond.code yX8_removeHold cX8_removeHold 3 none, Cond.methodLink RX8 103 yX8_openDay, Cond.instanceMethod yX8_openDay, Cond.selects RX8 yX8_openDay yX8_openDay, Cond.code yX8_openDay cX8_openDay 3 (some .int), Cond.methodLink RX8 37 yX8_isClosed, Cond.instanceMethod yX8_isClosed, Cond.selects RX8 yX8_isClosed yX8_isClosed, Cond.code yX8_isClosed cX8_isClosed 2 (some .boolean), Cond.methodLink RX8 33 yX8_has, Cond.static yX8_has, Cond.code yX8_has cX8_has 2 (some .boolean), Cond.methodLink RX8 57 yX8_setCopy, Cond.instanceMethod yX8_setCopy, Cond.selects RX8 yX8_setCopy yX8_setCopy, Cond.code yX8_setCopy cX8_setCopy 5 none, Cond.methodLink RX8 79 yX8_serve, Cond.instanceMethod yX8_serve, Cond.selects RX8 yX8_serve yX8_serve, Cond.code yX8_serve cX8_serve 5 none, Cond.methodLink RX8 61 yX8_firstOf]
def wsX8_lend_r4 : List Cond := [Cond.instanceMethod yX8_firstOf, Cond.selects RX8 yX8_firstOf yX8_firstOf, Cond.code yX8_firstOf cX8_firstOf 4 (some .int), Cond.methodLink RX8 45 yX8_waitsFor, Cond.instanceMethod yX8_waitsFor, Cond.selects RX8 yX8_waitsFor yX8_waitsFor, Cond.code yX8_waitsFor cX8_waitsFor 3 (some .boolean), Cond.methodLink RX8 48 yX8_isAhead, Cond.instanceMethod yX8_isAhead, Cond.selects RX8 yX8_isAhead yX8_isAhead, Cond.code yX8_isAhead cX8_isAhead 3 (some .boolean), Cond.methodLink RX8 65 yX8_nearest, Cond.instanceMethod yX8_nearest, Cond.selects RX8 yX8_nearest yX8_nearest, Cond.code yX8_nearest cX8_nearest 7 (some .int), Cond.methodLink RX8 54 yX8_wayOf, Cond.static yX8_wayOf, Cond.code yX8_wayOf cX8_wayOf 3 (some .int), Cond.methodLink RX8 68 yX8_give, Cond.instanceMethod yX8_give, Cond.selects RX8 yX8_give yX8_give, Cond.code yX8_give cX8_give 6 none]
def wsX8_lend : List Cond := .code yX8_lend cX8_lend 3 (some .int) :: ((wsX8_lend_r1 ++ (wsX8_lend_r2 ++ (wsX8_lend_r3 ++ wsX8_lend_r4))) ++ wsX80)
def wsX8_stepOf : List Cond := .code yX8_stepOf cX8_stepOf 4 (some .int) :: ([.fieldLink RX8 7 "LoanHouseModel" "st" "[I", .methodLink RX8 51 yX8_copyAt, .instanceMethod yX8_copyAt, .selects RX8 yX8_copyAt yX8_copyAt, .initialized RX8, .code yX8_copyAt cX8_copyAt 3 (some .int)] ++ wsX80)
def wsX8_mayGiveBack : List Cond := .code yX8_mayGiveBack cX8_mayGiveBack 2 (some .boolean) :: ([.methodLink RX8 51 yX8_copyAt, .instanceMethod yX8_copyAt, .selects RX8 yX8_copyAt yX8_copyAt, .initialized RX8, .code yX8_copyAt cX8_copyAt 3 (some .int), .fieldLink RX8 7 "LoanHouseModel" "st" "[I"] ++ wsX80)
def wsX8_doGiveBack_r1 : List Cond := [Cond.fieldLink RX8 7 "LoanHouseModel" "st" "[I", Cond.methodLink RX8 57 yX8_setCopy, Cond.instanceMethod yX8_setCopy, Cond.selects RX8 yX8_setCopy yX8_setCopy, Cond.initialized RX8, Cond.code yX8_setCopy cX8_setCopy 5 none, Cond.methodLink RX8 79 yX8_serve, Cond.instanceMethod yX8_serve, Cond.selects RX8 yX8_serve yX8_serve, Cond.code yX8_serve cX8_serve 5 none, Cond.methodLink RX8 61 yX8_firstOf, Cond.instanceMethod yX8_firstOf, Cond.selects RX8 yX8_firstOf yX8_firstOf, Cond.code yX8_firstOf cX8_firstOf 4 (some .int), Cond.methodLink RX8 45 yX8_waitsFor, Cond.instanceMethod yX8_waitsFor, Cond.selects RX8 yX8_waitsFor yX8_waitsFor, Cond.code yX8_waitsFor cX8_waitsFor 3 (some .boolean), Cond.methodLink RX8 41 yX8_holdAt, Cond.instanceMethod yX8_holdAt, Cond.selects RX8 yX8_holdAt yX8_holdAt, Cond.code yX8_holdAt cX8_holdAt 3 (some .int), Cond.methodLink RX8 48 yX8_isAhead, Cond.instanceMethod yX8_isAhead]
def wsX8_doGiveBack_r2 : List Cond := [Cond.selects RX8 yX8_isAhead yX8_isAhead, Cond.code yX8_isAhead cX8_isAhead 3 (some .boolean), Cond.methodLink RX8 65 yX8_nearest, Cond.instanceMethod yX8_nearest, Cond.selects RX8 yX8_nearest yX8_nearest, Cond.code yX8_nearest cX8_nearest 7 (some .int), Cond.methodLink RX8 51 yX8_copyAt, Cond.instanceMethod yX8_copyAt, Cond.selects RX8 yX8_copyAt yX8_copyAt, Cond.code yX8_copyAt cX8_copyAt 3 (some .int), Cond.methodLink RX8 54 yX8_wayOf, Cond.static yX8_wayOf, Cond.code yX8_wayOf cX8_wayOf 3 (some .int), Cond.methodLink RX8 68 yX8_give, Cond.instanceMethod yX8_give, Cond.selects RX8 yX8_give yX8_give, Cond.code yX8_give cX8_give 6 none]
def wsX8_doGiveBack : List Cond := .code yX8_doGiveBack cX8_doGiveBack 3 none :: ((wsX8_doGiveBack_r1 ++ wsX8_doGiveBack_r2) ++ wsX80)
def wsX8_giveBack_r1 : List Cond := [Cond.constant RX8 92 (-1000000001), Cond.constant RX8 115 (-1000000003), Cond.methodLink RX8 106 yX8_isCopy, Cond.instanceMethod yX8_isCopy, Cond.selects RX8 yX8_isCopy yX8_isCopy, Cond.initialized RX8, Cond.code yX8_isCopy cX8_isCopy 2 (some .boolean), Cond.fieldLink RX8 7 "LoanHouseModel" "st" "[I", Cond.methodLink RX8 23 yX8_in, Cond.static yX8_in, Cond.code yX8_in cX8_in 6 (some .boolean), Cond.methodLink RX8 89 yX8_isBranch, Cond.static yX8_isBranch, Cond.code yX8_isBranch cX8_isBranch 1 (some .boolean), Cond.constantLong RX8 27 (3), Cond.methodLink RX8 119 yX8_mayGiveBack, Cond.instanceMethod yX8_mayGiveBack, Cond.selects RX8 yX8_mayGiveBack yX8_mayGiveBack, Cond.code yX8_mayGiveBack cX8_mayGiveBack 2 (some .boolean), Cond.methodLink RX8 51 yX8_copyAt, Cond.instanceMethod yX8_copyAt, Cond.selects RX8 yX8_copyAt yX8_copyAt, Cond.code yX8_copyAt cX8_copyAt 3 (some .int), Cond.methodLink RX8 94 yX8_note]
def wsX8_giveBack_r2 : List Cond := [Cond.instanceMethod yX8_note, Cond.selects RX8 yX8_note yX8_note, Cond.code yX8_note cX8_note 2 none, Cond.fieldLink RX8 82 "LoanHouseModel" "undoMany" "I", Cond.fieldLink RX8 13 "LoanHouseModel" "past" "[I", Cond.methodLink RX8 122 yX8_stepOf, Cond.instanceMethod yX8_stepOf, Cond.selects RX8 yX8_stepOf yX8_stepOf, Cond.code yX8_stepOf cX8_stepOf 4 (some .int), Cond.methodLink RX8 125 yX8_doGiveBack, Cond.instanceMethod yX8_doGiveBack, Cond.selects RX8 yX8_doGiveBack yX8_doGiveBack, Cond.code yX8_doGiveBack cX8_doGiveBack 3 none, Cond.methodLink RX8 57 yX8_setCopy, Cond.instanceMethod yX8_setCopy, Cond.selects RX8 yX8_setCopy yX8_setCopy, Cond.code yX8_setCopy cX8_setCopy 5 none, Cond.methodLink RX8 79 yX8_serve, Cond.instanceMethod yX8_serve, Cond.selects RX8 yX8_serve yX8_serve, Cond.code yX8_serve cX8_serve 5 none, Cond.methodLink RX8 61 yX8_firstOf, Cond.instanceMethod yX8_firstOf, Cond.selects RX8 yX8_firstOf yX8_firstOf]
def wsX8_giveBack_r3 : List Cond := [Cond.code yX8_firstOf cX8_firstOf 4 (some .int), Cond.methodLink RX8 45 yX8_waitsFor, Cond.instanceMethod yX8_waitsFor, Cond.selects RX8 yX8_waitsFor yX8_waitsFor, Cond.code yX8_waitsFor cX8_waitsFor 3 (some .boolean), Cond.methodLink RX8 41 yX8_holdAt, Cond.instanceMethod yX8_holdAt, Cond.selects RX8 yX8_holdAt yX8_holdAt, Cond.code yX8_holdAt cX8_holdAt 3 (some .int), Cond.methodLink RX8 48 yX8_isAhead, Cond.instanceMethod yX8_isAhead, Cond.selects RX8 yX8_isAhead yX8_isAhead, Cond.code yX8_isAhead cX8_isAhead 3 (some .boolean), Cond.methodLink RX8 65 yX8_nearest, Cond.instanceMethod yX8_nearest, Cond.selects RX8 yX8_nearest yX8_nearest, Cond.code yX8_nearest cX8_nearest 7 (some .int), Cond.methodLink RX8 54 yX8_wayOf, Cond.static yX8_wayOf, Cond.code yX8_wayOf cX8_wayOf 3 (some .int), Cond.methodLink RX8 68 yX8_give, Cond.instanceMethod yX8_give, Cond.selects RX8 yX8_give yX8_give, Cond.code yX8_give cX8_give 6 none]
def wsX8_giveBack : List Cond := .code yX8_giveBack cX8_giveBack 4 (some .int) :: ((wsX8_giveBack_r1 ++ (wsX8_giveBack_r2 ++ wsX8_giveBack_r3)) ++ wsX80)
def wsX8_renew_r1 : List Cond := [Cond.constant RX8 92 (-1000000001), Cond.constant RX8 115 (-1000000003), Cond.fieldLink RX8 7 "LoanHouseModel" "st" "[I", Cond.methodLink RX8 106 yX8_isCopy, Cond.instanceMethod yX8_isCopy, Cond.selects RX8 yX8_isCopy yX8_isCopy, Cond.initialized RX8, Cond.code yX8_isCopy cX8_isCopy 2 (some .boolean), Cond.methodLink RX8 23 yX8_in, Cond.static yX8_in, Cond.code yX8_in cX8_in 6 (some .boolean), Cond.methodLink RX8 51 yX8_copyAt, Cond.instanceMethod yX8_copyAt, Cond.selects RX8 yX8_copyAt yX8_copyAt, Cond.code yX8_copyAt cX8_copyAt 3 (some .int), Cond.methodLink RX8 128 yX8_rowOf, Cond.instanceMethod yX8_rowOf, Cond.selects RX8 yX8_rowOf yX8_rowOf, Cond.code yX8_rowOf cX8_rowOf 4 (some .int), Cond.methodLink RX8 45 yX8_waitsFor, Cond.instanceMethod yX8_waitsFor, Cond.selects RX8 yX8_waitsFor yX8_waitsFor, Cond.code yX8_waitsFor cX8_waitsFor 3 (some .boolean), Cond.methodLink RX8 41 yX8_holdAt]
def wsX8_renew_r2 : List Cond := [Cond.instanceMethod yX8_holdAt, Cond.selects RX8 yX8_holdAt yX8_holdAt, Cond.code yX8_holdAt cX8_holdAt 3 (some .int), Cond.methodLink RX8 94 yX8_note, Cond.instanceMethod yX8_note, Cond.selects RX8 yX8_note yX8_note, Cond.code yX8_note cX8_note 2 none, Cond.fieldLink RX8 82 "LoanHouseModel" "undoMany" "I", Cond.fieldLink RX8 13 "LoanHouseModel" "past" "[I", Cond.methodLink RX8 103 yX8_openDay, Cond.instanceMethod yX8_openDay, Cond.selects RX8 yX8_openDay yX8_openDay, Cond.code yX8_openDay cX8_openDay 3 (some .int), Cond.methodLink RX8 37 yX8_isClosed, Cond.instanceMethod yX8_isClosed, Cond.selects RX8 yX8_isClosed yX8_isClosed, Cond.code yX8_isClosed cX8_isClosed 2 (some .boolean), Cond.methodLink RX8 33 yX8_has, Cond.static yX8_has, Cond.code yX8_has cX8_has 2 (some .boolean), Cond.methodLink RX8 57 yX8_setCopy, Cond.instanceMethod yX8_setCopy, Cond.selects RX8 yX8_setCopy yX8_setCopy, Cond.code yX8_setCopy cX8_setCopy 5 none]
def wsX8_renew : List Cond := .code yX8_renew cX8_renew 3 (some .int) :: ((wsX8_renew_r1 ++ wsX8_renew_r2) ++ wsX80)
def wsX8_lose_r1 : List Cond := [Cond.constant RX8 92 (-1000000001), Cond.constant RX8 115 (-1000000003), Cond.fieldLink RX8 7 "LoanHouseModel" "st" "[I", Cond.methodLink RX8 106 yX8_isCopy, Cond.instanceMethod yX8_isCopy, Cond.selects RX8 yX8_isCopy yX8_isCopy, Cond.initialized RX8, Cond.code yX8_isCopy cX8_isCopy 2 (some .boolean), Cond.methodLink RX8 23 yX8_in, Cond.static yX8_in, Cond.code yX8_in cX8_in 6 (some .boolean), Cond.methodLink RX8 51 yX8_copyAt, Cond.instanceMethod yX8_copyAt, Cond.selects RX8 yX8_copyAt yX8_copyAt, Cond.code yX8_copyAt cX8_copyAt 3 (some .int), Cond.methodLink RX8 94 yX8_note, Cond.instanceMethod yX8_note, Cond.selects RX8 yX8_note yX8_note, Cond.code yX8_note cX8_note 2 none, Cond.fieldLink RX8 82 "LoanHouseModel" "undoMany" "I", Cond.fieldLink RX8 13 "LoanHouseModel" "past" "[I", Cond.methodLink RX8 72 yX8_findHold, Cond.instanceMethod yX8_findHold, Cond.selects RX8 yX8_findHold yX8_findHold]
def wsX8_lose_r2 : List Cond := [Cond.code yX8_findHold cX8_findHold 4 (some .int), Cond.methodLink RX8 41 yX8_holdAt, Cond.instanceMethod yX8_holdAt, Cond.selects RX8 yX8_holdAt yX8_holdAt, Cond.code yX8_holdAt cX8_holdAt 3 (some .int), Cond.methodLink RX8 57 yX8_setCopy, Cond.instanceMethod yX8_setCopy, Cond.selects RX8 yX8_setCopy yX8_setCopy, Cond.code yX8_setCopy cX8_setCopy 5 none, Cond.methodLink RX8 79 yX8_serve, Cond.instanceMethod yX8_serve, Cond.selects RX8 yX8_serve yX8_serve, Cond.code yX8_serve cX8_serve 5 none, Cond.methodLink RX8 61 yX8_firstOf, Cond.instanceMethod yX8_firstOf, Cond.selects RX8 yX8_firstOf yX8_firstOf, Cond.code yX8_firstOf cX8_firstOf 4 (some .int), Cond.methodLink RX8 45 yX8_waitsFor, Cond.instanceMethod yX8_waitsFor, Cond.selects RX8 yX8_waitsFor yX8_waitsFor, Cond.code yX8_waitsFor cX8_waitsFor 3 (some .boolean), Cond.methodLink RX8 48 yX8_isAhead, Cond.instanceMethod yX8_isAhead, Cond.selects RX8 yX8_isAhead yX8_isAhead]
def wsX8_lose_r3 : List Cond := [Cond.code yX8_isAhead cX8_isAhead 3 (some .boolean), Cond.methodLink RX8 65 yX8_nearest, Cond.instanceMethod yX8_nearest, Cond.selects RX8 yX8_nearest yX8_nearest, Cond.code yX8_nearest cX8_nearest 7 (some .int), Cond.methodLink RX8 54 yX8_wayOf, Cond.static yX8_wayOf, Cond.code yX8_wayOf cX8_wayOf 3 (some .int), Cond.methodLink RX8 68 yX8_give, Cond.instanceMethod yX8_give, Cond.selects RX8 yX8_give yX8_give, Cond.code yX8_give cX8_give 6 none]
def wsX8_lose : List Cond := .code yX8_lose cX8_lose 3 (some .int) :: ((wsX8_lose_r1 ++ (wsX8_lose_r2 ++ wsX8_lose_r3)) ++ wsX80)
def wsX8_mayHold : List Cond := .code yX8_mayHold cX8_mayHold 5 (some .boolean) :: ([.fieldLink RX8 7 "LoanHouseModel" "st" "[I", .methodLink RX8 41 yX8_holdAt, .instanceMethod yX8_holdAt, .selects RX8 yX8_holdAt yX8_holdAt, .initialized RX8, .code yX8_holdAt cX8_holdAt 3 (some .int), .methodLink RX8 51 yX8_copyAt, .instanceMethod yX8_copyAt, .selects RX8 yX8_copyAt yX8_copyAt, .code yX8_copyAt cX8_copyAt 3 (some .int), .methodLink RX8 97 yX8_outsOf, .instanceMethod yX8_outsOf, .selects RX8 yX8_outsOf yX8_outsOf, .code yX8_outsOf cX8_outsOf 4 (some .int), .methodLink RX8 33 yX8_has, .static yX8_has, .code yX8_has cX8_has 2 (some .boolean)] ++ wsX80)
def wsX8_doHold_r1 : List Cond := [Cond.fieldLink RX8 7 "LoanHouseModel" "st" "[I", Cond.methodLink RX8 79 yX8_serve, Cond.instanceMethod yX8_serve, Cond.selects RX8 yX8_serve yX8_serve, Cond.initialized RX8, Cond.code yX8_serve cX8_serve 5 none, Cond.methodLink RX8 61 yX8_firstOf, Cond.instanceMethod yX8_firstOf, Cond.selects RX8 yX8_firstOf yX8_firstOf, Cond.code yX8_firstOf cX8_firstOf 4 (some .int), Cond.methodLink RX8 45 yX8_waitsFor, Cond.instanceMethod yX8_waitsFor, Cond.selects RX8 yX8_waitsFor yX8_waitsFor, Cond.code yX8_waitsFor cX8_waitsFor 3 (some .boolean), Cond.methodLink RX8 41 yX8_holdAt, Cond.instanceMethod yX8_holdAt, Cond.selects RX8 yX8_holdAt yX8_holdAt, Cond.code yX8_holdAt cX8_holdAt 3 (some .int), Cond.methodLink RX8 48 yX8_isAhead, Cond.instanceMethod yX8_isAhead, Cond.selects RX8 yX8_isAhead yX8_isAhead, Cond.code yX8_isAhead cX8_isAhead 3 (some .boolean), Cond.methodLink RX8 65 yX8_nearest, Cond.instanceMethod yX8_nearest]
def wsX8_doHold_r2 : List Cond := [Cond.selects RX8 yX8_nearest yX8_nearest, Cond.code yX8_nearest cX8_nearest 7 (some .int), Cond.methodLink RX8 51 yX8_copyAt, Cond.instanceMethod yX8_copyAt, Cond.selects RX8 yX8_copyAt yX8_copyAt, Cond.code yX8_copyAt cX8_copyAt 3 (some .int), Cond.methodLink RX8 54 yX8_wayOf, Cond.static yX8_wayOf, Cond.code yX8_wayOf cX8_wayOf 3 (some .int), Cond.methodLink RX8 68 yX8_give, Cond.instanceMethod yX8_give, Cond.selects RX8 yX8_give yX8_give, Cond.code yX8_give cX8_give 6 none, Cond.methodLink RX8 57 yX8_setCopy, Cond.instanceMethod yX8_setCopy, Cond.selects RX8 yX8_setCopy yX8_setCopy, Cond.code yX8_setCopy cX8_setCopy 5 none]
def wsX8_doHold : List Cond := .code yX8_doHold cX8_doHold 7 (some .int) :: ((wsX8_doHold_r1 ++ wsX8_doHold_r2) ++ wsX80)
def wsX8_hold_r1 : List Cond := [Cond.constant RX8 92 (-1000000001), Cond.constantLong RX8 27 (3), Cond.constant RX8 131 (-1000000002), Cond.constant RX8 115 (-1000000003), Cond.fieldLink RX8 7 "LoanHouseModel" "st" "[I", Cond.constant RX8 93 (-1000000004), Cond.methodLink RX8 109 yX8_isReader, Cond.static yX8_isReader, Cond.initialized RX8, Cond.code yX8_isReader cX8_isReader 1 (some .boolean), Cond.constantLong RX8 31 (9), Cond.methodLink RX8 23 yX8_in, Cond.static yX8_in, Cond.code yX8_in cX8_in 6 (some .boolean), Cond.methodLink RX8 86 yX8_isTitle, Cond.static yX8_isTitle, Cond.code yX8_isTitle cX8_isTitle 1 (some .boolean), Cond.constantLong RX8 29 (5), Cond.methodLink RX8 89 yX8_isBranch, Cond.static yX8_isBranch, Cond.code yX8_isBranch cX8_isBranch 1 (some .boolean), Cond.methodLink RX8 132 yX8_mayHold, Cond.instanceMethod yX8_mayHold, Cond.selects RX8 yX8_mayHold yX8_mayHold]
def wsX8_hold_r2 : List Cond := [Cond.code yX8_mayHold cX8_mayHold 5 (some .boolean), Cond.methodLink RX8 41 yX8_holdAt, Cond.instanceMethod yX8_holdAt, Cond.selects RX8 yX8_holdAt yX8_holdAt, Cond.code yX8_holdAt cX8_holdAt 3 (some .int), Cond.methodLink RX8 51 yX8_copyAt, Cond.instanceMethod yX8_copyAt, Cond.selects RX8 yX8_copyAt yX8_copyAt, Cond.code yX8_copyAt cX8_copyAt 3 (some .int), Cond.methodLink RX8 97 yX8_outsOf, Cond.instanceMethod yX8_outsOf, Cond.selects RX8 yX8_outsOf yX8_outsOf, Cond.code yX8_outsOf cX8_outsOf 4 (some .int), Cond.methodLink RX8 33 yX8_has, Cond.static yX8_has, Cond.code yX8_has cX8_has 2 (some .boolean), Cond.methodLink RX8 94 yX8_note, Cond.instanceMethod yX8_note, Cond.selects RX8 yX8_note yX8_note, Cond.code yX8_note cX8_note 2 none, Cond.fieldLink RX8 82 "LoanHouseModel" "undoMany" "I", Cond.fieldLink RX8 13 "LoanHouseModel" "past" "[I", Cond.methodLink RX8 135 yX8_doHold, Cond.instanceMethod yX8_doHold]
def wsX8_hold_r3 : List Cond := [Cond.selects RX8 yX8_doHold yX8_doHold, Cond.code yX8_doHold cX8_doHold 7 (some .int), Cond.methodLink RX8 79 yX8_serve, Cond.instanceMethod yX8_serve, Cond.selects RX8 yX8_serve yX8_serve, Cond.code yX8_serve cX8_serve 5 none, Cond.methodLink RX8 61 yX8_firstOf, Cond.instanceMethod yX8_firstOf, Cond.selects RX8 yX8_firstOf yX8_firstOf, Cond.code yX8_firstOf cX8_firstOf 4 (some .int), Cond.methodLink RX8 45 yX8_waitsFor, Cond.instanceMethod yX8_waitsFor, Cond.selects RX8 yX8_waitsFor yX8_waitsFor, Cond.code yX8_waitsFor cX8_waitsFor 3 (some .boolean), Cond.methodLink RX8 48 yX8_isAhead, Cond.instanceMethod yX8_isAhead, Cond.selects RX8 yX8_isAhead yX8_isAhead, Cond.code yX8_isAhead cX8_isAhead 3 (some .boolean), Cond.methodLink RX8 65 yX8_nearest, Cond.instanceMethod yX8_nearest, Cond.selects RX8 yX8_nearest yX8_nearest, Cond.code yX8_nearest cX8_nearest 7 (some .int), Cond.methodLink RX8 54 yX8_wayOf, Cond.static yX8_wayOf]
def wsX8_hold_r4 : List Cond := [Cond.code yX8_wayOf cX8_wayOf 3 (some .int), Cond.methodLink RX8 68 yX8_give, Cond.instanceMethod yX8_give, Cond.selects RX8 yX8_give yX8_give, Cond.code yX8_give cX8_give 6 none, Cond.methodLink RX8 57 yX8_setCopy, Cond.instanceMethod yX8_setCopy, Cond.selects RX8 yX8_setCopy yX8_setCopy, Cond.code yX8_setCopy cX8_setCopy 5 none]
def wsX8_hold : List Cond := .code yX8_hold cX8_hold 5 (some .int) :: ((wsX8_hold_r1 ++ (wsX8_hold_r2 ++ (wsX8_hold_r3 ++ wsX8_hold_r4))) ++ wsX80)
def wsX8_copyFor : List Cond := .code yX8_copyFor cX8_copyFor 5 (some .int) :: ([.fieldLink RX8 7 "LoanHouseModel" "st" "[I", .methodLink RX8 51 yX8_copyAt, .instanceMethod yX8_copyAt, .selects RX8 yX8_copyAt yX8_copyAt, .initialized RX8, .code yX8_copyAt cX8_copyAt 3 (some .int), .methodLink RX8 41 yX8_holdAt, .instanceMethod yX8_holdAt, .selects RX8 yX8_holdAt yX8_holdAt, .code yX8_holdAt cX8_holdAt 3 (some .int)] ++ wsX80)
def wsX8_giveUp_r1 : List Cond := [Cond.constant RX8 92 (-1000000001), Cond.fieldLink RX8 7 "LoanHouseModel" "st" "[I", Cond.methodLink RX8 72 yX8_findHold, Cond.instanceMethod yX8_findHold, Cond.selects RX8 yX8_findHold yX8_findHold, Cond.initialized RX8, Cond.code yX8_findHold cX8_findHold 4 (some .int), Cond.methodLink RX8 41 yX8_holdAt, Cond.instanceMethod yX8_holdAt, Cond.selects RX8 yX8_holdAt yX8_holdAt, Cond.code yX8_holdAt cX8_holdAt 3 (some .int), Cond.methodLink RX8 94 yX8_note, Cond.instanceMethod yX8_note, Cond.selects RX8 yX8_note yX8_note, Cond.code yX8_note cX8_note 2 none, Cond.fieldLink RX8 82 "LoanHouseModel" "undoMany" "I", Cond.fieldLink RX8 13 "LoanHouseModel" "past" "[I", Cond.methodLink RX8 139 yX8_copyFor, Cond.instanceMethod yX8_copyFor, Cond.selects RX8 yX8_copyFor yX8_copyFor, Cond.code yX8_copyFor cX8_copyFor 5 (some .int), Cond.methodLink RX8 51 yX8_copyAt, Cond.instanceMethod yX8_copyAt, Cond.selects RX8 yX8_copyAt yX8_copyAt]
def wsX8_giveUp_r2 : List Cond := [Cond.code yX8_copyAt cX8_copyAt 3 (some .int), Cond.methodLink RX8 57 yX8_setCopy, Cond.instanceMethod yX8_setCopy, Cond.selects RX8 yX8_setCopy yX8_setCopy, Cond.code yX8_setCopy cX8_setCopy 5 none, Cond.methodLink RX8 75 yX8_removeHold, Cond.instanceMethod yX8_removeHold, Cond.selects RX8 yX8_removeHold yX8_removeHold, Cond.code yX8_removeHold cX8_removeHold 3 none, Cond.methodLink RX8 79 yX8_serve, Cond.instanceMethod yX8_serve, Cond.selects RX8 yX8_serve yX8_serve, Cond.code yX8_serve cX8_serve 5 none, Cond.methodLink RX8 61 yX8_firstOf, Cond.instanceMethod yX8_firstOf, Cond.selects RX8 yX8_firstOf yX8_firstOf, Cond.code yX8_firstOf cX8_firstOf 4 (some .int), Cond.methodLink RX8 45 yX8_waitsFor, Cond.instanceMethod yX8_waitsFor, Cond.selects RX8 yX8_waitsFor yX8_waitsFor, Cond.code yX8_waitsFor cX8_waitsFor 3 (some .boolean), Cond.methodLink RX8 48 yX8_isAhead, Cond.instanceMethod yX8_isAhead, Cond.selects RX8 yX8_isAhead yX8_isAhead]
def wsX8_giveUp_r3 : List Cond := [Cond.code yX8_isAhead cX8_isAhead 3 (some .boolean), Cond.methodLink RX8 65 yX8_nearest, Cond.instanceMethod yX8_nearest, Cond.selects RX8 yX8_nearest yX8_nearest, Cond.code yX8_nearest cX8_nearest 7 (some .int), Cond.methodLink RX8 54 yX8_wayOf, Cond.static yX8_wayOf, Cond.code yX8_wayOf cX8_wayOf 3 (some .int), Cond.methodLink RX8 68 yX8_give, Cond.instanceMethod yX8_give, Cond.selects RX8 yX8_give yX8_give, Cond.code yX8_give cX8_give 6 none]
def wsX8_giveUp : List Cond := .code yX8_giveUp cX8_giveUp 4 (some .int) :: ((wsX8_giveUp_r1 ++ (wsX8_giveUp_r2 ++ wsX8_giveUp_r3)) ++ wsX80)
def wsX8_pass_r1 : List Cond := [Cond.constantLong RX8 142 (30), Cond.constant RX8 131 (-1000000002), Cond.fieldLink RX8 7 "LoanHouseModel" "st" "[I", Cond.constant RX8 115 (-1000000003), Cond.methodLink RX8 23 yX8_in, Cond.static yX8_in, Cond.initialized RX8, Cond.code yX8_in cX8_in 6 (some .boolean), Cond.methodLink RX8 94 yX8_note, Cond.instanceMethod yX8_note, Cond.selects RX8 yX8_note yX8_note, Cond.code yX8_note cX8_note 2 none, Cond.fieldLink RX8 82 "LoanHouseModel" "undoMany" "I", Cond.fieldLink RX8 13 "LoanHouseModel" "past" "[I", Cond.methodLink RX8 144 yX8_passDay, Cond.instanceMethod yX8_passDay, Cond.selects RX8 yX8_passDay yX8_passDay, Cond.code yX8_passDay cX8_passDay 2 none, Cond.methodLink RX8 51 yX8_copyAt, Cond.instanceMethod yX8_copyAt, Cond.selects RX8 yX8_copyAt yX8_copyAt, Cond.code yX8_copyAt cX8_copyAt 3 (some .int), Cond.methodLink RX8 72 yX8_findHold, Cond.instanceMethod yX8_findHold]
def wsX8_pass_r2 : List Cond := [Cond.selects RX8 yX8_findHold yX8_findHold, Cond.code yX8_findHold cX8_findHold 4 (some .int), Cond.methodLink RX8 41 yX8_holdAt, Cond.instanceMethod yX8_holdAt, Cond.selects RX8 yX8_holdAt yX8_holdAt, Cond.code yX8_holdAt cX8_holdAt 3 (some .int), Cond.methodLink RX8 57 yX8_setCopy, Cond.instanceMethod yX8_setCopy, Cond.selects RX8 yX8_setCopy yX8_setCopy, Cond.code yX8_setCopy cX8_setCopy 5 none, Cond.methodLink RX8 75 yX8_removeHold, Cond.instanceMethod yX8_removeHold, Cond.selects RX8 yX8_removeHold yX8_removeHold, Cond.code yX8_removeHold cX8_removeHold 3 none, Cond.methodLink RX8 79 yX8_serve, Cond.instanceMethod yX8_serve, Cond.selects RX8 yX8_serve yX8_serve, Cond.code yX8_serve cX8_serve 5 none, Cond.methodLink RX8 61 yX8_firstOf, Cond.instanceMethod yX8_firstOf, Cond.selects RX8 yX8_firstOf yX8_firstOf, Cond.code yX8_firstOf cX8_firstOf 4 (some .int), Cond.methodLink RX8 45 yX8_waitsFor, Cond.instanceMethod yX8_waitsFor]
def wsX8_pass_r3 : List Cond := [Cond.selects RX8 yX8_waitsFor yX8_waitsFor, Cond.code yX8_waitsFor cX8_waitsFor 3 (some .boolean), Cond.methodLink RX8 48 yX8_isAhead, Cond.instanceMethod yX8_isAhead, Cond.selects RX8 yX8_isAhead yX8_isAhead, Cond.code yX8_isAhead cX8_isAhead 3 (some .boolean), Cond.methodLink RX8 65 yX8_nearest, Cond.instanceMethod yX8_nearest, Cond.selects RX8 yX8_nearest yX8_nearest, Cond.code yX8_nearest cX8_nearest 7 (some .int), Cond.methodLink RX8 54 yX8_wayOf, Cond.static yX8_wayOf, Cond.code yX8_wayOf cX8_wayOf 3 (some .int), Cond.methodLink RX8 68 yX8_give, Cond.instanceMethod yX8_give, Cond.selects RX8 yX8_give yX8_give, Cond.code yX8_give cX8_give 6 none]
def wsX8_pass : List Cond := .code yX8_pass cX8_pass 3 (some .int) :: ((wsX8_pass_r1 ++ (wsX8_pass_r2 ++ wsX8_pass_r3)) ++ wsX80)
def wsX8_set : List Cond := .code yX8_set cX8_set 4 (some .int) :: ([.constantLong RX8 147 (2), .constantLong RX8 149 (60), .constantLong RX8 151 (20), .constantLong RX8 153 (127), .constant RX8 131 (-1000000002), .fieldLink RX8 7 "LoanHouseModel" "st" "[I", .methodLink RX8 23 yX8_in, .static yX8_in, .initialized RX8, .code yX8_in cX8_in 6 (some .boolean), .methodLink RX8 94 yX8_note, .instanceMethod yX8_note, .selects RX8 yX8_note yX8_note, .code yX8_note cX8_note 2 none, .fieldLink RX8 82 "LoanHouseModel" "undoMany" "I", .fieldLink RX8 13 "LoanHouseModel" "past" "[I"] ++ wsX80)
def wsX8_lotOf : List Cond := .code yX8_lotOf cX8_lotOf 2 (some .int) :: ([.fieldLink RX8 155 "LoanHouseModel" "lot" "J", .constantLong RX8 159 (16807), .constantLong RX8 161 (2147483647)] ++ wsX80)
def wsX8_drawHold_r1 : List Cond := [Cond.fieldLink RX8 7 "LoanHouseModel" "st" "[I", Cond.methodLink RX8 163 yX8_lotOf, Cond.instanceMethod yX8_lotOf, Cond.selects RX8 yX8_lotOf yX8_lotOf, Cond.initialized RX8, Cond.code yX8_lotOf cX8_lotOf 2 (some .int), Cond.fieldLink RX8 155 "LoanHouseModel" "lot" "J", Cond.constantLong RX8 159 (16807), Cond.constantLong RX8 161 (2147483647), Cond.methodLink RX8 132 yX8_mayHold, Cond.instanceMethod yX8_mayHold, Cond.selects RX8 yX8_mayHold yX8_mayHold, Cond.code yX8_mayHold cX8_mayHold 5 (some .boolean), Cond.methodLink RX8 41 yX8_holdAt, Cond.instanceMethod yX8_holdAt, Cond.selects RX8 yX8_holdAt yX8_holdAt, Cond.code yX8_holdAt cX8_holdAt 3 (some .int), Cond.methodLink RX8 51 yX8_copyAt, Cond.instanceMethod yX8_copyAt, Cond.selects RX8 yX8_copyAt yX8_copyAt, Cond.code yX8_copyAt cX8_copyAt 3 (some .int), Cond.methodLink RX8 97 yX8_outsOf, Cond.instanceMethod yX8_outsOf, Cond.selects RX8 yX8_outsOf yX8_outsOf]
def wsX8_drawHold_r2 : List Cond := [Cond.code yX8_outsOf cX8_outsOf 4 (some .int), Cond.methodLink RX8 33 yX8_has, Cond.static yX8_has, Cond.code yX8_has cX8_has 2 (some .boolean), Cond.methodLink RX8 135 yX8_doHold, Cond.instanceMethod yX8_doHold, Cond.selects RX8 yX8_doHold yX8_doHold, Cond.code yX8_doHold cX8_doHold 7 (some .int), Cond.methodLink RX8 79 yX8_serve, Cond.instanceMethod yX8_serve, Cond.selects RX8 yX8_serve yX8_serve, Cond.code yX8_serve cX8_serve 5 none, Cond.methodLink RX8 61 yX8_firstOf, Cond.instanceMethod yX8_firstOf, Cond.selects RX8 yX8_firstOf yX8_firstOf, Cond.code yX8_firstOf cX8_firstOf 4 (some .int), Cond.methodLink RX8 45 yX8_waitsFor, Cond.instanceMethod yX8_waitsFor, Cond.selects RX8 yX8_waitsFor yX8_waitsFor, Cond.code yX8_waitsFor cX8_waitsFor 3 (some .boolean), Cond.methodLink RX8 48 yX8_isAhead, Cond.instanceMethod yX8_isAhead, Cond.selects RX8 yX8_isAhead yX8_isAhead, Cond.code yX8_isAhead cX8_isAhead 3 (some .boolean)]
def wsX8_drawHold_r3 : List Cond := [Cond.methodLink RX8 65 yX8_nearest, Cond.instanceMethod yX8_nearest, Cond.selects RX8 yX8_nearest yX8_nearest, Cond.code yX8_nearest cX8_nearest 7 (some .int), Cond.methodLink RX8 54 yX8_wayOf, Cond.static yX8_wayOf, Cond.code yX8_wayOf cX8_wayOf 3 (some .int), Cond.methodLink RX8 68 yX8_give, Cond.instanceMethod yX8_give, Cond.selects RX8 yX8_give yX8_give, Cond.code yX8_give cX8_give 6 none, Cond.methodLink RX8 57 yX8_setCopy, Cond.instanceMethod yX8_setCopy, Cond.selects RX8 yX8_setCopy yX8_setCopy, Cond.code yX8_setCopy cX8_setCopy 5 none]
def wsX8_drawHold : List Cond := .code yX8_drawHold cX8_drawHold 5 none :: ((wsX8_drawHold_r1 ++ (wsX8_drawHold_r2 ++ wsX8_drawHold_r3)) ++ wsX80)
def wsX8_drawCopy_r1 : List Cond := [Cond.fieldLink RX8 7 "LoanHouseModel" "st" "[I", Cond.methodLink RX8 163 yX8_lotOf, Cond.instanceMethod yX8_lotOf, Cond.selects RX8 yX8_lotOf yX8_lotOf, Cond.initialized RX8, Cond.code yX8_lotOf cX8_lotOf 2 (some .int), Cond.fieldLink RX8 155 "LoanHouseModel" "lot" "J", Cond.constantLong RX8 159 (16807), Cond.constantLong RX8 161 (2147483647), Cond.methodLink RX8 112 yX8_mayLend, Cond.instanceMethod yX8_mayLend, Cond.selects RX8 yX8_mayLend yX8_mayLend, Cond.code yX8_mayLend cX8_mayLend 5 (some .boolean), Cond.methodLink RX8 51 yX8_copyAt, Cond.instanceMethod yX8_copyAt, Cond.selects RX8 yX8_copyAt yX8_copyAt, Cond.code yX8_copyAt cX8_copyAt 3 (some .int), Cond.methodLink RX8 72 yX8_findHold, Cond.instanceMethod yX8_findHold, Cond.selects RX8 yX8_findHold yX8_findHold, Cond.code yX8_findHold cX8_findHold 4 (some .int), Cond.methodLink RX8 41 yX8_holdAt, Cond.instanceMethod yX8_holdAt, Cond.selects RX8 yX8_holdAt yX8_holdAt]
def wsX8_drawCopy_r2 : List Cond := [Cond.code yX8_holdAt cX8_holdAt 3 (some .int), Cond.methodLink RX8 97 yX8_outsOf, Cond.instanceMethod yX8_outsOf, Cond.selects RX8 yX8_outsOf yX8_outsOf, Cond.code yX8_outsOf cX8_outsOf 4 (some .int), Cond.methodLink RX8 100 yX8_ones, Cond.static yX8_ones, Cond.code yX8_ones cX8_ones 3 (some .int), Cond.methodLink RX8 116 yX8_doLend, Cond.instanceMethod yX8_doLend, Cond.selects RX8 yX8_doLend yX8_doLend, Cond.code yX8_doLend cX8_doLend 3 none, Cond.methodLink RX8 75 yX8_removeHold, Cond.instanceMethod yX8_removeHold, Cond.selects RX8 yX8_removeHold yX8_removeHold, Cond.code yX8_removeHold cX8_removeHold 3 none, Cond.methodLink RX8 103 yX8_openDay, Cond.instanceMethod yX8_openDay, Cond.selects RX8 yX8_openDay yX8_openDay, Cond.code yX8_openDay cX8_openDay 3 (some .int), Cond.methodLink RX8 37 yX8_isClosed, Cond.instanceMethod yX8_isClosed, Cond.selects RX8 yX8_isClosed yX8_isClosed, Cond.code yX8_isClosed cX8_isClosed 2 (some .boolean)]
def wsX8_drawCopy_r3 : List Cond := [Cond.methodLink RX8 33 yX8_has, Cond.static yX8_has, Cond.code yX8_has cX8_has 2 (some .boolean), Cond.methodLink RX8 57 yX8_setCopy, Cond.instanceMethod yX8_setCopy, Cond.selects RX8 yX8_setCopy yX8_setCopy, Cond.code yX8_setCopy cX8_setCopy 5 none, Cond.methodLink RX8 79 yX8_serve, Cond.instanceMethod yX8_serve, Cond.selects RX8 yX8_serve yX8_serve, Cond.code yX8_serve cX8_serve 5 none, Cond.methodLink RX8 61 yX8_firstOf, Cond.instanceMethod yX8_firstOf, Cond.selects RX8 yX8_firstOf yX8_firstOf, Cond.code yX8_firstOf cX8_firstOf 4 (some .int), Cond.methodLink RX8 45 yX8_waitsFor, Cond.instanceMethod yX8_waitsFor, Cond.selects RX8 yX8_waitsFor yX8_waitsFor, Cond.code yX8_waitsFor cX8_waitsFor 3 (some .boolean), Cond.methodLink RX8 48 yX8_isAhead, Cond.instanceMethod yX8_isAhead, Cond.selects RX8 yX8_isAhead yX8_isAhead, Cond.code yX8_isAhead cX8_isAhead 3 (some .boolean), Cond.methodLink RX8 65 yX8_nearest]
def wsX8_drawCopy_r4 : List Cond := [Cond.instanceMethod yX8_nearest, Cond.selects RX8 yX8_nearest yX8_nearest, Cond.code yX8_nearest cX8_nearest 7 (some .int), Cond.methodLink RX8 54 yX8_wayOf, Cond.static yX8_wayOf, Cond.code yX8_wayOf cX8_wayOf 3 (some .int), Cond.methodLink RX8 68 yX8_give, Cond.instanceMethod yX8_give, Cond.selects RX8 yX8_give yX8_give, Cond.code yX8_give cX8_give 6 none, Cond.methodLink RX8 119 yX8_mayGiveBack, Cond.instanceMethod yX8_mayGiveBack, Cond.selects RX8 yX8_mayGiveBack yX8_mayGiveBack, Cond.code yX8_mayGiveBack cX8_mayGiveBack 2 (some .boolean), Cond.methodLink RX8 125 yX8_doGiveBack, Cond.instanceMethod yX8_doGiveBack, Cond.selects RX8 yX8_doGiveBack yX8_doGiveBack, Cond.code yX8_doGiveBack cX8_doGiveBack 3 none]
def wsX8_drawCopy : List Cond := .code yX8_drawCopy cX8_drawCopy 4 none :: ((wsX8_drawCopy_r1 ++ (wsX8_drawCopy_r2 ++ (wsX8_drawCopy_r3 ++ wsX8_drawCopy_r4))) ++ wsX80)
def wsX8_drift_r1 : List Cond := [Cond.constantLong RX8 151 (20), Cond.constantLong RX8 166 (999999), Cond.constant RX8 131 (-1000000002), Cond.fieldLink RX8 155 "LoanHouseModel" "lot" "J", Cond.fieldLink RX8 7 "LoanHouseModel" "st" "[I", Cond.methodLink RX8 23 yX8_in, Cond.static yX8_in, Cond.initialized RX8, Cond.code yX8_in cX8_in 6 (some .boolean), Cond.methodLink RX8 94 yX8_note, Cond.instanceMethod yX8_note, Cond.selects RX8 yX8_note yX8_note, Cond.code yX8_note cX8_note 2 none, Cond.fieldLink RX8 82 "LoanHouseModel" "undoMany" "I", Cond.fieldLink RX8 13 "LoanHouseModel" "past" "[I", Cond.methodLink RX8 163 yX8_lotOf, Cond.instanceMethod yX8_lotOf, Cond.selects RX8 yX8_lotOf yX8_lotOf, Cond.code yX8_lotOf cX8_lotOf 2 (some .int), Cond.constantLong RX8 159 (16807), Cond.constantLong RX8 161 (2147483647), Cond.methodLink RX8 168 yX8_drawHold, Cond.instanceMethod yX8_drawHold, Cond.selects RX8 yX8_drawHold yX8_drawHold]
def wsX8_drift_r2 : List Cond := [Cond.code yX8_drawHold cX8_drawHold 5 none, Cond.methodLink RX8 132 yX8_mayHold, Cond.instanceMethod yX8_mayHold, Cond.selects RX8 yX8_mayHold yX8_mayHold, Cond.code yX8_mayHold cX8_mayHold 5 (some .boolean), Cond.methodLink RX8 41 yX8_holdAt, Cond.instanceMethod yX8_holdAt, Cond.selects RX8 yX8_holdAt yX8_holdAt, Cond.code yX8_holdAt cX8_holdAt 3 (some .int), Cond.methodLink RX8 51 yX8_copyAt, Cond.instanceMethod yX8_copyAt, Cond.selects RX8 yX8_copyAt yX8_copyAt, Cond.code yX8_copyAt cX8_copyAt 3 (some .int), Cond.methodLink RX8 97 yX8_outsOf, Cond.instanceMethod yX8_outsOf, Cond.selects RX8 yX8_outsOf yX8_outsOf, Cond.code yX8_outsOf cX8_outsOf 4 (some .int), Cond.methodLink RX8 33 yX8_has, Cond.static yX8_has, Cond.code yX8_has cX8_has 2 (some .boolean), Cond.methodLink RX8 135 yX8_doHold, Cond.instanceMethod yX8_doHold, Cond.selects RX8 yX8_doHold yX8_doHold, Cond.code yX8_doHold cX8_doHold 7 (some .int)]
def wsX8_drift_r3 : List Cond := [Cond.methodLink RX8 79 yX8_serve, Cond.instanceMethod yX8_serve, Cond.selects RX8 yX8_serve yX8_serve, Cond.code yX8_serve cX8_serve 5 none, Cond.methodLink RX8 61 yX8_firstOf, Cond.instanceMethod yX8_firstOf, Cond.selects RX8 yX8_firstOf yX8_firstOf, Cond.code yX8_firstOf cX8_firstOf 4 (some .int), Cond.methodLink RX8 45 yX8_waitsFor, Cond.instanceMethod yX8_waitsFor, Cond.selects RX8 yX8_waitsFor yX8_waitsFor, Cond.code yX8_waitsFor cX8_waitsFor 3 (some .boolean), Cond.methodLink RX8 48 yX8_isAhead, Cond.instanceMethod yX8_isAhead, Cond.selects RX8 yX8_isAhead yX8_isAhead, Cond.code yX8_isAhead cX8_isAhead 3 (some .boolean), Cond.methodLink RX8 65 yX8_nearest, Cond.instanceMethod yX8_nearest, Cond.selects RX8 yX8_nearest yX8_nearest, Cond.code yX8_nearest cX8_nearest 7 (some .int), Cond.methodLink RX8 54 yX8_wayOf, Cond.static yX8_wayOf, Cond.code yX8_wayOf cX8_wayOf 3 (some .int), Cond.methodLink RX8 68 yX8_give]
def wsX8_drift_r4 : List Cond := [Cond.instanceMethod yX8_give, Cond.selects RX8 yX8_give yX8_give, Cond.code yX8_give cX8_give 6 none, Cond.methodLink RX8 57 yX8_setCopy, Cond.instanceMethod yX8_setCopy, Cond.selects RX8 yX8_setCopy yX8_setCopy, Cond.code yX8_setCopy cX8_setCopy 5 none, Cond.methodLink RX8 171 yX8_drawCopy, Cond.instanceMethod yX8_drawCopy, Cond.selects RX8 yX8_drawCopy yX8_drawCopy, Cond.code yX8_drawCopy cX8_drawCopy 4 none, Cond.methodLink RX8 112 yX8_mayLend, Cond.instanceMethod yX8_mayLend, Cond.selects RX8 yX8_mayLend yX8_mayLend, Cond.code yX8_mayLend cX8_mayLend 5 (some .boolean), Cond.methodLink RX8 72 yX8_findHold, Cond.instanceMethod yX8_findHold, Cond.selects RX8 yX8_findHold yX8_findHold, Cond.code yX8_findHold cX8_findHold 4 (some .int), Cond.methodLink RX8 100 yX8_ones, Cond.static yX8_ones, Cond.code yX8_ones cX8_ones 3 (some .int), Cond.methodLink RX8 116 yX8_doLend, Cond.instanceMethod yX8_doLend]
def wsX8_drift_r5 : List Cond := [Cond.selects RX8 yX8_doLend yX8_doLend, Cond.code yX8_doLend cX8_doLend 3 none, Cond.methodLink RX8 75 yX8_removeHold, Cond.instanceMethod yX8_removeHold, Cond.selects RX8 yX8_removeHold yX8_removeHold, Cond.code yX8_removeHold cX8_removeHold 3 none, Cond.methodLink RX8 103 yX8_openDay, Cond.instanceMethod yX8_openDay, Cond.selects RX8 yX8_openDay yX8_openDay, Cond.code yX8_openDay cX8_openDay 3 (some .int), Cond.methodLink RX8 37 yX8_isClosed, Cond.instanceMethod yX8_isClosed, Cond.selects RX8 yX8_isClosed yX8_isClosed, Cond.code yX8_isClosed cX8_isClosed 2 (some .boolean), Cond.methodLink RX8 119 yX8_mayGiveBack, Cond.instanceMethod yX8_mayGiveBack, Cond.selects RX8 yX8_mayGiveBack yX8_mayGiveBack, Cond.code yX8_mayGiveBack cX8_mayGiveBack 2 (some .boolean), Cond.methodLink RX8 125 yX8_doGiveBack, Cond.instanceMethod yX8_doGiveBack, Cond.selects RX8 yX8_doGiveBack yX8_doGiveBack, Cond.code yX8_doGiveBack cX8_doGiveBack 3 none, Cond.methodLink RX8 144 yX8_passDay, Cond.instanceMethod yX8_passDay]
def wsX8_drift_r6 : List Cond := [Cond.selects RX8 yX8_passDay yX8_passDay, Cond.code yX8_passDay cX8_passDay 2 none]
def wsX8_drift : List Cond := .code yX8_drift cX8_drift 5 (some .int) :: ((wsX8_drift_r1 ++ (wsX8_drift_r2 ++ (wsX8_drift_r3 ++ (wsX8_drift_r4 ++ (wsX8_drift_r5 ++ wsX8_drift_r6))))) ++ wsX80)
def wsX8_undo : List Cond := .code yX8_undo cX8_undo 2 (some .int) :: ([.fieldLink RX8 82 "LoanHouseModel" "undoMany" "I", .constant RX8 115 (-1000000003), .fieldLink RX8 7 "LoanHouseModel" "st" "[I", .fieldLink RX8 13 "LoanHouseModel" "past" "[I"] ++ wsX80)
def wsX8_copiesThat : List Cond := .code yX8_copiesThat cX8_copiesThat 4 (some .int) :: ([.fieldLink RX8 7 "LoanHouseModel" "st" "[I", .methodLink RX8 51 yX8_copyAt, .instanceMethod yX8_copyAt, .selects RX8 yX8_copyAt yX8_copyAt, .initialized RX8, .code yX8_copyAt cX8_copyAt 3 (some .int)] ++ wsX80)
def wsX8_overdue : List Cond := .code yX8_overdue cX8_overdue 3 (some .int) :: ([.fieldLink RX8 7 "LoanHouseModel" "st" "[I", .methodLink RX8 122 yX8_stepOf, .instanceMethod yX8_stepOf, .selects RX8 yX8_stepOf yX8_stepOf, .initialized RX8, .code yX8_stepOf cX8_stepOf 4 (some .int), .methodLink RX8 51 yX8_copyAt, .instanceMethod yX8_copyAt, .selects RX8 yX8_copyAt yX8_copyAt, .code yX8_copyAt cX8_copyAt 3 (some .int)] ++ wsX80)
def wsX8_waiting : List Cond := .code yX8_waiting cX8_waiting 3 (some .int) :: ([.fieldLink RX8 7 "LoanHouseModel" "st" "[I", .methodLink RX8 41 yX8_holdAt, .instanceMethod yX8_holdAt, .selects RX8 yX8_holdAt yX8_holdAt, .initialized RX8, .code yX8_holdAt cX8_holdAt 3 (some .int)] ++ wsX80)
def wsX8_told_r1 : List Cond := [Cond.fieldLink RX8 7 "LoanHouseModel" "st" "[I", Cond.fieldLink RX8 82 "LoanHouseModel" "undoMany" "I", Cond.constant RX8 131 (-1000000002), Cond.methodLink RX8 175 yX8_copiesThat, Cond.instanceMethod yX8_copiesThat, Cond.selects RX8 yX8_copiesThat yX8_copiesThat, Cond.initialized RX8, Cond.code yX8_copiesThat cX8_copiesThat 4 (some .int), Cond.methodLink RX8 51 yX8_copyAt, Cond.instanceMethod yX8_copyAt, Cond.selects RX8 yX8_copyAt yX8_copyAt, Cond.code yX8_copyAt cX8_copyAt 3 (some .int), Cond.methodLink RX8 178 yX8_waiting, Cond.instanceMethod yX8_waiting, Cond.selects RX8 yX8_waiting yX8_waiting, Cond.code yX8_waiting cX8_waiting 3 (some .int), Cond.methodLink RX8 41 yX8_holdAt, Cond.instanceMethod yX8_holdAt, Cond.selects RX8 yX8_holdAt yX8_holdAt, Cond.code yX8_holdAt cX8_holdAt 3 (some .int), Cond.methodLink RX8 100 yX8_ones, Cond.static yX8_ones, Cond.code yX8_ones cX8_ones 3 (some .int), Cond.methodLink RX8 182 yX8_overdue]
def wsX8_told_r2 : List Cond := [Cond.instanceMethod yX8_overdue, Cond.selects RX8 yX8_overdue yX8_overdue, Cond.code yX8_overdue cX8_overdue 3 (some .int), Cond.methodLink RX8 122 yX8_stepOf, Cond.instanceMethod yX8_stepOf, Cond.selects RX8 yX8_stepOf yX8_stepOf, Cond.code yX8_stepOf cX8_stepOf 4 (some .int), Cond.methodLink RX8 37 yX8_isClosed, Cond.instanceMethod yX8_isClosed, Cond.selects RX8 yX8_isClosed yX8_isClosed, Cond.code yX8_isClosed cX8_isClosed 2 (some .boolean), Cond.methodLink RX8 33 yX8_has, Cond.static yX8_has, Cond.code yX8_has cX8_has 2 (some .boolean)]
def wsX8_told : List Cond := .code yX8_told cX8_told 2 (some .int) :: ((wsX8_told_r1 ++ wsX8_told_r2) ++ wsX80)
def wsX8_copyOf : List Cond := .code yX8_copyOf cX8_copyOf 4 (some .int) :: ([.constant RX8 92 (-1000000001), .constant RX8 131 (-1000000002), .methodLink RX8 106 yX8_isCopy, .instanceMethod yX8_isCopy, .selects RX8 yX8_isCopy yX8_isCopy, .initialized RX8, .code yX8_isCopy cX8_isCopy 2 (some .boolean), .fieldLink RX8 7 "LoanHouseModel" "st" "[I", .methodLink RX8 23 yX8_in, .static yX8_in, .code yX8_in cX8_in 6 (some .boolean), .methodLink RX8 51 yX8_copyAt, .instanceMethod yX8_copyAt, .selects RX8 yX8_copyAt yX8_copyAt, .code yX8_copyAt cX8_copyAt 3 (some .int), .methodLink RX8 122 yX8_stepOf, .instanceMethod yX8_stepOf, .selects RX8 yX8_stepOf yX8_stepOf, .code yX8_stepOf cX8_stepOf 4 (some .int)] ++ wsX80)
def wsX8_placeOf : List Cond := .code yX8_placeOf cX8_placeOf 4 (some .int) :: ([.fieldLink RX8 7 "LoanHouseModel" "st" "[I", .methodLink RX8 41 yX8_holdAt, .instanceMethod yX8_holdAt, .selects RX8 yX8_holdAt yX8_holdAt, .initialized RX8, .code yX8_holdAt cX8_holdAt 3 (some .int), .methodLink RX8 45 yX8_waitsFor, .instanceMethod yX8_waitsFor, .selects RX8 yX8_waitsFor yX8_waitsFor, .code yX8_waitsFor cX8_waitsFor 3 (some .boolean), .methodLink RX8 48 yX8_isAhead, .instanceMethod yX8_isAhead, .selects RX8 yX8_isAhead yX8_isAhead, .code yX8_isAhead cX8_isAhead 3 (some .boolean)] ++ wsX80)
def wsX8_dayOf : List Cond := .code yX8_dayOf cX8_dayOf 3 (some .int) :: ([.fieldLink RX8 7 "LoanHouseModel" "st" "[I", .methodLink RX8 51 yX8_copyAt, .instanceMethod yX8_copyAt, .selects RX8 yX8_copyAt yX8_copyAt, .initialized RX8, .code yX8_copyAt cX8_copyAt 3 (some .int)] ++ wsX80)
def wsX8_soonOf_r1 : List Cond := [Cond.fieldLink RX8 7 "LoanHouseModel" "st" "[I", Cond.constant RX8 191 (99999), Cond.methodLink RX8 41 yX8_holdAt, Cond.instanceMethod yX8_holdAt, Cond.selects RX8 yX8_holdAt yX8_holdAt, Cond.initialized RX8, Cond.code yX8_holdAt cX8_holdAt 3 (some .int), Cond.methodLink RX8 139 yX8_copyFor, Cond.instanceMethod yX8_copyFor, Cond.selects RX8 yX8_copyFor yX8_copyFor, Cond.code yX8_copyFor cX8_copyFor 5 (some .int), Cond.methodLink RX8 51 yX8_copyAt, Cond.instanceMethod yX8_copyAt, Cond.selects RX8 yX8_copyAt yX8_copyAt, Cond.code yX8_copyAt cX8_copyAt 3 (some .int), Cond.methodLink RX8 185 yX8_placeOf, Cond.instanceMethod yX8_placeOf, Cond.selects RX8 yX8_placeOf yX8_placeOf, Cond.code yX8_placeOf cX8_placeOf 4 (some .int), Cond.methodLink RX8 45 yX8_waitsFor, Cond.instanceMethod yX8_waitsFor, Cond.selects RX8 yX8_waitsFor yX8_waitsFor, Cond.code yX8_waitsFor cX8_waitsFor 3 (some .boolean), Cond.methodLink RX8 48 yX8_isAhead]
def wsX8_soonOf_r2 : List Cond := [Cond.instanceMethod yX8_isAhead, Cond.selects RX8 yX8_isAhead yX8_isAhead, Cond.code yX8_isAhead cX8_isAhead 3 (some .boolean), Cond.methodLink RX8 188 yX8_dayOf, Cond.instanceMethod yX8_dayOf, Cond.selects RX8 yX8_dayOf yX8_dayOf, Cond.code yX8_dayOf cX8_dayOf 3 (some .int)]
def wsX8_soonOf : List Cond := .code yX8_soonOf cX8_soonOf 7 (some .int) :: ((wsX8_soonOf_r1 ++ wsX8_soonOf_r2) ++ wsX80)
def wsX8_holdOf_r1 : List Cond := [Cond.constant RX8 92 (-1000000001), Cond.constant RX8 131 (-1000000002), Cond.methodLink RX8 72 yX8_findHold, Cond.instanceMethod yX8_findHold, Cond.selects RX8 yX8_findHold yX8_findHold, Cond.initialized RX8, Cond.code yX8_findHold cX8_findHold 4 (some .int), Cond.fieldLink RX8 7 "LoanHouseModel" "st" "[I", Cond.methodLink RX8 41 yX8_holdAt, Cond.instanceMethod yX8_holdAt, Cond.selects RX8 yX8_holdAt yX8_holdAt, Cond.code yX8_holdAt cX8_holdAt 3 (some .int), Cond.methodLink RX8 139 yX8_copyFor, Cond.instanceMethod yX8_copyFor, Cond.selects RX8 yX8_copyFor yX8_copyFor, Cond.code yX8_copyFor cX8_copyFor 5 (some .int), Cond.methodLink RX8 51 yX8_copyAt, Cond.instanceMethod yX8_copyAt, Cond.selects RX8 yX8_copyAt yX8_copyAt, Cond.code yX8_copyAt cX8_copyAt 3 (some .int), Cond.methodLink RX8 185 yX8_placeOf, Cond.instanceMethod yX8_placeOf, Cond.selects RX8 yX8_placeOf yX8_placeOf, Cond.code yX8_placeOf cX8_placeOf 4 (some .int)]
def wsX8_holdOf_r2 : List Cond := [Cond.methodLink RX8 45 yX8_waitsFor, Cond.instanceMethod yX8_waitsFor, Cond.selects RX8 yX8_waitsFor yX8_waitsFor, Cond.code yX8_waitsFor cX8_waitsFor 3 (some .boolean), Cond.methodLink RX8 48 yX8_isAhead, Cond.instanceMethod yX8_isAhead, Cond.selects RX8 yX8_isAhead yX8_isAhead, Cond.code yX8_isAhead cX8_isAhead 3 (some .boolean), Cond.methodLink RX8 192 yX8_soonOf, Cond.instanceMethod yX8_soonOf, Cond.selects RX8 yX8_soonOf yX8_soonOf, Cond.code yX8_soonOf cX8_soonOf 7 (some .int), Cond.constant RX8 191 (99999), Cond.methodLink RX8 188 yX8_dayOf, Cond.instanceMethod yX8_dayOf, Cond.selects RX8 yX8_dayOf yX8_dayOf, Cond.code yX8_dayOf cX8_dayOf 3 (some .int)]
def wsX8_holdOf : List Cond := .code yX8_holdOf cX8_holdOf 4 (some .int) :: ((wsX8_holdOf_r1 ++ wsX8_holdOf_r2) ++ wsX80)
def wsX8_copiesOf : List Cond := .code yX8_copiesOf cX8_copiesOf 5 (some .int) :: ([.fieldLink RX8 7 "LoanHouseModel" "st" "[I", .methodLink RX8 51 yX8_copyAt, .instanceMethod yX8_copyAt, .selects RX8 yX8_copyAt yX8_copyAt, .initialized RX8, .code yX8_copyAt cX8_copyAt 3 (some .int)] ++ wsX80)
def wsX8_longestOf : List Cond := .code yX8_longestOf cX8_longestOf 5 (some .int) :: ([.fieldLink RX8 7 "LoanHouseModel" "st" "[I", .methodLink RX8 45 yX8_waitsFor, .instanceMethod yX8_waitsFor, .selects RX8 yX8_waitsFor yX8_waitsFor, .initialized RX8, .code yX8_waitsFor cX8_waitsFor 3 (some .boolean), .methodLink RX8 41 yX8_holdAt, .instanceMethod yX8_holdAt, .selects RX8 yX8_holdAt yX8_holdAt, .code yX8_holdAt cX8_holdAt 3 (some .int)] ++ wsX80)
def wsX8_titleOf_r1 : List Cond := [Cond.constant RX8 92 (-1000000001), Cond.constant RX8 131 (-1000000002), Cond.methodLink RX8 86 yX8_isTitle, Cond.static yX8_isTitle, Cond.initialized RX8, Cond.code yX8_isTitle cX8_isTitle 1 (some .boolean), Cond.constantLong RX8 29 (5), Cond.methodLink RX8 23 yX8_in, Cond.static yX8_in, Cond.code yX8_in cX8_in 6 (some .boolean), Cond.methodLink RX8 61 yX8_firstOf, Cond.instanceMethod yX8_firstOf, Cond.selects RX8 yX8_firstOf yX8_firstOf, Cond.code yX8_firstOf cX8_firstOf 4 (some .int), Cond.fieldLink RX8 7 "LoanHouseModel" "st" "[I", Cond.methodLink RX8 45 yX8_waitsFor, Cond.instanceMethod yX8_waitsFor, Cond.selects RX8 yX8_waitsFor yX8_waitsFor, Cond.code yX8_waitsFor cX8_waitsFor 3 (some .boolean), Cond.methodLink RX8 41 yX8_holdAt, Cond.instanceMethod yX8_holdAt, Cond.selects RX8 yX8_holdAt yX8_holdAt, Cond.code yX8_holdAt cX8_holdAt 3 (some .int), Cond.methodLink RX8 48 yX8_isAhead]
def wsX8_titleOf_r2 : List Cond := [Cond.instanceMethod yX8_isAhead, Cond.selects RX8 yX8_isAhead yX8_isAhead, Cond.code yX8_isAhead cX8_isAhead 3 (some .boolean), Cond.methodLink RX8 195 yX8_copiesOf, Cond.instanceMethod yX8_copiesOf, Cond.selects RX8 yX8_copiesOf yX8_copiesOf, Cond.code yX8_copiesOf cX8_copiesOf 5 (some .int), Cond.methodLink RX8 51 yX8_copyAt, Cond.instanceMethod yX8_copyAt, Cond.selects RX8 yX8_copyAt yX8_copyAt, Cond.code yX8_copyAt cX8_copyAt 3 (some .int), Cond.methodLink RX8 128 yX8_rowOf, Cond.instanceMethod yX8_rowOf, Cond.selects RX8 yX8_rowOf yX8_rowOf, Cond.code yX8_rowOf cX8_rowOf 4 (some .int), Cond.methodLink RX8 199 yX8_longestOf, Cond.instanceMethod yX8_longestOf, Cond.selects RX8 yX8_longestOf yX8_longestOf, Cond.code yX8_longestOf cX8_longestOf 5 (some .int)]
def wsX8_titleOf : List Cond := .code yX8_titleOf cX8_titleOf 4 (some .int) :: ((wsX8_titleOf_r1 ++ wsX8_titleOf_r2) ++ wsX80)
def wsX8_owedBy : List Cond := .code yX8_owedBy cX8_owedBy 5 (some .int) :: ([.fieldLink RX8 7 "LoanHouseModel" "st" "[I", .methodLink RX8 97 yX8_outsOf, .instanceMethod yX8_outsOf, .selects RX8 yX8_outsOf yX8_outsOf, .initialized RX8, .code yX8_outsOf cX8_outsOf 4 (some .int), .methodLink RX8 51 yX8_copyAt, .instanceMethod yX8_copyAt, .selects RX8 yX8_copyAt yX8_copyAt, .code yX8_copyAt cX8_copyAt 3 (some .int), .methodLink RX8 33 yX8_has, .static yX8_has, .code yX8_has cX8_has 2 (some .boolean)] ++ wsX80)
def wsX8_greatestStep : List Cond := .code yX8_greatestStep cX8_greatestStep 5 (some .int) :: ([.fieldLink RX8 7 "LoanHouseModel" "st" "[I", .methodLink RX8 97 yX8_outsOf, .instanceMethod yX8_outsOf, .selects RX8 yX8_outsOf yX8_outsOf, .initialized RX8, .code yX8_outsOf cX8_outsOf 4 (some .int), .methodLink RX8 51 yX8_copyAt, .instanceMethod yX8_copyAt, .selects RX8 yX8_copyAt yX8_copyAt, .code yX8_copyAt cX8_copyAt 3 (some .int), .methodLink RX8 33 yX8_has, .static yX8_has, .code yX8_has cX8_has 2 (some .boolean), .methodLink RX8 122 yX8_stepOf, .instanceMethod yX8_stepOf, .selects RX8 yX8_stepOf yX8_stepOf, .code yX8_stepOf cX8_stepOf 4 (some .int)] ++ wsX80)
def wsX8_holdsOf : List Cond := .code yX8_holdsOf cX8_holdsOf 4 (some .int) :: ([.fieldLink RX8 7 "LoanHouseModel" "st" "[I", .methodLink RX8 41 yX8_holdAt, .instanceMethod yX8_holdAt, .selects RX8 yX8_holdAt yX8_holdAt, .initialized RX8, .code yX8_holdAt cX8_holdAt 3 (some .int)] ++ wsX80)
def wsX8_readerOf_r1 : List Cond := [Cond.constant RX8 92 (-1000000001), Cond.constant RX8 131 (-1000000002), Cond.methodLink RX8 109 yX8_isReader, Cond.static yX8_isReader, Cond.initialized RX8, Cond.code yX8_isReader cX8_isReader 1 (some .boolean), Cond.constantLong RX8 31 (9), Cond.methodLink RX8 23 yX8_in, Cond.static yX8_in, Cond.code yX8_in cX8_in 6 (some .boolean), Cond.methodLink RX8 97 yX8_outsOf, Cond.instanceMethod yX8_outsOf, Cond.selects RX8 yX8_outsOf yX8_outsOf, Cond.code yX8_outsOf cX8_outsOf 4 (some .int), Cond.fieldLink RX8 7 "LoanHouseModel" "st" "[I", Cond.methodLink RX8 51 yX8_copyAt, Cond.instanceMethod yX8_copyAt, Cond.selects RX8 yX8_copyAt yX8_copyAt, Cond.code yX8_copyAt cX8_copyAt 3 (some .int), Cond.methodLink RX8 202 yX8_holdsOf, Cond.instanceMethod yX8_holdsOf, Cond.selects RX8 yX8_holdsOf yX8_holdsOf, Cond.code yX8_holdsOf cX8_holdsOf 4 (some .int), Cond.methodLink RX8 41 yX8_holdAt]
def wsX8_readerOf_r2 : List Cond := [Cond.instanceMethod yX8_holdAt, Cond.selects RX8 yX8_holdAt yX8_holdAt, Cond.code yX8_holdAt cX8_holdAt 3 (some .int), Cond.methodLink RX8 205 yX8_owedBy, Cond.instanceMethod yX8_owedBy, Cond.selects RX8 yX8_owedBy yX8_owedBy, Cond.code yX8_owedBy cX8_owedBy 5 (some .int), Cond.methodLink RX8 33 yX8_has, Cond.static yX8_has, Cond.code yX8_has cX8_has 2 (some .boolean), Cond.methodLink RX8 208 yX8_greatestStep, Cond.instanceMethod yX8_greatestStep, Cond.selects RX8 yX8_greatestStep yX8_greatestStep, Cond.code yX8_greatestStep cX8_greatestStep 5 (some .int), Cond.methodLink RX8 122 yX8_stepOf, Cond.instanceMethod yX8_stepOf, Cond.selects RX8 yX8_stepOf yX8_stepOf, Cond.code yX8_stepOf cX8_stepOf 4 (some .int)]
def wsX8_readerOf : List Cond := .code yX8_readerOf cX8_readerOf 3 (some .int) :: ((wsX8_readerOf_r1 ++ wsX8_readerOf_r2) ++ wsX80)
def wsX8_keep : List Cond := .code yX8_keep cX8_keep 3 (some .int) :: ([.constant RX8 92 (-1000000001), .fieldLink RX8 16 "LoanHouseModel" "kept" "[I", .fieldLink RX8 7 "LoanHouseModel" "st" "[I", .fieldLink RX8 19 "LoanHouseModel" "isKept" "[Z", .fieldLink RX8 82 "LoanHouseModel" "undoMany" "I", .methodLink RX8 23 yX8_in, .static yX8_in, .initialized RX8, .code yX8_in cX8_in 6 (some .boolean)] ++ wsX80)
def wsX8_goBack : List Cond := .code yX8_goBack cX8_goBack 3 (some .int) :: ([.constant RX8 92 (-1000000001), .fieldLink RX8 19 "LoanHouseModel" "isKept" "[Z", .constant RX8 115 (-1000000003), .fieldLink RX8 7 "LoanHouseModel" "st" "[I", .fieldLink RX8 16 "LoanHouseModel" "kept" "[I", .fieldLink RX8 82 "LoanHouseModel" "undoMany" "I", .methodLink RX8 23 yX8_in, .static yX8_in, .initialized RX8, .code yX8_in cX8_in 6 (some .boolean)] ++ wsX80)
def wsJ9_abs_0f7a4 : List Cond := .code yJ9_abs_0f7a4 cJ9_abs_0f7a4 1 (some .int) :: ([])
def wsJ9_max_7cf53 : List Cond := .code yJ9_max_7cf53 cJ9_max_7cf53 2 (some .int) :: ([])
def wsJ9_min_7cf53 : List Cond := .code yJ9_min_7cf53 cJ9_min_7cf53 2 (some .int) :: ([])
def wsL_law_r1 : List Cond := [Cond.classLink RL 7 RX7, Cond.instantiable RX7 6, Cond.initialized RX7, Cond.classLink RL 10 RX8, Cond.instantiable RX8 6, Cond.initialized RX8, Cond.methodLink RL 9 yX7_init, Cond.instanceMethod yX7_init, Cond.code yX7_init cX7_init 1 none, Cond.methodLink RX7 1 objectInit, Cond.instanceMethod objectInit, Cond.code objectInit ⟨#[0xb1]⟩ 1 none, Cond.classLink RX7 7 RX4, Cond.instantiable RX4 4, Cond.initialized RX4, Cond.fieldLink RX7 10 "LoanHouse" "house" "LLoanHouse$House;", Cond.classLink RX7 16 RX6, Cond.instantiable RX6 1, Cond.initialized RX6, Cond.fieldLink RX7 21 "LoanHouse" "past" "LLoanHouse$Pictures;", Cond.fieldLink RX7 25 "LoanHouse" "images" "LLoanHouse$Pictures;", Cond.classLink RX7 28 RX5, Cond.instantiable RX5 1, Cond.initialized RX5]
def wsL_law_r2 : List Cond := [Cond.fieldLink RX7 31 "LoanHouse" "lots" "LLoanHouse$Lots;", Cond.instanceMethod yX4_init, Cond.code yX4_init cX4_init 1 none, Cond.methodLink RX4 3 objectInit, Cond.classLink RX4 9 RX0, Cond.instantiable RX0 4, Cond.initialized RX0, Cond.fieldLink RX4 12 "LoanHouse$House" "calendar" "LLoanHouse$Calendar;", Cond.classLink RX4 18 RX1, Cond.instantiable RX1 2, Cond.initialized RX1, Cond.fieldLink RX4 21 "LoanHouse$House" "copies" "LLoanHouse$Copies;", Cond.classLink RX4 25 RX3, Cond.instantiable RX3 3, Cond.initialized RX3, Cond.fieldLink RX4 28 "LoanHouse$House" "holds" "LLoanHouse$Holds;", Cond.instanceMethod yX0_init, Cond.code yX0_init cX0_init 1 none, Cond.methodLink RX0 3 objectInit, Cond.fieldLink RX0 9 "LoanHouse$Calendar" "term" "I", Cond.fieldLink RX0 15 "LoanHouse$Calendar" "patience" "I", Cond.fieldLink RX0 18 "LoanHouse$Calendar" "closed" "I", Cond.instanceMethod yX1_init, Cond.code yX1_init cX1_init 1 none]
def wsL_law_r3 : List Cond := [Cond.methodLink RX1 3 objectInit, Cond.classLink RX1 9 RX2, Cond.instantiable RX2 3, Cond.initialized RX2, Cond.fieldLink RX1 16 "LoanHouse$Copies" "grid" "LLoanHouse$Grid;", Cond.methodLink RX1 13 yX2_init, Cond.instanceMethod yX2_init, Cond.code yX2_init cX2_init 3 none, Cond.methodLink RX2 3 objectInit, Cond.methodLink RX2 9 Lib.Math.max.name, Cond.static Lib.Math.max.name, Cond.initialized "java/lang/Math", Cond.code Lib.Math.max.name Lib.Math.max.code 2 (some .int), Cond.fieldLink RX2 15 "LoanHouse$Grid" "rows" "I", Cond.fieldLink RX2 21 "LoanHouse$Grid" "columns" "I", Cond.arrayClass .int, Cond.fieldLink RX2 24 "LoanHouse$Grid" "cells" "[I", Cond.instanceMethod yX3_init, Cond.code yX3_init cX3_init 1 none, Cond.methodLink RX3 3 objectInit, Cond.classLink RX3 9 RX2, Cond.fieldLink RX3 16 "LoanHouse$Holds" "grid" "LLoanHouse$Grid;", Cond.methodLink RX3 13 yX2_init, Cond.methodLink RX7 18 yX6_init]
def wsL_law_r4 : List Cond := [Cond.instanceMethod yX6_init, Cond.code yX6_init cX6_init 2 none, Cond.methodLink RX6 1 objectInit, Cond.methodLink RX6 7 Lib.Math.max.name, Cond.classLink RX6 13 RX4, Cond.fieldLink RX6 15 "LoanHouse$Pictures" "places" "[LLoanHouse$House;", Cond.instanceMethod yX5_init, Cond.code yX5_init cX5_init 1 none, Cond.methodLink RX5 1 objectInit, Cond.methodLink RL 12 yX8_init, Cond.instanceMethod yX8_init, Cond.code yX8_init cX8_init 1 none, Cond.methodLink RX8 1 objectInit, Cond.fieldLink RX8 7 "LoanHouseModel" "st" "[I", Cond.fieldLink RX8 13 "LoanHouseModel" "past" "[I", Cond.fieldLink RX8 16 "LoanHouseModel" "kept" "[I", Cond.arrayClass .boolean, Cond.fieldLink RX8 19 "LoanHouseModel" "isKept" "[Z", Cond.methodLink RL 13 yX7_copy, Cond.instanceMethod yX7_copy, Cond.selects RX7 yX7_copy yX7_copy, Cond.code yX7_copy cX7_copy 3 (some .int), Cond.constant RX7 39 (-1000000001), Cond.constant RX7 50 (-1000000004)]
def wsL_law_r5 : List Cond := [Cond.methodLink RX7 35 yX7_isBelow, Cond.static yX7_isBelow, Cond.code yX7_isBelow cX7_isBelow 2 (some .boolean), Cond.methodLink RX7 51 yX7_remember, Cond.instanceMethod yX7_remember, Cond.selects RX7 yX7_remember yX7_remember, Cond.code yX7_remember cX7_remember 1 none, Cond.fieldLink RX7 148 "LoanHouse" "nextPast" "I", Cond.fieldLink RX7 145 "LoanHouse" "undoable" "I", Cond.methodLink RX7 256 Lib.Math.min.name, Cond.static Lib.Math.min.name, Cond.code Lib.Math.min.name Lib.Math.min.code 2 (some .int), Cond.methodLink RX7 250 yX6_take, Cond.instanceMethod yX6_take, Cond.selects RX6 yX6_take yX6_take, Cond.code yX6_take cX6_take 4 none, Cond.methodLink RX6 28 yX4_become, Cond.instanceMethod yX4_become, Cond.selects RX4 yX4_become yX4_become, Cond.code yX4_become cX4_become 2 none, Cond.fieldLink RX4 95 "LoanHouse$House" "trips" "I", Cond.methodLink RX4 137 yX0_become, Cond.instanceMethod yX0_become, Cond.selects RX0 yX0_become yX0_become]
def wsL_law_r6 : List Cond := [Cond.code yX0_become cX0_become 2 none, Cond.fieldLink RX0 27 "LoanHouse$Calendar" "now" "I", Cond.methodLink RX4 141 yX1_become, Cond.instanceMethod yX1_become, Cond.selects RX1 yX1_become yX1_become, Cond.code yX1_become cX1_become 2 none, Cond.fieldLink RX1 24 "LoanHouse$Copies" "count" "I", Cond.methodLink RX1 78 yX2_become, Cond.instanceMethod yX2_become, Cond.selects RX2 yX2_become yX2_become, Cond.code yX2_become cX2_become 2 none, Cond.methodLink RX2 34 Lib.Math.min.name, Cond.methodLink RX2 28 arraycopyName, Cond.native arraycopyName, Cond.static arraycopyName, Cond.initialized "java/lang/System", Cond.methodLink RX4 144 yX3_become, Cond.instanceMethod yX3_become, Cond.selects RX3 yX3_become yX3_become, Cond.code yX3_become cX3_become 2 none, Cond.fieldLink RX3 24 "LoanHouse$Holds" "count" "I", Cond.fieldLink RX3 32 "LoanHouse$Holds" "nextNumber" "I", Cond.methodLink RX3 73 yX2_become, Cond.methodLink RX7 151 yJ9_floorMod_7cf53]
def wsL_law_r7 : List Cond := [Cond.static yJ9_floorMod_7cf53, Cond.initialized RJ9, Cond.code yJ9_floorMod_7cf53 cJ9_floorMod_7cf53 3 (some .int), Cond.methodLink RX7 54 yX4_addCopy, Cond.instanceMethod yX4_addCopy, Cond.selects RX4 yX4_addCopy yX4_addCopy, Cond.code yX4_addCopy cX4_addCopy 4 (some .int), Cond.methodLink RX4 32 yX1_add, Cond.instanceMethod yX1_add, Cond.selects RX1 yX1_add yX1_add, Cond.code yX1_add cX1_add 4 (some .int), Cond.methodLink RX1 28 yX2_put, Cond.instanceMethod yX2_put, Cond.selects RX2 yX2_put yX2_put, Cond.code yX2_put cX2_put 4 none, Cond.methodLink RX1 32 yX1_write, Cond.instanceMethod yX1_write, Cond.selects RX1 yX1_write yX1_write, Cond.code yX1_write cX1_write 6 none, Cond.methodLink RX4 36 yX4_serve, Cond.instanceMethod yX4_serve, Cond.selects RX4 yX4_serve yX4_serve, Cond.code yX4_serve cX4_serve 5 none, Cond.methodLink RX4 108 yX3_firstOfRow]
def wsL_law_r8 : List Cond := [Cond.instanceMethod yX3_firstOfRow, Cond.selects RX3 yX3_firstOfRow yX3_firstOfRow, Cond.code yX3_firstOfRow cX3_firstOfRow 4 (some .int), Cond.methodLink RX3 56 yX3_isInRow, Cond.instanceMethod yX3_isInRow, Cond.selects RX3 yX3_isInRow yX3_isInRow, Cond.code yX3_isInRow cX3_isInRow 3 (some .boolean), Cond.methodLink RX3 20 yX2_at, Cond.instanceMethod yX2_at, Cond.selects RX2 yX2_at yX2_at, Cond.code yX2_at cX2_at 3 (some .int), Cond.methodLink RX3 59 yX3_need, Cond.instanceMethod yX3_need, Cond.selects RX3 yX3_need yX3_need, Cond.code yX3_need cX3_need 2 (some .int), Cond.methodLink RX4 111 yX3_branch, Cond.instanceMethod yX3_branch, Cond.selects RX3 yX3_branch yX3_branch, Cond.code yX3_branch cX3_branch 2 (some .int), Cond.methodLink RX4 112 yX1_nearestIn, Cond.instanceMethod yX1_nearestIn, Cond.selects RX1 yX1_nearestIn yX1_nearestIn, Cond.code yX1_nearestIn cX1_nearestIn 6 (some .int), Cond.methodLink RX1 40 yX1_title]
def wsL_law_r9 : List Cond := [Cond.instanceMethod yX1_title, Cond.selects RX1 yX1_title yX1_title, Cond.code yX1_title cX1_title 2 (some .int), Cond.methodLink RX1 20 yX2_at, Cond.methodLink RX1 36 yX1_state, Cond.instanceMethod yX1_state, Cond.selects RX1 yX1_state yX1_state, Cond.code yX1_state cX1_state 2 (some .int), Cond.methodLink RX1 61 yX1_branch, Cond.instanceMethod yX1_branch, Cond.selects RX1 yX1_branch yX1_branch, Cond.code yX1_branch cX1_branch 2 (some .int), Cond.static yX7_way, Cond.code yX7_way cX7_way 3 (some .int), Cond.methodLink RX7 264 Lib.Math.abs.name, Cond.static Lib.Math.abs.name, Cond.code Lib.Math.abs.name Lib.Math.abs.code 1 (some .int), Cond.methodLink RX4 115 yX4_assign, Cond.instanceMethod yX4_assign, Cond.selects RX4 yX4_assign yX4_assign, Cond.code yX4_assign cX4_assign 6 none, Cond.methodLink RX4 60 yX1_branch, Cond.methodLink RX4 118 yX3_number, Cond.instanceMethod yX3_number]
def wsL_law_r10 : List Cond := [Cond.selects RX3 yX3_number yX3_number, Cond.code yX3_number cX3_number 2 (some .int), Cond.methodLink RX4 82 yX3_putCopy, Cond.instanceMethod yX3_putCopy, Cond.selects RX3 yX3_putCopy yX3_putCopy, Cond.code yX3_putCopy cX3_putCopy 3 none, Cond.methodLink RX3 35 yX2_put, Cond.methodLink RX4 105 yX0_lastOfPatience, Cond.instanceMethod yX0_lastOfPatience, Cond.selects RX0 yX0_lastOfPatience yX0_lastOfPatience, Cond.code yX0_lastOfPatience cX0_lastOfPatience 1 (some .int), Cond.methodLink RX4 63 yX1_write, Cond.methodLink RL 17 yX8_copy, Cond.instanceMethod yX8_copy, Cond.selects RX8 yX8_copy yX8_copy, Cond.code yX8_copy cX8_copy 4 (some .int), Cond.constant RX8 92 (-1000000001), Cond.constant RX8 93 (-1000000004), Cond.methodLink RX8 86 yX8_isTitle, Cond.static yX8_isTitle, Cond.code yX8_isTitle cX8_isTitle 1 (some .boolean), Cond.constantLong RX8 29 (5), Cond.methodLink RX8 23 yX8_in, Cond.static yX8_in]
def wsL_law_r11 : List Cond := [Cond.code yX8_in cX8_in 6 (some .boolean), Cond.methodLink RX8 89 yX8_isBranch, Cond.static yX8_isBranch, Cond.code yX8_isBranch cX8_isBranch 1 (some .boolean), Cond.constantLong RX8 27 (3), Cond.methodLink RX8 94 yX8_note, Cond.instanceMethod yX8_note, Cond.selects RX8 yX8_note yX8_note, Cond.code yX8_note cX8_note 2 none, Cond.fieldLink RX8 82 "LoanHouseModel" "undoMany" "I", Cond.methodLink RX8 57 yX8_setCopy, Cond.instanceMethod yX8_setCopy, Cond.selects RX8 yX8_setCopy yX8_setCopy, Cond.code yX8_setCopy cX8_setCopy 5 none, Cond.methodLink RX8 79 yX8_serve, Cond.instanceMethod yX8_serve, Cond.selects RX8 yX8_serve yX8_serve, Cond.code yX8_serve cX8_serve 5 none, Cond.methodLink RX8 61 yX8_firstOf, Cond.instanceMethod yX8_firstOf, Cond.selects RX8 yX8_firstOf yX8_firstOf, Cond.code yX8_firstOf cX8_firstOf 4 (some .int), Cond.methodLink RX8 45 yX8_waitsFor, Cond.instanceMethod yX8_waitsFor]
def wsL_law_r12 : List Cond := [Cond.selects RX8 yX8_waitsFor yX8_waitsFor, Cond.code yX8_waitsFor cX8_waitsFor 3 (some .boolean), Cond.methodLink RX8 41 yX8_holdAt, Cond.instanceMethod yX8_holdAt, Cond.selects RX8 yX8_holdAt yX8_holdAt, Cond.code yX8_holdAt cX8_holdAt 3 (some .int), Cond.methodLink RX8 48 yX8_isAhead, Cond.instanceMethod yX8_isAhead, Cond.selects RX8 yX8_isAhead yX8_isAhead, Cond.code yX8_isAhead cX8_isAhead 3 (some .boolean), Cond.methodLink RX8 65 yX8_nearest, Cond.instanceMethod yX8_nearest, Cond.selects RX8 yX8_nearest yX8_nearest, Cond.code yX8_nearest cX8_nearest 7 (some .int), Cond.methodLink RX8 51 yX8_copyAt, Cond.instanceMethod yX8_copyAt, Cond.selects RX8 yX8_copyAt yX8_copyAt, Cond.code yX8_copyAt cX8_copyAt 3 (some .int), Cond.methodLink RX8 54 yX8_wayOf, Cond.static yX8_wayOf, Cond.code yX8_wayOf cX8_wayOf 3 (some .int), Cond.methodLink RX8 68 yX8_give, Cond.instanceMethod yX8_give, Cond.selects RX8 yX8_give yX8_give]
def wsL_law_r13 : List Cond := [Cond.code yX8_give cX8_give 6 none, Cond.methodLink RL 18 yX7_lend, Cond.instanceMethod yX7_lend, Cond.selects RX7 yX7_lend yX7_lend, Cond.code yX7_lend cX7_lend 4 (some .int), Cond.methodLink RX7 58 yX7_refusalToLend, Cond.instanceMethod yX7_refusalToLend, Cond.selects RX7 yX7_refusalToLend yX7_refusalToLend, Cond.code yX7_refusalToLend cX7_refusalToLend 3 (some .int), Cond.constant RX7 90 (-1000000003), Cond.methodLink RX7 70 yX7_isCopy, Cond.instanceMethod yX7_isCopy, Cond.selects RX7 yX7_isCopy yX7_isCopy, Cond.code yX7_isCopy cX7_isCopy 2 (some .boolean), Cond.methodLink RX7 259 yX4_mayTake, Cond.instanceMethod yX4_mayTake, Cond.selects RX4 yX4_mayTake yX4_mayTake, Cond.code yX4_mayTake cX4_mayTake 4 (some .boolean), Cond.methodLink RX4 39 yX1_state, Cond.methodLink RX4 43 yX1_whose, Cond.instanceMethod yX1_whose, Cond.selects RX1 yX1_whose yX1_whose, Cond.code yX1_whose cX1_whose 2 (some .int), Cond.methodLink RX4 46 yX3_slotOf]
def wsL_law_r14 : List Cond := [Cond.instanceMethod yX3_slotOf, Cond.selects RX3 yX3_slotOf yX3_slotOf, Cond.code yX3_slotOf cX3_slotOf 3 (some .int), Cond.methodLink RX3 28 yX3_number, Cond.methodLink RX4 49 yX3_reader, Cond.instanceMethod yX3_reader, Cond.selects RX3 yX3_reader yX3_reader, Cond.code yX3_reader cX3_reader 2 (some .int), Cond.methodLink RX7 238 yX1_outTo, Cond.instanceMethod yX1_outTo, Cond.selects RX1 yX1_outTo yX1_outTo, Cond.code yX1_outTo cX1_outTo 4 (some .int), Cond.methodLink RX1 43 yX1_isOutTo, Cond.instanceMethod yX1_isOutTo, Cond.selects RX1 yX1_isOutTo yX1_isOutTo, Cond.code yX1_isOutTo cX1_isOutTo 3 (some .boolean), Cond.methodLink RX1 75 yX1_whose, Cond.methodLink RX7 180 yJ6_bitCount_0f7a4, Cond.static yJ6_bitCount_0f7a4, Cond.initialized RJ6, Cond.code yJ6_bitCount_0f7a4 cJ6_bitCount_0f7a4 1 (some .int), Cond.constant RJ6 265 (1431655765), Cond.constant RJ6 266 (858993459), Cond.constant RJ6 267 (252645135)]
def wsL_law_r15 : List Cond := [Cond.methodLink RX7 61 yX4_lendTo, Cond.instanceMethod yX4_lendTo, Cond.selects RX4 yX4_lendTo yX4_lendTo, Cond.code yX4_lendTo cX4_lendTo 4 (some .int), Cond.methodLink RX4 52 yX3_takeOut, Cond.instanceMethod yX3_takeOut, Cond.selects RX3 yX3_takeOut yX3_takeOut, Cond.code yX3_takeOut cX3_takeOut 2 none, Cond.methodLink RX3 43 yX2_takeOut, Cond.instanceMethod yX2_takeOut, Cond.selects RX2 yX2_takeOut yX2_takeOut, Cond.code yX2_takeOut cX2_takeOut 4 none, Cond.methodLink RX4 56 yX0_dueFromNow, Cond.instanceMethod yX0_dueFromNow, Cond.selects RX0 yX0_dueFromNow yX0_dueFromNow, Cond.code yX0_dueFromNow cX0_dueFromNow 3 (some .int), Cond.methodLink RX0 30 yX0_isClosed, Cond.instanceMethod yX0_isClosed, Cond.selects RX0 yX0_isClosed yX0_isClosed, Cond.code yX0_isClosed cX0_isClosed 2 (some .boolean), Cond.methodLink RX0 21 yJ9_floorMod_7cf53, Cond.methodLink RL 21 yX8_lend, Cond.instanceMethod yX8_lend, Cond.selects RX8 yX8_lend yX8_lend]
def wsL_law_r16 : List Cond := [Cond.code yX8_lend cX8_lend 3 (some .int), Cond.constant RX8 115 (-1000000003), Cond.methodLink RX8 106 yX8_isCopy, Cond.instanceMethod yX8_isCopy, Cond.selects RX8 yX8_isCopy yX8_isCopy, Cond.code yX8_isCopy cX8_isCopy 2 (some .boolean), Cond.methodLink RX8 109 yX8_isReader, Cond.static yX8_isReader, Cond.code yX8_isReader cX8_isReader 1 (some .boolean), Cond.constantLong RX8 31 (9), Cond.methodLink RX8 112 yX8_mayLend, Cond.instanceMethod yX8_mayLend, Cond.selects RX8 yX8_mayLend yX8_mayLend, Cond.code yX8_mayLend cX8_mayLend 5 (some .boolean), Cond.methodLink RX8 72 yX8_findHold, Cond.instanceMethod yX8_findHold, Cond.selects RX8 yX8_findHold yX8_findHold, Cond.code yX8_findHold cX8_findHold 4 (some .int), Cond.methodLink RX8 97 yX8_outsOf, Cond.instanceMethod yX8_outsOf, Cond.selects RX8 yX8_outsOf yX8_outsOf, Cond.code yX8_outsOf cX8_outsOf 4 (some .int), Cond.methodLink RX8 100 yX8_ones, Cond.static yX8_ones]
def wsL_law_r17 : List Cond := [Cond.code yX8_ones cX8_ones 3 (some .int), Cond.methodLink RX8 116 yX8_doLend, Cond.instanceMethod yX8_doLend, Cond.selects RX8 yX8_doLend yX8_doLend, Cond.code yX8_doLend cX8_doLend 3 none, Cond.methodLink RX8 75 yX8_removeHold, Cond.instanceMethod yX8_removeHold, Cond.selects RX8 yX8_removeHold yX8_removeHold, Cond.code yX8_removeHold cX8_removeHold 3 none, Cond.methodLink RX8 103 yX8_openDay, Cond.instanceMethod yX8_openDay, Cond.selects RX8 yX8_openDay yX8_openDay, Cond.code yX8_openDay cX8_openDay 3 (some .int), Cond.methodLink RX8 37 yX8_isClosed, Cond.instanceMethod yX8_isClosed, Cond.selects RX8 yX8_isClosed yX8_isClosed, Cond.code yX8_isClosed cX8_isClosed 2 (some .boolean), Cond.methodLink RX8 33 yX8_has, Cond.static yX8_has, Cond.code yX8_has cX8_has 2 (some .boolean), Cond.methodLink RL 22 yX7_giveBack, Cond.instanceMethod yX7_giveBack, Cond.selects RX7 yX7_giveBack yX7_giveBack, Cond.code yX7_giveBack cX7_giveBack 4 (some .int)]
def wsL_law_r18 : List Cond := [Cond.methodLink RX7 64 yX7_refusalToTakeBack, Cond.instanceMethod yX7_refusalToTakeBack, Cond.selects RX7 yX7_refusalToTakeBack yX7_refusalToTakeBack, Cond.code yX7_refusalToTakeBack cX7_refusalToTakeBack 4 (some .int), Cond.methodLink RX7 74 yX1_state, Cond.methodLink RX7 67 yX4_takeBack, Cond.instanceMethod yX4_takeBack, Cond.selects RX4 yX4_takeBack yX4_takeBack, Cond.code yX4_takeBack cX4_takeBack 4 (some .int), Cond.methodLink RX4 77 Lib.Math.max.name, Cond.methodLink RX4 74 yX1_step, Cond.instanceMethod yX1_step, Cond.selects RX1 yX1_step yX1_step, Cond.code yX1_step cX1_step 4 (some .int), Cond.methodLink RX1 50 Lib.Math.min.name, Cond.methodLink RX1 47 yX1_day, Cond.instanceMethod yX1_day, Cond.selects RX1 yX1_day yX1_day, Cond.code yX1_day cX1_day 2 (some .int), Cond.methodLink RL 25 yX8_giveBack, Cond.instanceMethod yX8_giveBack, Cond.selects RX8 yX8_giveBack yX8_giveBack, Cond.code yX8_giveBack cX8_giveBack 4 (some .int), Cond.methodLink RX8 119 yX8_mayGiveBack]
def wsL_law_r19 : List Cond := [Cond.instanceMethod yX8_mayGiveBack, Cond.selects RX8 yX8_mayGiveBack yX8_mayGiveBack, Cond.code yX8_mayGiveBack cX8_mayGiveBack 2 (some .boolean), Cond.methodLink RX8 122 yX8_stepOf, Cond.instanceMethod yX8_stepOf, Cond.selects RX8 yX8_stepOf yX8_stepOf, Cond.code yX8_stepOf cX8_stepOf 4 (some .int), Cond.methodLink RX8 125 yX8_doGiveBack, Cond.instanceMethod yX8_doGiveBack, Cond.selects RX8 yX8_doGiveBack yX8_doGiveBack, Cond.code yX8_doGiveBack cX8_doGiveBack 3 none, Cond.methodLink RL 26 yX7_renew, Cond.instanceMethod yX7_renew, Cond.selects RX7 yX7_renew yX7_renew, Cond.code yX7_renew cX7_renew 2 (some .int), Cond.methodLink RX7 82 yX1_title, Cond.methodLink RX7 85 yX3_rowLength, Cond.instanceMethod yX3_rowLength, Cond.selects RX3 yX3_rowLength yX3_rowLength, Cond.code yX3_rowLength cX3_rowLength 4 (some .int), Cond.methodLink RX7 91 yX4_lendAgain, Cond.instanceMethod yX4_lendAgain, Cond.selects RX4 yX4_lendAgain yX4_lendAgain, Cond.code yX4_lendAgain cX4_lendAgain 2 (some .int)]
def wsL_law_r20 : List Cond := [Cond.methodLink RX4 67 yX4_lendTo, Cond.methodLink RL 30 yX8_renew, Cond.instanceMethod yX8_renew, Cond.selects RX8 yX8_renew yX8_renew, Cond.code yX8_renew cX8_renew 3 (some .int), Cond.methodLink RX8 128 yX8_rowOf, Cond.instanceMethod yX8_rowOf, Cond.selects RX8 yX8_rowOf yX8_rowOf, Cond.code yX8_rowOf cX8_rowOf 4 (some .int), Cond.methodLink RL 31 yX7_lose, Cond.instanceMethod yX7_lose, Cond.selects RX7 yX7_lose yX7_lose, Cond.code yX7_lose cX7_lose 2 (some .int), Cond.methodLink RX7 94 yX4_loseCopy, Cond.instanceMethod yX4_loseCopy, Cond.selects RX4 yX4_loseCopy yX4_loseCopy, Cond.code yX4_loseCopy cX4_loseCopy 3 (some .int), Cond.methodLink RL 34 yX8_lose, Cond.instanceMethod yX8_lose, Cond.selects RX8 yX8_lose yX8_lose, Cond.code yX8_lose cX8_lose 3 (some .int), Cond.methodLink RL 35 yX7_hold, Cond.instanceMethod yX7_hold, Cond.selects RX7 yX7_hold yX7_hold]
def wsL_law_r21 : List Cond := [Cond.code yX7_hold cX7_hold 6 (some .int), Cond.methodLink RX7 97 yX7_refusalToHold, Cond.instanceMethod yX7_refusalToHold, Cond.selects RX7 yX7_refusalToHold yX7_refusalToHold, Cond.code yX7_refusalToHold cX7_refusalToHold 6 (some .int), Cond.constant RX7 110 (-1000000002), Cond.methodLink RX7 226 yX1_ofTitle, Cond.instanceMethod yX1_ofTitle, Cond.selects RX1 yX1_ofTitle yX1_ofTitle, Cond.code yX1_ofTitle cX1_ofTitle 4 (some .int), Cond.methodLink RX7 262 yX3_has, Cond.instanceMethod yX3_has, Cond.selects RX3 yX3_has yX3_has, Cond.code yX3_has cX3_has 4 (some .boolean), Cond.methodLink RX3 50 yX3_reader, Cond.methodLink RX3 53 yX3_title, Cond.instanceMethod yX3_title, Cond.selects RX3 yX3_title yX3_title, Cond.code yX3_title cX3_title 2 (some .int), Cond.methodLink RX7 101 yX4_addHold, Cond.instanceMethod yX4_addHold, Cond.selects RX4 yX4_addHold yX4_addHold, Cond.code yX4_addHold cX4_addHold 6 (some .int), Cond.methodLink RX4 86 yX3_add]
def wsL_law_r22 : List Cond := [Cond.instanceMethod yX3_add, Cond.selects RX3 yX3_add yX3_add, Cond.code yX3_add cX3_add 7 (some .int), Cond.methodLink RL 39 yX8_hold, Cond.instanceMethod yX8_hold, Cond.selects RX8 yX8_hold yX8_hold, Cond.code yX8_hold cX8_hold 5 (some .int), Cond.constant RX8 131 (-1000000002), Cond.methodLink RX8 132 yX8_mayHold, Cond.instanceMethod yX8_mayHold, Cond.selects RX8 yX8_mayHold yX8_mayHold, Cond.code yX8_mayHold cX8_mayHold 5 (some .boolean), Cond.methodLink RX8 135 yX8_doHold, Cond.instanceMethod yX8_doHold, Cond.selects RX8 yX8_doHold yX8_doHold, Cond.code yX8_doHold cX8_doHold 7 (some .int), Cond.methodLink RL 40 yX7_giveUp, Cond.instanceMethod yX7_giveUp, Cond.selects RX7 yX7_giveUp yX7_giveUp, Cond.code yX7_giveUp cX7_giveUp 3 (some .int), Cond.methodLink RX7 104 yX3_slotOf, Cond.methodLink RX7 107 yX4_dropHold, Cond.instanceMethod yX4_dropHold, Cond.selects RX4 yX4_dropHold yX4_dropHold]
def wsL_law_r23 : List Cond := [Cond.code yX4_dropHold cX4_dropHold 3 (some .int), Cond.methodLink RX4 89 yX3_copyFor, Cond.instanceMethod yX3_copyFor, Cond.selects RX3 yX3_copyFor yX3_copyFor, Cond.code yX3_copyFor cX3_copyFor 2 (some .int), Cond.methodLink RL 43 yX8_giveUp, Cond.instanceMethod yX8_giveUp, Cond.selects RX8 yX8_giveUp yX8_giveUp, Cond.code yX8_giveUp cX8_giveUp 4 (some .int), Cond.methodLink RX8 139 yX8_copyFor, Cond.instanceMethod yX8_copyFor, Cond.selects RX8 yX8_copyFor yX8_copyFor, Cond.code yX8_copyFor cX8_copyFor 5 (some .int), Cond.methodLink RL 44 yX7_pass, Cond.instanceMethod yX7_pass, Cond.selects RX7 yX7_pass yX7_pass, Cond.code yX7_pass cX7_pass 3 (some .int), Cond.methodLink RX7 120 yX4_dayPasses, Cond.instanceMethod yX4_dayPasses, Cond.selects RX4 yX4_dayPasses yX4_dayPasses, Cond.code yX4_dayPasses cX4_dayPasses 2 none, Cond.methodLink RX4 99 yX4_seeToday, Cond.instanceMethod yX4_seeToday, Cond.selects RX4 yX4_seeToday yX4_seeToday]
def wsL_law_r24 : List Cond := [Cond.code yX4_seeToday cX4_seeToday 4 none, Cond.methodLink RX4 102 yX1_day, Cond.methodLink RL 47 yX8_pass, Cond.instanceMethod yX8_pass, Cond.selects RX8 yX8_pass yX8_pass, Cond.code yX8_pass cX8_pass 3 (some .int), Cond.constantLong RX8 142 (30), Cond.methodLink RX8 144 yX8_passDay, Cond.instanceMethod yX8_passDay, Cond.selects RX8 yX8_passDay yX8_passDay, Cond.code yX8_passDay cX8_passDay 2 none, Cond.methodLink RL 48 yX7_set, Cond.instanceMethod yX7_set, Cond.selects RX7 yX7_set yX7_set, Cond.code yX7_set cX7_set 3 (some .int), Cond.methodLink RX7 123 yX0_allows, Cond.static yX0_allows, Cond.code yX0_allows cX0_allows 2 (some .boolean), Cond.methodLink RX7 126 yX0_change, Cond.instanceMethod yX0_change, Cond.selects RX0 yX0_change yX0_change, Cond.code yX0_change cX0_change 4 (some .int), Cond.methodLink RL 51 yX8_set, Cond.instanceMethod yX8_set]
def wsL_law_r25 : List Cond := [Cond.selects RX8 yX8_set yX8_set, Cond.code yX8_set cX8_set 4 (some .int), Cond.constantLong RX8 147 (2), Cond.constantLong RX8 149 (60), Cond.constantLong RX8 151 (20), Cond.constantLong RX8 153 (127), Cond.methodLink RL 52 yX7_drift, Cond.instanceMethod yX7_drift, Cond.selects RX7 yX7_drift yX7_drift, Cond.code yX7_drift cX7_drift 4 (some .int), Cond.constant RX7 129 (999999), Cond.methodLink RX7 130 yX5_begin, Cond.instanceMethod yX5_begin, Cond.selects RX5 yX5_begin yX5_begin, Cond.code yX5_begin cX5_begin 2 none, Cond.fieldLink RX5 7 "LoanHouse$Lots" "x" "J", Cond.methodLink RX7 133 yX5_below, Cond.instanceMethod yX5_below, Cond.selects RX5 yX5_below yX5_below, Cond.code yX5_below cX5_below 2 (some .int), Cond.constantLong RX5 13 (16807), Cond.constantLong RX5 15 (2147483647), Cond.methodLink RX7 136 yX7_drawHold, Cond.instanceMethod yX7_drawHold]
def wsL_law_r26 : List Cond := [Cond.selects RX7 yX7_drawHold yX7_drawHold, Cond.code yX7_drawHold cX7_drawHold 5 none, Cond.methodLink RX7 139 yX7_drawLending, Cond.instanceMethod yX7_drawLending, Cond.selects RX7 yX7_drawLending yX7_drawLending, Cond.code yX7_drawLending cX7_drawLending 3 none, Cond.methodLink RX7 142 yX7_drawGivingBack, Cond.instanceMethod yX7_drawGivingBack, Cond.selects RX7 yX7_drawGivingBack yX7_drawGivingBack, Cond.code yX7_drawGivingBack cX7_drawGivingBack 3 none, Cond.methodLink RL 55 yX8_drift, Cond.instanceMethod yX8_drift, Cond.selects RX8 yX8_drift yX8_drift, Cond.code yX8_drift cX8_drift 5 (some .int), Cond.constantLong RX8 166 (999999), Cond.fieldLink RX8 155 "LoanHouseModel" "lot" "J", Cond.methodLink RX8 163 yX8_lotOf, Cond.instanceMethod yX8_lotOf, Cond.selects RX8 yX8_lotOf yX8_lotOf, Cond.code yX8_lotOf cX8_lotOf 2 (some .int), Cond.constantLong RX8 159 (16807), Cond.constantLong RX8 161 (2147483647), Cond.methodLink RX8 168 yX8_drawHold, Cond.instanceMethod yX8_drawHold]
def wsL_law_r27 : List Cond := [Cond.selects RX8 yX8_drawHold yX8_drawHold, Cond.code yX8_drawHold cX8_drawHold 5 none, Cond.methodLink RX8 171 yX8_drawCopy, Cond.instanceMethod yX8_drawCopy, Cond.selects RX8 yX8_drawCopy yX8_drawCopy, Cond.code yX8_drawCopy cX8_drawCopy 4 none, Cond.methodLink RL 56 yX7_undo, Cond.instanceMethod yX7_undo, Cond.selects RX7 yX7_undo yX7_undo, Cond.code yX7_undo cX7_undo 1 (some .int), Cond.methodLink RX7 156 yX6_show, Cond.instanceMethod yX6_show, Cond.selects RX6 yX6_show yX6_show, Cond.code yX6_show cX6_show 4 none, Cond.methodLink RL 60 yX8_undo, Cond.instanceMethod yX8_undo, Cond.selects RX8 yX8_undo yX8_undo, Cond.code yX8_undo cX8_undo 2 (some .int), Cond.methodLink RL 61 yX7_told, Cond.instanceMethod yX7_told, Cond.selects RX7 yX7_told yX7_told, Cond.code yX7_told cX7_told 2 (some .int), Cond.methodLink RX7 169 yX1_thatAre, Cond.instanceMethod yX1_thatAre]
def wsL_law_r28 : List Cond := [Cond.selects RX1 yX1_thatAre yX1_thatAre, Cond.code yX1_thatAre cX1_thatAre 4 (some .int), Cond.methodLink RX7 173 yX3_waiting, Cond.instanceMethod yX3_waiting, Cond.selects RX3 yX3_waiting yX3_waiting, Cond.code yX3_waiting cX3_waiting 3 (some .int), Cond.methodLink RX3 47 yX3_copyFor, Cond.methodLink RX7 185 yX1_overdue, Cond.instanceMethod yX1_overdue, Cond.selects RX1 yX1_overdue yX1_overdue, Cond.code yX1_overdue cX1_overdue 4 (some .int), Cond.methodLink RX7 188 yX0_isClosed, Cond.methodLink RL 64 yX8_told, Cond.instanceMethod yX8_told, Cond.selects RX8 yX8_told yX8_told, Cond.code yX8_told cX8_told 2 (some .int), Cond.methodLink RX8 175 yX8_copiesThat, Cond.instanceMethod yX8_copiesThat, Cond.selects RX8 yX8_copiesThat yX8_copiesThat, Cond.code yX8_copiesThat cX8_copiesThat 4 (some .int), Cond.methodLink RX8 178 yX8_waiting, Cond.instanceMethod yX8_waiting, Cond.selects RX8 yX8_waiting yX8_waiting, Cond.code yX8_waiting cX8_waiting 3 (some .int)]
def wsL_law_r29 : List Cond := [Cond.methodLink RX8 182 yX8_overdue, Cond.instanceMethod yX8_overdue, Cond.selects RX8 yX8_overdue yX8_overdue, Cond.code yX8_overdue cX8_overdue 3 (some .int), Cond.methodLink RL 65 yX7_copyOf, Cond.instanceMethod yX7_copyOf, Cond.selects RX7 yX7_copyOf yX7_copyOf, Cond.code yX7_copyOf cX7_copyOf 3 (some .int), Cond.methodLink RX7 191 yX1_branch, Cond.methodLink RX7 194 yX1_whose, Cond.methodLink RX7 197 yX1_day, Cond.methodLink RX7 200 yX1_step, Cond.methodLink RL 68 yX8_copyOf, Cond.instanceMethod yX8_copyOf, Cond.selects RX8 yX8_copyOf yX8_copyOf, Cond.code yX8_copyOf cX8_copyOf 4 (some .int), Cond.methodLink RL 69 yX7_holdOf, Cond.instanceMethod yX7_holdOf, Cond.selects RX7 yX7_holdOf yX7_holdOf, Cond.code yX7_holdOf cX7_holdOf 4 (some .int), Cond.methodLink RX7 203 yX3_reader, Cond.methodLink RX7 206 yX3_title, Cond.methodLink RX7 207 yX3_branch, Cond.methodLink RX7 208 yX3_need]
def wsL_law_r30 : List Cond := [Cond.methodLink RX7 211 yX3_made, Cond.instanceMethod yX3_made, Cond.selects RX3 yX3_made yX3_made, Cond.code yX3_made cX3_made 2 (some .int), Cond.methodLink RX7 214 yX4_stateOfHold, Cond.instanceMethod yX4_stateOfHold, Cond.selects RX4 yX4_stateOfHold yX4_stateOfHold, Cond.code yX4_stateOfHold cX4_stateOfHold 3 (some .int), Cond.methodLink RX7 217 yX3_copyFor, Cond.methodLink RX7 220 yX3_placeInRow, Cond.instanceMethod yX3_placeInRow, Cond.selects RX3 yX3_placeInRow yX3_placeInRow, Cond.code yX3_placeInRow cX3_placeInRow 4 (some .int), Cond.methodLink RX3 62 yX3_isAhead, Cond.instanceMethod yX3_isAhead, Cond.selects RX3 yX3_isAhead yX3_isAhead, Cond.code yX3_isAhead cX3_isAhead 3 (some .boolean), Cond.methodLink RX7 223 yX4_soon, Cond.instanceMethod yX4_soon, Cond.selects RX4 yX4_soon yX4_soon, Cond.code yX4_soon cX4_soon 2 (some .int), Cond.methodLink RX4 124 yX4_stateOfHold, Cond.methodLink RX4 127 yX3_title, Cond.methodLink RX4 130 yX3_placeInRow]
def wsL_law_r31 : List Cond := [Cond.methodLink RX4 133 yX1_dayAtPlace, Cond.instanceMethod yX1_dayAtPlace, Cond.selects RX1 yX1_dayAtPlace yX1_dayAtPlace, Cond.code yX1_dayAtPlace cX1_dayAtPlace 5 (some .int), Cond.constant RX1 74 (99999), Cond.methodLink RX1 67 yX1_placeOfDay, Cond.instanceMethod yX1_placeOfDay, Cond.selects RX1 yX1_placeOfDay yX1_placeOfDay, Cond.code yX1_placeOfDay cX1_placeOfDay 8 (some .int), Cond.methodLink RX1 71 yX1_dayIn, Cond.instanceMethod yX1_dayIn, Cond.selects RX1 yX1_dayIn yX1_dayIn, Cond.code yX1_dayIn cX1_dayIn 4 (some .int), Cond.methodLink RX1 55 Lib.Math.max.name, Cond.methodLink RL 72 yX8_holdOf, Cond.instanceMethod yX8_holdOf, Cond.selects RX8 yX8_holdOf yX8_holdOf, Cond.code yX8_holdOf cX8_holdOf 4 (some .int), Cond.methodLink RX8 185 yX8_placeOf, Cond.instanceMethod yX8_placeOf, Cond.selects RX8 yX8_placeOf yX8_placeOf, Cond.code yX8_placeOf cX8_placeOf 4 (some .int), Cond.methodLink RX8 192 yX8_soonOf, Cond.instanceMethod yX8_soonOf]
def wsL_law_r32 : List Cond := [Cond.selects RX8 yX8_soonOf yX8_soonOf, Cond.code yX8_soonOf cX8_soonOf 7 (some .int), Cond.constant RX8 191 (99999), Cond.methodLink RX8 188 yX8_dayOf, Cond.instanceMethod yX8_dayOf, Cond.selects RX8 yX8_dayOf yX8_dayOf, Cond.code yX8_dayOf cX8_dayOf 3 (some .int), Cond.methodLink RL 73 yX7_titleOf, Cond.instanceMethod yX7_titleOf, Cond.selects RX7 yX7_titleOf yX7_titleOf, Cond.code yX7_titleOf cX7_titleOf 3 (some .int), Cond.methodLink RX7 229 yX3_firstOfRow, Cond.methodLink RX7 232 yX3_number, Cond.methodLink RX7 235 yX3_longestWait, Cond.instanceMethod yX3_longestWait, Cond.selects RX3 yX3_longestWait yX3_longestWait, Cond.code yX3_longestWait cX3_longestWait 5 (some .int), Cond.methodLink RX3 68 Lib.Math.max.name, Cond.methodLink RX3 65 yX3_made, Cond.methodLink RL 76 yX8_titleOf, Cond.instanceMethod yX8_titleOf, Cond.selects RX8 yX8_titleOf yX8_titleOf, Cond.code yX8_titleOf cX8_titleOf 4 (some .int), Cond.methodLink RX8 195 yX8_copiesOf]
def wsL_law_r33 : List Cond := [Cond.instanceMethod yX8_copiesOf, Cond.selects RX8 yX8_copiesOf yX8_copiesOf, Cond.code yX8_copiesOf cX8_copiesOf 5 (some .int), Cond.methodLink RX8 199 yX8_longestOf, Cond.instanceMethod yX8_longestOf, Cond.selects RX8 yX8_longestOf yX8_longestOf, Cond.code yX8_longestOf cX8_longestOf 5 (some .int), Cond.methodLink RL 77 yX7_readerOf, Cond.instanceMethod yX7_readerOf, Cond.selects RX7 yX7_readerOf yX7_readerOf, Cond.code yX7_readerOf cX7_readerOf 3 (some .int), Cond.methodLink RX7 241 yX3_ofReader, Cond.instanceMethod yX3_ofReader, Cond.selects RX3 yX3_ofReader yX3_ofReader, Cond.code yX3_ofReader cX3_ofReader 4 (some .int), Cond.methodLink RX7 244 yX1_owedBy, Cond.instanceMethod yX1_owedBy, Cond.selects RX1 yX1_owedBy yX1_owedBy, Cond.code yX1_owedBy cX1_owedBy 5 (some .int), Cond.methodLink RX7 247 yX1_greatestStep, Cond.instanceMethod yX1_greatestStep, Cond.selects RX1 yX1_greatestStep yX1_greatestStep, Cond.code yX1_greatestStep cX1_greatestStep 5 (some .int), Cond.methodLink RX1 58 yX1_step]
def wsL_law_r34 : List Cond := [Cond.methodLink RL 80 yX8_readerOf, Cond.instanceMethod yX8_readerOf, Cond.selects RX8 yX8_readerOf yX8_readerOf, Cond.code yX8_readerOf cX8_readerOf 3 (some .int), Cond.methodLink RX8 202 yX8_holdsOf, Cond.instanceMethod yX8_holdsOf, Cond.selects RX8 yX8_holdsOf yX8_holdsOf, Cond.code yX8_holdsOf cX8_holdsOf 4 (some .int), Cond.methodLink RX8 205 yX8_owedBy, Cond.instanceMethod yX8_owedBy, Cond.selects RX8 yX8_owedBy yX8_owedBy, Cond.code yX8_owedBy cX8_owedBy 5 (some .int), Cond.methodLink RX8 208 yX8_greatestStep, Cond.instanceMethod yX8_greatestStep, Cond.selects RX8 yX8_greatestStep yX8_greatestStep, Cond.code yX8_greatestStep cX8_greatestStep 5 (some .int), Cond.methodLink RL 81 yX7_keep, Cond.instanceMethod yX7_keep, Cond.selects RX7 yX7_keep yX7_keep, Cond.code yX7_keep cX7_keep 2 (some .int), Cond.methodLink RL 84 yX8_keep, Cond.instanceMethod yX8_keep, Cond.selects RX8 yX8_keep yX8_keep, Cond.code yX8_keep cX8_keep 3 (some .int)]
def wsL_law_r35 : List Cond := [Cond.methodLink RL 85 yX7_goBack, Cond.instanceMethod yX7_goBack, Cond.selects RX7 yX7_goBack yX7_goBack, Cond.code yX7_goBack cX7_goBack 2 (some .int), Cond.methodLink RX7 253 yX6_has, Cond.instanceMethod yX6_has, Cond.selects RX6 yX6_has yX6_has, Cond.code yX6_has cX6_has 2 (some .boolean), Cond.methodLink RL 88 yX8_goBack, Cond.instanceMethod yX8_goBack, Cond.selects RX8 yX8_goBack yX8_goBack, Cond.code yX8_goBack cX8_goBack 3 (some .int)]
def wsL_law : List Cond := (wsL_law_r1 ++ (wsL_law_r2 ++ (wsL_law_r3 ++ (wsL_law_r4 ++ (wsL_law_r5 ++ (wsL_law_r6 ++ (wsL_law_r7 ++ (wsL_law_r8 ++ (wsL_law_r9 ++ (wsL_law_r10 ++ (wsL_law_r11 ++ (wsL_law_r12 ++ (wsL_law_r13 ++ (wsL_law_r14 ++ (wsL_law_r15 ++ (wsL_law_r16 ++ (wsL_law_r17 ++ (wsL_law_r18 ++ (wsL_law_r19 ++ (wsL_law_r20 ++ (wsL_law_r21 ++ (wsL_law_r22 ++ (wsL_law_r23 ++ (wsL_law_r24 ++ (wsL_law_r25 ++ (wsL_law_r26 ++ (wsL_law_r27 ++ (wsL_law_r28 ++ (wsL_law_r29 ++ (wsL_law_r30 ++ (wsL_law_r31 ++ (wsL_law_r32 ++ (wsL_law_r33 ++ (wsL_law_r34 ++ wsL_law_r35)))))))))))))))))))))))))))))))))) ++ wsX70 ++ wsX80 ++ wsX40 ++ wsX60 ++ wsX50 ++ wsX00 ++ wsX10 ++ wsX30 ++ wsX20 ++ ([] : List Cond)
abbrev vwCl : List vw_C := [(RX0, TX0, 4), (RX1, TX1, 2), (RX2, TX2, 3), (RX3, TX3, 3), (RX4, TX4, 4), (RX5, TX5, 1), (RX6, TX6, 1), (RX7, TX7, 6), (RX8, TX8, 6)]
end
section
theorem mem_r {big ws : List Cond} (ps : List Nat) (hp : ws = ps.filterMap (fun i => big[i]?)) : ∀ w ∈ ws, w ∈ big := fun w hw => by
  rw [hp] at hw
  obtain ⟨i, -, hi⟩ := List.mem_filterMap.mp hw
  exact List.mem_of_getElem? hi
set_option maxRecDepth 20000 in
theorem in_wsL_law_r1 : ∀ w ∈ wsL_law_r1, w ∈ lw_tbl := mem_r [69, 70, 57, 682, 683, 66, 71, 72, 73, 74, 75, 76, 77, 78, 58, 202, 179, 180, 64, 203, 204, 192, 193, 65] (by decide +kernel)
set_option maxRecDepth 20000 in
theorem in_wsL_law_r2 : ∀ w ∈ wsL_law_r2, w ∈ lw_tbl := mem_r [205, 80, 81, 82, 83, 84, 59, 162, 107, 108, 60, 164, 142, 143, 63, 166, 86, 87, 88, 92, 94, 96, 110, 111] (by decide +kernel)
set_option maxRecDepth 20000 in
theorem in_wsL_law_r3 : ∀ w ∈ wsL_law_r3, w ∈ lw_tbl := mem_r [112, 113, 114, 61, 133, 115, 116, 117, 118, 119, 120, 62, 121, 122, 123, 132, 124, 145, 146, 147, 148, 150, 149, 181] (by decide +kernel)
set_option maxRecDepth 20000 in
theorem in_wsL_law_r4 : ∀ w ∈ wsL_law_r4, w ∈ lw_tbl := mem_r [182, 183, 184, 185, 186, 188, 195, 196, 197, 684, 685, 686, 687, 688, 689, 691, 707, 692, 221, 222, 223, 224, 228, 229] (by decide +kernel)
set_option maxRecDepth 20000 in
theorem in_wsL_law_r5 : ∀ w ∈ wsL_law_r5, w ∈ lw_tbl := mem_r [225, 226, 227, 230, 232, 0, 233, 207, 206, 270, 257, 258, 234, 235, 236, 237, 240, 241, 242, 243, 168, 244, 245, 246] (by decide +kernel)
set_option maxRecDepth 20000 in
theorem in_wsL_law_r6 : ∀ w ∈ wsL_law_r6, w ∈ lw_tbl := mem_r [247, 89, 248, 249, 250, 251, 135, 252, 253, 254, 255, 256, 259, 261, 260, 67, 262, 263, 264, 265, 151, 154, 266, 267] (by decide +kernel)
set_option maxRecDepth 20000 in
theorem in_wsL_law_r7 : ∀ w ∈ wsL_law_r7, w ∈ lw_tbl := mem_r [268, 62, 269, 271, 272, 273, 274, 275, 276, 277, 278, 279, 280, 281, 282, 283, 284, 285, 286, 287, 289, 1, 290, 291] (by decide +kernel)
set_option maxRecDepth 20000 in
theorem in_wsL_law_r8 : ∀ w ∈ wsL_law_r8, w ∈ lw_tbl := mem_r [292, 293, 294, 295, 297, 2, 298, 299, 300, 301, 302, 303, 304, 305, 306, 307, 308, 309, 310, 311, 312, 313, 314, 315] (by decide +kernel)
set_option maxRecDepth 20000 in
theorem in_wsL_law_r9 : ∀ w ∈ wsL_law_r9, w ∈ lw_tbl := mem_r [316, 317, 318, 319, 320, 321, 322, 323, 324, 325, 326, 327, 329, 330, 331, 332, 333, 334, 336, 3, 337, 338, 339, 340] (by decide +kernel)
set_option maxRecDepth 20000 in
theorem in_wsL_law_r10 : ∀ w ∈ wsL_law_r10, w ∈ lw_tbl := mem_r [341, 342, 343, 344, 345, 346, 348, 349, 350, 351, 352, 353, 708, 709, 710, 711, 723, 724, 712, 713, 714, 715, 716, 717] (by decide +kernel)
set_option maxRecDepth 20000 in
theorem in_wsL_law_r11 : ∀ w ∈ wsL_law_r11, w ∈ lw_tbl := mem_r [718, 719, 720, 721, 722, 725, 727, 16, 728, 690, 729, 731, 17, 732, 733, 735, 18, 736, 737, 739, 19, 740, 741, 743] (by decide +kernel)
set_option maxRecDepth 20000 in
theorem in_wsL_law_r12 : ∀ w ∈ wsL_law_r12, w ∈ lw_tbl := mem_r [20, 744, 745, 747, 21, 748, 749, 751, 22, 752, 753, 755, 23, 756, 757, 759, 24, 760, 761, 762, 763, 764, 766, 25] (by decide +kernel)
set_option maxRecDepth 20000 in
theorem in_wsL_law_r13 : ∀ w ∈ wsL_law_r13, w ∈ lw_tbl := mem_r [767, 355, 356, 357, 358, 359, 361, 4, 362, 400, 363, 365, 5, 366, 367, 368, 369, 370, 371, 372, 373, 374, 375, 376] (by decide +kernel)
set_option maxRecDepth 20000 in
theorem in_wsL_law_r14 : ∀ w ∈ wsL_law_r14, w ∈ lw_tbl := mem_r [377, 378, 379, 380, 381, 382, 383, 384, 385, 386, 387, 388, 389, 391, 6, 392, 393, 394, 395, 68, 396, 397, 398, 399] (by decide +kernel)
set_option maxRecDepth 20000 in
theorem in_wsL_law_r15 : ∀ w ∈ wsL_law_r15, w ∈ lw_tbl := mem_r [401, 402, 403, 404, 405, 406, 407, 408, 409, 410, 411, 412, 413, 414, 415, 416, 417, 418, 419, 420, 421, 768, 769, 770] (by decide +kernel)
set_option maxRecDepth 20000 in
theorem in_wsL_law_r16 : ∀ w ∈ wsL_law_r16, w ∈ lw_tbl := mem_r [771, 795, 772, 774, 26, 775, 776, 777, 778, 779, 780, 782, 27, 783, 784, 786, 28, 787, 788, 790, 29, 791, 792, 793] (by decide +kernel)
set_option maxRecDepth 20000 in
theorem in_wsL_law_r17 : ∀ w ∈ wsL_law_r17, w ∈ lw_tbl := mem_r [794, 796, 798, 30, 799, 800, 802, 31, 803, 804, 806, 32, 807, 808, 810, 33, 811, 812, 813, 814, 422, 423, 424, 425] (by decide +kernel)
set_option maxRecDepth 20000 in
theorem in_wsL_law_r18 : ∀ w ∈ wsL_law_r18, w ∈ lw_tbl := mem_r [426, 428, 7, 429, 430, 431, 432, 433, 434, 444, 435, 436, 437, 438, 443, 439, 440, 441, 442, 815, 816, 817, 818, 819] (by decide +kernel)
set_option maxRecDepth 20000 in
theorem in_wsL_law_r19 : ∀ w ∈ wsL_law_r19, w ∈ lw_tbl := mem_r [821, 34, 822, 823, 825, 35, 826, 827, 829, 36, 830, 445, 446, 447, 448, 449, 450, 451, 452, 453, 454, 455, 456, 457] (by decide +kernel)
set_option maxRecDepth 20000 in
theorem in_wsL_law_r20 : ∀ w ∈ wsL_law_r20, w ∈ lw_tbl := mem_r [458, 831, 832, 833, 834, 835, 837, 37, 838, 459, 460, 461, 462, 463, 464, 465, 466, 839, 840, 841, 842, 467, 468, 469] (by decide +kernel)
set_option maxRecDepth 20000 in
theorem in_wsL_law_r21 : ∀ w ∈ wsL_law_r21, w ∈ lw_tbl := mem_r [470, 471, 473, 8, 474, 475, 476, 477, 478, 479, 480, 481, 482, 483, 484, 485, 486, 487, 488, 489, 490, 491, 492, 493] (by decide +kernel)
set_option maxRecDepth 20000 in
theorem in_wsL_law_r22 : ∀ w ∈ wsL_law_r22, w ∈ lw_tbl := mem_r [494, 495, 496, 843, 844, 845, 846, 847, 848, 850, 38, 851, 852, 854, 39, 855, 497, 498, 499, 500, 501, 502, 503, 504] (by decide +kernel)
set_option maxRecDepth 20000 in
theorem in_wsL_law_r23 : ∀ w ∈ wsL_law_r23, w ∈ lw_tbl := mem_r [505, 506, 507, 508, 509, 856, 857, 858, 859, 860, 862, 40, 863, 510, 511, 512, 513, 514, 515, 516, 517, 518, 520, 9] (by decide +kernel)
set_option maxRecDepth 20000 in
theorem in_wsL_law_r24 : ∀ w ∈ wsL_law_r24, w ∈ lw_tbl := mem_r [521, 522, 864, 865, 866, 867, 868, 869, 871, 41, 872, 523, 524, 525, 526, 527, 528, 529, 530, 531, 532, 533, 873, 874] (by decide +kernel)
set_option maxRecDepth 20000 in
theorem in_wsL_law_r25 : ∀ w ∈ wsL_law_r25, w ∈ lw_tbl := mem_r [875, 876, 877, 878, 879, 880, 534, 535, 536, 537, 538, 539, 540, 541, 542, 198, 543, 544, 545, 546, 547, 548, 549, 551] (by decide +kernel)
set_option maxRecDepth 20000 in
theorem in_wsL_law_r26 : ∀ w ∈ wsL_law_r26, w ∈ lw_tbl := mem_r [10, 552, 553, 555, 11, 556, 557, 559, 12, 560, 881, 882, 883, 884, 885, 693, 886, 888, 42, 889, 890, 891, 892, 894] (by decide +kernel)
set_option maxRecDepth 20000 in
theorem in_wsL_law_r27 : ∀ w ∈ wsL_law_r27, w ∈ lw_tbl := mem_r [43, 895, 896, 898, 44, 899, 561, 562, 563, 564, 565, 566, 567, 568, 900, 901, 902, 903, 569, 570, 571, 572, 573, 574] (by decide +kernel)
set_option maxRecDepth 20000 in
theorem in_wsL_law_r28 : ∀ w ∈ wsL_law_r28, w ∈ lw_tbl := mem_r [575, 576, 577, 578, 579, 580, 581, 582, 583, 584, 585, 586, 904, 905, 906, 907, 908, 910, 45, 911, 912, 914, 46, 915] (by decide +kernel)
set_option maxRecDepth 20000 in
theorem in_wsL_law_r29 : ∀ w ∈ wsL_law_r29, w ∈ lw_tbl := mem_r [916, 918, 47, 919, 587, 588, 589, 590, 591, 592, 593, 594, 920, 921, 922, 923, 595, 596, 597, 598, 599, 600, 601, 602] (by decide +kernel)
set_option maxRecDepth 20000 in
theorem in_wsL_law_r30 : ∀ w ∈ wsL_law_r30, w ∈ lw_tbl := mem_r [603, 604, 605, 606, 607, 608, 609, 610, 611, 612, 613, 614, 615, 616, 618, 13, 619, 620, 621, 622, 623, 624, 625, 626] (by decide +kernel)
set_option maxRecDepth 20000 in
theorem in_wsL_law_r31 : ∀ w ∈ wsL_law_r31, w ∈ lw_tbl := mem_r [627, 628, 629, 630, 639, 631, 633, 14, 634, 635, 637, 15, 638, 640, 924, 925, 926, 927, 928, 930, 48, 931, 932, 934] (by decide +kernel)
set_option maxRecDepth 20000 in
theorem in_wsL_law_r32 : ∀ w ∈ wsL_law_r32, w ∈ lw_tbl := mem_r [49, 935, 940, 936, 938, 50, 939, 641, 642, 643, 644, 645, 646, 647, 648, 649, 650, 652, 651, 941, 942, 943, 944, 945] (by decide +kernel)
set_option maxRecDepth 20000 in
theorem in_wsL_law_r33 : ∀ w ∈ wsL_law_r33, w ∈ lw_tbl := mem_r [947, 51, 948, 949, 951, 52, 952, 653, 654, 655, 656, 657, 658, 659, 660, 661, 662, 663, 664, 665, 666, 667, 668, 669] (by decide +kernel)
set_option maxRecDepth 20000 in
theorem in_wsL_law_r34 : ∀ w ∈ wsL_law_r34, w ∈ lw_tbl := mem_r [953, 954, 955, 956, 957, 959, 53, 960, 961, 963, 54, 964, 965, 967, 55, 968, 670, 671, 672, 673, 969, 970, 971, 972] (by decide +kernel)
set_option maxRecDepth 20000 in
theorem in_wsL_law_r35 : ∀ w ∈ wsL_law_r35, w ∈ lw_tbl := mem_r [674, 675, 676, 677, 678, 679, 680, 681, 973, 974, 975, 976] (by decide +kernel)
set_option maxRecDepth 20000 in
theorem lyX0 : ∀ w ∈ wsX00, w ∈ lw_tbl := mem_r [98, 100, 102, 104] (by decide +kernel)
set_option maxRecDepth 20000 in
theorem lyX1 : ∀ w ∈ wsX10, w ∈ lw_tbl := mem_r [137, 139] (by decide +kernel)
set_option maxRecDepth 20000 in
theorem lyX2 : ∀ w ∈ wsX20, w ∈ lw_tbl := mem_r [125, 127, 129] (by decide +kernel)
set_option maxRecDepth 20000 in
theorem lyX3 : ∀ w ∈ wsX30, w ∈ lw_tbl := mem_r [155, 157, 159] (by decide +kernel)
set_option maxRecDepth 20000 in
theorem lyX4 : ∀ w ∈ wsX40, w ∈ lw_tbl := mem_r [170, 172, 174, 176] (by decide +kernel)
set_option maxRecDepth 20000 in
theorem lyX5 : ∀ w ∈ wsX50, w ∈ lw_tbl := mem_r [199] (by decide +kernel)
set_option maxRecDepth 20000 in
theorem lyX6 : ∀ w ∈ wsX60, w ∈ lw_tbl := mem_r [189] (by decide +kernel)
set_option maxRecDepth 20000 in
theorem lyX7 : ∀ w ∈ wsX70, w ∈ lw_tbl := mem_r [208, 210, 212, 214, 216, 218] (by decide +kernel)
set_option maxRecDepth 20000 in
theorem lyX8 : ∀ w ∈ wsX80, w ∈ lw_tbl := mem_r [694, 696, 698, 700, 702, 704] (by decide +kernel)
theorem wsL_law_in : ∀ w ∈ wsL_law, w ∈ lw_tbl := (List.forall_mem_append.mpr ⟨(List.forall_mem_append.mpr ⟨(List.forall_mem_append.mpr ⟨(List.forall_mem_append.mpr ⟨(List.forall_mem_append.mpr ⟨(List.forall_mem_append.mpr ⟨(List.forall_mem_append.mpr ⟨(List.forall_mem_append.mpr ⟨(List.forall_mem_append.mpr ⟨(List.forall_mem_append.mpr ⟨(List.forall_mem_append.mpr ⟨in_wsL_law_r1, (List.forall_mem_append.mpr ⟨in_wsL_law_r2, (List.forall_mem_append.mpr ⟨in_wsL_law_r3, (List.forall_mem_append.mpr ⟨in_wsL_law_r4, (List.forall_mem_append.mpr ⟨in_wsL_law_r5, (List.forall_mem_append.mpr ⟨in_wsL_law_r6, (List.forall_mem_append.mpr ⟨in_wsL_law_r7, (List.forall_mem_append.mpr ⟨in_wsL_law_r8, (List.forall_mem_append.mpr ⟨in_wsL_law_r9, (List.forall_mem_append.mpr ⟨in_wsL_law_r10, (List.forall_mem_append.mpr ⟨in_wsL_law_r11, (List.forall_mem_append.mpr ⟨in_wsL_law_r12, (List.forall_mem_append.mpr ⟨in_wsL_law_r13, (List.forall_mem_append.mpr ⟨in_wsL_law_r14, (List.forall_mem_append.mpr ⟨in_wsL_law_r15, (List.forall_mem_append.mpr ⟨in_wsL_law_r16, (List.forall_mem_append.mpr ⟨in_wsL_law_r17, (List.forall_mem_append.mpr ⟨in_wsL_law_r18, (List.forall_mem_append.mpr ⟨in_wsL_law_r19, (List.forall_mem_append.mpr ⟨in_wsL_law_r20, (List.forall_mem_append.mpr ⟨in_wsL_law_r21, (List.forall_mem_append.mpr ⟨in_wsL_law_r22, (List.forall_mem_append.mpr ⟨in_wsL_law_r23, (List.forall_mem_append.mpr ⟨in_wsL_law_r24, (List.forall_mem_append.mpr ⟨in_wsL_law_r25, (List.forall_mem_append.mpr ⟨in_wsL_law_r26, (List.forall_mem_append.mpr ⟨in_wsL_law_r27, (List.forall_mem_append.mpr ⟨in_wsL_law_r28, (List.forall_mem_append.mpr ⟨in_wsL_law_r29, (List.forall_mem_append.mpr ⟨in_wsL_law_r30, (List.forall_mem_append.mpr ⟨in_wsL_law_r31, (List.forall_mem_append.mpr ⟨in_wsL_law_r32, (List.forall_mem_append.mpr ⟨in_wsL_law_r33, (List.forall_mem_append.mpr ⟨in_wsL_law_r34, in_wsL_law_r35⟩)⟩)⟩)⟩)⟩)⟩)⟩)⟩)⟩)⟩)⟩)⟩)⟩)⟩)⟩)⟩)⟩)⟩)⟩)⟩)⟩)⟩)⟩)⟩)⟩)⟩)⟩)⟩)⟩)⟩)⟩)⟩)⟩)⟩), lyX7⟩), lyX8⟩), lyX4⟩), lyX6⟩), lyX5⟩), lyX0⟩), lyX1⟩), lyX3⟩), lyX2⟩), fun _ h => absurd h List.not_mem_nil⟩)
theorem inlX0 : ∀ w ∈ wsX00, w ∈ wsL_law := fun _ h => List.mem_append_left _ (List.mem_append_left _ (List.mem_append_left _ (List.mem_append_left _ (List.mem_append_right _ h))))
theorem inX0 : ∀ w ∈ wsX00, w ∈ lw_tbl := fun w h => wsL_law_in w (inlX0 w h)
theorem inlX1 : ∀ w ∈ wsX10, w ∈ wsL_law := fun _ h => List.mem_append_left _ (List.mem_append_left _ (List.mem_append_left _ (List.mem_append_right _ h)))
theorem inX1 : ∀ w ∈ wsX10, w ∈ lw_tbl := fun w h => wsL_law_in w (inlX1 w h)
theorem inlX2 : ∀ w ∈ wsX20, w ∈ wsL_law := fun _ h => List.mem_append_left _ (List.mem_append_right _ h)
theorem inX2 : ∀ w ∈ wsX20, w ∈ lw_tbl := fun w h => wsL_law_in w (inlX2 w h)
theorem inlX3 : ∀ w ∈ wsX30, w ∈ wsL_law := fun _ h => List.mem_append_left _ (List.mem_append_left _ (List.mem_append_right _ h))
theorem inX3 : ∀ w ∈ wsX30, w ∈ lw_tbl := fun w h => wsL_law_in w (inlX3 w h)
theorem inlX4 : ∀ w ∈ wsX40, w ∈ wsL_law := fun _ h => List.mem_append_left _ (List.mem_append_left _ (List.mem_append_left _ (List.mem_append_left _ (List.mem_append_left _ (List.mem_append_left _ (List.mem_append_left _ (List.mem_append_right _ h)))))))
theorem inX4 : ∀ w ∈ wsX40, w ∈ lw_tbl := fun w h => wsL_law_in w (inlX4 w h)
theorem inlX5 : ∀ w ∈ wsX50, w ∈ wsL_law := fun _ h => List.mem_append_left _ (List.mem_append_left _ (List.mem_append_left _ (List.mem_append_left _ (List.mem_append_left _ (List.mem_append_right _ h)))))
theorem inX5 : ∀ w ∈ wsX50, w ∈ lw_tbl := fun w h => wsL_law_in w (inlX5 w h)
theorem inlX6 : ∀ w ∈ wsX60, w ∈ wsL_law := fun _ h => List.mem_append_left _ (List.mem_append_left _ (List.mem_append_left _ (List.mem_append_left _ (List.mem_append_left _ (List.mem_append_left _ (List.mem_append_right _ h))))))
theorem inX6 : ∀ w ∈ wsX60, w ∈ lw_tbl := fun w h => wsL_law_in w (inlX6 w h)
theorem inlX7 : ∀ w ∈ wsX70, w ∈ wsL_law := fun _ h => List.mem_append_left _ (List.mem_append_left _ (List.mem_append_left _ (List.mem_append_left _ (List.mem_append_left _ (List.mem_append_left _ (List.mem_append_left _ (List.mem_append_left _ (List.mem_append_left _ (List.mem_append_right _ h)))))))))
theorem inX7 : ∀ w ∈ wsX70, w ∈ lw_tbl := fun w h => wsL_law_in w (inlX7 w h)
theorem inlX8 : ∀ w ∈ wsX80, w ∈ wsL_law := fun _ h => List.mem_append_left _ (List.mem_append_left _ (List.mem_append_left _ (List.mem_append_left _ (List.mem_append_left _ (List.mem_append_left _ (List.mem_append_left _ (List.mem_append_left _ (List.mem_append_right _ h))))))))
theorem inX8 : ∀ w ∈ wsX80, w ∈ lw_tbl := fun w h => wsL_law_in w (inlX8 w h)
theorem inJ6 : ∀ w ∈ wsJ60, w ∈ lw_tbl := by decide +kernel
theorem inJ9 : ∀ w ∈ wsJ90, w ∈ lw_tbl := by decide +kernel
theorem inJ10 : ∀ w ∈ wsJ100, w ∈ lw_tbl := by decide +kernel
end
section
theorem dX2_init_0 : decode cX2_init 0 = .ok (.aload_n 0, 1) := by decide +kernel
theorem dX2_init_1 : decode cX2_init 1 = .ok (.invokespecial 3, 3) := by decide +kernel
theorem dX2_init_4 : decode cX2_init 4 = .ok (.aload_n 0, 1) := by decide +kernel
theorem dX2_init_5 : decode cX2_init 5 = .ok (.iload_n 1, 1) := by decide +kernel
theorem dX2_init_6 : decode cX2_init 6 = .ok (.iconst 0, 1) := by decide +kernel
theorem dX2_init_7 : decode cX2_init 7 = .ok (.invokestatic 9, 3) := by decide +kernel
theorem dX2_init_10 : decode cX2_init 10 = .ok (.putfield 15, 3) := by decide +kernel
theorem dX2_init_13 : decode cX2_init 13 = .ok (.aload_n 0, 1) := by decide +kernel
theorem dX2_init_14 : decode cX2_init 14 = .ok (.iload_n 2, 1) := by decide +kernel
theorem dX2_init_15 : decode cX2_init 15 = .ok (.iconst 0, 1) := by decide +kernel
theorem dX2_init_16 : decode cX2_init 16 = .ok (.invokestatic 9, 3) := by decide +kernel
theorem dX2_init_19 : decode cX2_init 19 = .ok (.putfield 21, 3) := by decide +kernel
theorem dX2_init_22 : decode cX2_init 22 = .ok (.aload_n 0, 1) := by decide +kernel
theorem dX2_init_23 : decode cX2_init 23 = .ok (.aload_n 0, 1) := by decide +kernel
theorem dX2_init_24 : decode cX2_init 24 = .ok (.getfield 15, 3) := by decide +kernel
theorem dX2_init_27 : decode cX2_init 27 = .ok (.aload_n 0, 1) := by decide +kernel
theorem dX2_init_28 : decode cX2_init 28 = .ok (.getfield 21, 3) := by decide +kernel
theorem dX2_init_31 : decode cX2_init 31 = .ok (.imul, 1) := by decide +kernel
theorem dX2_init_32 : decode cX2_init 32 = .ok (.iconst 0, 1) := by decide +kernel
theorem dX2_init_33 : decode cX2_init 33 = .ok (.invokestatic 9, 3) := by decide +kernel
theorem dX2_init_36 : decode cX2_init 36 = .ok (.newarray .int, 2) := by decide +kernel
theorem dX2_init_38 : decode cX2_init 38 = .ok (.putfield 24, 3) := by decide +kernel
theorem dX2_init_41 : decode cX2_init 41 = .ok (.return_, 1) := by decide +kernel
theorem dX2_at_0 : decode cX2_at 0 = .ok (.iload_n 1, 1) := by decide +kernel
theorem dX2_at_1 : decode cX2_at 1 = .ok (.ifCond .lt 23, 3) := by decide +kernel
theorem dX2_at_4 : decode cX2_at 4 = .ok (.iload_n 1, 1) := by decide +kernel
theorem dX2_at_5 : decode cX2_at 5 = .ok (.aload_n 0, 1) := by decide +kernel
theorem dX2_at_6 : decode cX2_at 6 = .ok (.getfield 15, 3) := by decide +kernel
theorem dX2_at_9 : decode cX2_at 9 = .ok (.if_icmp .ge 15, 3) := by decide +kernel
theorem dX2_at_12 : decode cX2_at 12 = .ok (.iload_n 2, 1) := by decide +kernel
theorem dX2_at_13 : decode cX2_at 13 = .ok (.ifCond .lt 11, 3) := by decide +kernel
theorem dX2_at_16 : decode cX2_at 16 = .ok (.iload_n 2, 1) := by decide +kernel
theorem dX2_at_17 : decode cX2_at 17 = .ok (.aload_n 0, 1) := by decide +kernel
theorem dX2_at_18 : decode cX2_at 18 = .ok (.getfield 21, 3) := by decide +kernel
theorem dX2_at_21 : decode cX2_at 21 = .ok (.if_icmp .lt 5, 3) := by decide +kernel
theorem dX2_at_24 : decode cX2_at 24 = .ok (.iconst (-1), 1) := by decide +kernel
theorem dX2_at_25 : decode cX2_at 25 = .ok (.ireturn, 1) := by decide +kernel
theorem dX2_at_26 : decode cX2_at 26 = .ok (.aload_n 0, 1) := by decide +kernel
theorem dX2_at_27 : decode cX2_at 27 = .ok (.getfield 24, 3) := by decide +kernel
theorem dX2_at_30 : decode cX2_at 30 = .ok (.iload_n 1, 1) := by decide +kernel
theorem dX2_at_31 : decode cX2_at 31 = .ok (.aload_n 0, 1) := by decide +kernel
theorem dX2_at_32 : decode cX2_at 32 = .ok (.getfield 21, 3) := by decide +kernel
theorem dX2_at_35 : decode cX2_at 35 = .ok (.imul, 1) := by decide +kernel
theorem dX2_at_36 : decode cX2_at 36 = .ok (.iload_n 2, 1) := by decide +kernel
theorem dX2_at_37 : decode cX2_at 37 = .ok (.iadd, 1) := by decide +kernel
theorem dX2_at_38 : decode cX2_at 38 = .ok (.iaload, 1) := by decide +kernel
theorem dX2_at_39 : decode cX2_at 39 = .ok (.ireturn, 1) := by decide +kernel
theorem dX2_put_0 : decode cX2_put 0 = .ok (.iload_n 1, 1) := by decide +kernel
theorem dX2_put_1 : decode cX2_put 1 = .ok (.ifCond .lt 23, 3) := by decide +kernel
theorem dX2_put_4 : decode cX2_put 4 = .ok (.iload_n 1, 1) := by decide +kernel
theorem dX2_put_5 : decode cX2_put 5 = .ok (.aload_n 0, 1) := by decide +kernel
theorem dX2_put_6 : decode cX2_put 6 = .ok (.getfield 15, 3) := by decide +kernel
theorem dX2_put_9 : decode cX2_put 9 = .ok (.if_icmp .ge 15, 3) := by decide +kernel
theorem dX2_put_12 : decode cX2_put 12 = .ok (.iload_n 2, 1) := by decide +kernel
theorem dX2_put_13 : decode cX2_put 13 = .ok (.ifCond .lt 11, 3) := by decide +kernel
theorem dX2_put_16 : decode cX2_put 16 = .ok (.iload_n 2, 1) := by decide +kernel
theorem dX2_put_17 : decode cX2_put 17 = .ok (.aload_n 0, 1) := by decide +kernel
theorem dX2_put_18 : decode cX2_put 18 = .ok (.getfield 21, 3) := by decide +kernel
theorem dX2_put_21 : decode cX2_put 21 = .ok (.if_icmp .lt 4, 3) := by decide +kernel
theorem dX2_put_24 : decode cX2_put 24 = .ok (.return_, 1) := by decide +kernel
theorem dX2_put_25 : decode cX2_put 25 = .ok (.aload_n 0, 1) := by decide +kernel
theorem dX2_put_26 : decode cX2_put 26 = .ok (.getfield 24, 3) := by decide +kernel
theorem dX2_put_29 : decode cX2_put 29 = .ok (.iload_n 1, 1) := by decide +kernel
theorem dX2_put_30 : decode cX2_put 30 = .ok (.aload_n 0, 1) := by decide +kernel
theorem dX2_put_31 : decode cX2_put 31 = .ok (.getfield 21, 3) := by decide +kernel
theorem dX2_put_34 : decode cX2_put 34 = .ok (.imul, 1) := by decide +kernel
theorem dX2_put_35 : decode cX2_put 35 = .ok (.iload_n 2, 1) := by decide +kernel
theorem dX2_put_36 : decode cX2_put 36 = .ok (.iadd, 1) := by decide +kernel
theorem dX2_put_37 : decode cX2_put 37 = .ok (.iload_n 3, 1) := by decide +kernel
theorem dX2_put_38 : decode cX2_put 38 = .ok (.iastore, 1) := by decide +kernel
theorem dX2_put_39 : decode cX2_put 39 = .ok (.return_, 1) := by decide +kernel
theorem dX2_become_0 : decode cX2_become 0 = .ok (.aload_n 1, 1) := by decide +kernel
theorem dX2_become_1 : decode cX2_become 1 = .ok (.getfield 24, 3) := by decide +kernel
theorem dX2_become_4 : decode cX2_become 4 = .ok (.iconst 0, 1) := by decide +kernel
theorem dX2_become_5 : decode cX2_become 5 = .ok (.aload_n 0, 1) := by decide +kernel
theorem dX2_become_6 : decode cX2_become 6 = .ok (.getfield 24, 3) := by decide +kernel
theorem dX2_become_9 : decode cX2_become 9 = .ok (.iconst 0, 1) := by decide +kernel
theorem dX2_become_10 : decode cX2_become 10 = .ok (.aload_n 0, 1) := by decide +kernel
theorem dX2_become_11 : decode cX2_become 11 = .ok (.getfield 24, 3) := by decide +kernel
theorem dX2_become_14 : decode cX2_become 14 = .ok (.arraylength, 1) := by decide +kernel
theorem dX2_become_15 : decode cX2_become 15 = .ok (.aload_n 1, 1) := by decide +kernel
theorem dX2_become_16 : decode cX2_become 16 = .ok (.getfield 24, 3) := by decide +kernel
theorem dX2_become_19 : decode cX2_become 19 = .ok (.arraylength, 1) := by decide +kernel
theorem dX2_become_20 : decode cX2_become 20 = .ok (.invokestatic 34, 3) := by decide +kernel
theorem dX2_become_23 : decode cX2_become 23 = .ok (.invokestatic 28, 3) := by decide +kernel
theorem dX2_become_26 : decode cX2_become 26 = .ok (.return_, 1) := by decide +kernel
end
section
theorem dX0_init_0 : decode cX0_init 0 = .ok (.aload_n 0, 1) := by decide +kernel
theorem dX0_init_1 : decode cX0_init 1 = .ok (.invokespecial 3, 3) := by decide +kernel
theorem dX0_init_4 : decode cX0_init 4 = .ok (.aload_n 0, 1) := by decide +kernel
theorem dX0_init_5 : decode cX0_init 5 = .ok (.bipush 14, 2) := by decide +kernel
theorem dX0_init_7 : decode cX0_init 7 = .ok (.putfield 9, 3) := by decide +kernel
theorem dX0_init_10 : decode cX0_init 10 = .ok (.aload_n 0, 1) := by decide +kernel
theorem dX0_init_11 : decode cX0_init 11 = .ok (.iconst 3, 1) := by decide +kernel
theorem dX0_init_12 : decode cX0_init 12 = .ok (.putfield 15, 3) := by decide +kernel
theorem dX0_init_15 : decode cX0_init 15 = .ok (.aload_n 0, 1) := by decide +kernel
theorem dX0_init_16 : decode cX0_init 16 = .ok (.bipush 64, 2) := by decide +kernel
theorem dX0_init_18 : decode cX0_init 18 = .ok (.putfield 18, 3) := by decide +kernel
theorem dX0_init_21 : decode cX0_init 21 = .ok (.return_, 1) := by decide +kernel
theorem dX0_allows_0 : decode cX0_allows 0 = .ok (.iload_n 0, 1) := by decide +kernel
theorem dX0_allows_1 : decode cX0_allows 1 = .ok (.tableswitch 78 0 2 #[27, 44, 61], 27) := by decide +kernel
theorem dX0_allows_28 : decode cX0_allows 28 = .ok (.iconst 1, 1) := by decide +kernel
theorem dX0_allows_29 : decode cX0_allows 29 = .ok (.iload_n 1, 1) := by decide +kernel
theorem dX0_allows_30 : decode cX0_allows 30 = .ok (.if_icmp .gt 13, 3) := by decide +kernel
theorem dX0_allows_33 : decode cX0_allows 33 = .ok (.iload_n 1, 1) := by decide +kernel
theorem dX0_allows_34 : decode cX0_allows 34 = .ok (.bipush 60, 2) := by decide +kernel
theorem dX0_allows_36 : decode cX0_allows 36 = .ok (.if_icmp .gt 7, 3) := by decide +kernel
theorem dX0_allows_39 : decode cX0_allows 39 = .ok (.iconst 1, 1) := by decide +kernel
theorem dX0_allows_40 : decode cX0_allows 40 = .ok (.goto 4, 3) := by decide +kernel
theorem dX0_allows_43 : decode cX0_allows 43 = .ok (.iconst 0, 1) := by decide +kernel
theorem dX0_allows_44 : decode cX0_allows 44 = .ok (.ireturn, 1) := by decide +kernel
theorem dX0_allows_45 : decode cX0_allows 45 = .ok (.iconst 1, 1) := by decide +kernel
theorem dX0_allows_46 : decode cX0_allows 46 = .ok (.iload_n 1, 1) := by decide +kernel
theorem dX0_allows_47 : decode cX0_allows 47 = .ok (.if_icmp .gt 13, 3) := by decide +kernel
theorem dX0_allows_50 : decode cX0_allows 50 = .ok (.iload_n 1, 1) := by decide +kernel
theorem dX0_allows_51 : decode cX0_allows 51 = .ok (.bipush 20, 2) := by decide +kernel
theorem dX0_allows_53 : decode cX0_allows 53 = .ok (.if_icmp .gt 7, 3) := by decide +kernel
theorem dX0_allows_56 : decode cX0_allows 56 = .ok (.iconst 1, 1) := by decide +kernel
theorem dX0_allows_57 : decode cX0_allows 57 = .ok (.goto 4, 3) := by decide +kernel
theorem dX0_allows_60 : decode cX0_allows 60 = .ok (.iconst 0, 1) := by decide +kernel
theorem dX0_allows_61 : decode cX0_allows 61 = .ok (.ireturn, 1) := by decide +kernel
theorem dX0_allows_62 : decode cX0_allows 62 = .ok (.iconst 0, 1) := by decide +kernel
theorem dX0_allows_63 : decode cX0_allows 63 = .ok (.iload_n 1, 1) := by decide +kernel
theorem dX0_allows_64 : decode cX0_allows 64 = .ok (.if_icmp .gt 13, 3) := by decide +kernel
theorem dX0_allows_67 : decode cX0_allows 67 = .ok (.iload_n 1, 1) := by decide +kernel
theorem dX0_allows_68 : decode cX0_allows 68 = .ok (.bipush 127, 2) := by decide +kernel
theorem dX0_allows_70 : decode cX0_allows 70 = .ok (.if_icmp .gt 7, 3) := by decide +kernel
theorem dX0_allows_73 : decode cX0_allows 73 = .ok (.iconst 1, 1) := by decide +kernel
theorem dX0_allows_74 : decode cX0_allows 74 = .ok (.goto 4, 3) := by decide +kernel
theorem dX0_allows_77 : decode cX0_allows 77 = .ok (.iconst 0, 1) := by decide +kernel
theorem dX0_allows_78 : decode cX0_allows 78 = .ok (.ireturn, 1) := by decide +kernel
theorem dX0_allows_79 : decode cX0_allows 79 = .ok (.iconst 0, 1) := by decide +kernel
theorem dX0_allows_80 : decode cX0_allows 80 = .ok (.ireturn, 1) := by decide +kernel
theorem dX0_change_0 : decode cX0_change 0 = .ok (.iload_n 1, 1) := by decide +kernel
theorem dX0_change_1 : decode cX0_change 1 = .ok (.lookupswitch 51 #[(0, 27), (1, 39)], 27) := by decide +kernel
theorem dX0_change_28 : decode cX0_change 28 = .ok (.aload_n 0, 1) := by decide +kernel
theorem dX0_change_29 : decode cX0_change 29 = .ok (.getfield 9, 3) := by decide +kernel
theorem dX0_change_32 : decode cX0_change 32 = .ok (.istore_n 3, 1) := by decide +kernel
theorem dX0_change_33 : decode cX0_change 33 = .ok (.aload_n 0, 1) := by decide +kernel
theorem dX0_change_34 : decode cX0_change 34 = .ok (.iload_n 2, 1) := by decide +kernel
theorem dX0_change_35 : decode cX0_change 35 = .ok (.putfield 9, 3) := by decide +kernel
theorem dX0_change_38 : decode cX0_change 38 = .ok (.iload_n 3, 1) := by decide +kernel
theorem dX0_change_39 : decode cX0_change 39 = .ok (.ireturn, 1) := by decide +kernel
theorem dX0_change_40 : decode cX0_change 40 = .ok (.aload_n 0, 1) := by decide +kernel
theorem dX0_change_41 : decode cX0_change 41 = .ok (.getfield 15, 3) := by decide +kernel
theorem dX0_change_44 : decode cX0_change 44 = .ok (.istore_n 3, 1) := by decide +kernel
theorem dX0_change_45 : decode cX0_change 45 = .ok (.aload_n 0, 1) := by decide +kernel
theorem dX0_change_46 : decode cX0_change 46 = .ok (.iload_n 2, 1) := by decide +kernel
theorem dX0_change_47 : decode cX0_change 47 = .ok (.putfield 15, 3) := by decide +kernel
theorem dX0_change_50 : decode cX0_change 50 = .ok (.iload_n 3, 1) := by decide +kernel
theorem dX0_change_51 : decode cX0_change 51 = .ok (.ireturn, 1) := by decide +kernel
theorem dX0_change_52 : decode cX0_change 52 = .ok (.aload_n 0, 1) := by decide +kernel
theorem dX0_change_53 : decode cX0_change 53 = .ok (.getfield 18, 3) := by decide +kernel
theorem dX0_change_56 : decode cX0_change 56 = .ok (.istore_n 3, 1) := by decide +kernel
theorem dX0_change_57 : decode cX0_change 57 = .ok (.aload_n 0, 1) := by decide +kernel
theorem dX0_change_58 : decode cX0_change 58 = .ok (.iload_n 2, 1) := by decide +kernel
theorem dX0_change_59 : decode cX0_change 59 = .ok (.putfield 18, 3) := by decide +kernel
theorem dX0_change_62 : decode cX0_change 62 = .ok (.iload_n 3, 1) := by decide +kernel
theorem dX0_change_63 : decode cX0_change 63 = .ok (.ireturn, 1) := by decide +kernel
set_option maxRecDepth 20000 in
theorem ggX0_isClosed_J9_floorMod_7cf53 : GoodIn wsX0_isClosed wsJ9_floorMod_7cf53 := goodIn_r _ [5] (by decide +kernel) (by decide +kernel)
set_option maxRecDepth 20000 in
theorem gX0_isClosed_J9_floorMod_7cf53 : GoodIn wsX0_isClosed (va_wsS RX0 21 yJ9_floorMod_7cf53 wsJ9_floorMod_7cf53) := goodIn_app (goodIn_of _ (by decide +kernel)) ggX0_isClosed_J9_floorMod_7cf53
theorem dX0_isClosed_0 : decode cX0_isClosed 0 = .ok (.aload_n 0, 1) := by decide +kernel
theorem dX0_isClosed_1 : decode cX0_isClosed 1 = .ok (.getfield 18, 3) := by decide +kernel
theorem dX0_isClosed_4 : decode cX0_isClosed 4 = .ok (.iload_n 1, 1) := by decide +kernel
theorem dX0_isClosed_5 : decode cX0_isClosed 5 = .ok (.bipush 7, 2) := by decide +kernel
theorem dX0_isClosed_7 : decode cX0_isClosed 7 = .ok (.invokestatic 21, 3) := by decide +kernel
theorem dX0_isClosed_10 : decode cX0_isClosed 10 = .ok (.ishr, 1) := by decide +kernel
theorem dX0_isClosed_11 : decode cX0_isClosed 11 = .ok (.iconst 1, 1) := by decide +kernel
theorem dX0_isClosed_12 : decode cX0_isClosed 12 = .ok (.iand, 1) := by decide +kernel
theorem dX0_isClosed_13 : decode cX0_isClosed 13 = .ok (.iconst 1, 1) := by decide +kernel
theorem dX0_isClosed_14 : decode cX0_isClosed 14 = .ok (.if_icmp .ne 7, 3) := by decide +kernel
theorem dX0_isClosed_17 : decode cX0_isClosed 17 = .ok (.iconst 1, 1) := by decide +kernel
theorem dX0_isClosed_18 : decode cX0_isClosed 18 = .ok (.goto 4, 3) := by decide +kernel
theorem dX0_isClosed_21 : decode cX0_isClosed 21 = .ok (.iconst 0, 1) := by decide +kernel
theorem dX0_isClosed_22 : decode cX0_isClosed 22 = .ok (.ireturn, 1) := by decide +kernel
theorem dX0_become_0 : decode cX0_become 0 = .ok (.aload_n 0, 1) := by decide +kernel
theorem dX0_become_1 : decode cX0_become 1 = .ok (.aload_n 1, 1) := by decide +kernel
theorem dX0_become_2 : decode cX0_become 2 = .ok (.getfield 27, 3) := by decide +kernel
theorem dX0_become_5 : decode cX0_become 5 = .ok (.putfield 27, 3) := by decide +kernel
theorem dX0_become_8 : decode cX0_become 8 = .ok (.aload_n 0, 1) := by decide +kernel
theorem dX0_become_9 : decode cX0_become 9 = .ok (.aload_n 1, 1) := by decide +kernel
theorem dX0_become_10 : decode cX0_become 10 = .ok (.getfield 9, 3) := by decide +kernel
theorem dX0_become_13 : decode cX0_become 13 = .ok (.putfield 9, 3) := by decide +kernel
theorem dX0_become_16 : decode cX0_become 16 = .ok (.aload_n 0, 1) := by decide +kernel
theorem dX0_become_17 : decode cX0_become 17 = .ok (.aload_n 1, 1) := by decide +kernel
theorem dX0_become_18 : decode cX0_become 18 = .ok (.getfield 15, 3) := by decide +kernel
theorem dX0_become_21 : decode cX0_become 21 = .ok (.putfield 15, 3) := by decide +kernel
theorem dX0_become_24 : decode cX0_become 24 = .ok (.aload_n 0, 1) := by decide +kernel
theorem dX0_become_25 : decode cX0_become 25 = .ok (.aload_n 1, 1) := by decide +kernel
theorem dX0_become_26 : decode cX0_become 26 = .ok (.getfield 18, 3) := by decide +kernel
theorem dX0_become_29 : decode cX0_become 29 = .ok (.putfield 18, 3) := by decide +kernel
theorem dX0_become_32 : decode cX0_become 32 = .ok (.return_, 1) := by decide +kernel
end
section
set_option maxRecDepth 20000 in
theorem ggX1_init_X2_init : GoodIn wsX1_init wsX2_init := goodIn_r _ [10, 11, 2, 3, 12, 13, 14, 15, 16, 17, 18, 19, 20, 21, 22] (by decide +kernel) (by decide +kernel)
set_option maxRecDepth 20000 in
theorem gX1_init_X2_init : GoodIn wsX1_init (wsX2_init) := ggX1_init_X2_init
theorem dX1_init_0 : decode cX1_init 0 = .ok (.aload_n 0, 1) := by decide +kernel
theorem dX1_init_1 : decode cX1_init 1 = .ok (.invokespecial 3, 3) := by decide +kernel
theorem dX1_init_4 : decode cX1_init 4 = .ok (.aload_n 0, 1) := by decide +kernel
theorem dX1_init_5 : decode cX1_init 5 = .ok (.new 9, 3) := by decide +kernel
theorem dX1_init_8 : decode cX1_init 8 = .ok (.dup, 1) := by decide +kernel
theorem dX1_init_9 : decode cX1_init 9 = .ok (.bipush 16, 2) := by decide +kernel
theorem dX1_init_11 : decode cX1_init 11 = .ok (.iconst 5, 1) := by decide +kernel
theorem dX1_init_12 : decode cX1_init 12 = .ok (.invokespecial 13, 3) := by decide +kernel
theorem dX1_init_15 : decode cX1_init 15 = .ok (.putfield 16, 3) := by decide +kernel
theorem dX1_init_18 : decode cX1_init 18 = .ok (.return_, 1) := by decide +kernel
set_option maxRecDepth 20000 in
theorem ggX1_add_X2_put : GoodIn wsX1_add wsX2_put := goodIn_r _ [7, 8, 9, 10, 18, 19, 20] (by decide +kernel) (by decide +kernel)
set_option maxRecDepth 20000 in
theorem gX1_add_X2_put : GoodIn wsX1_add (wsV RX1 28 RX2 yX2_put wsX2_put) := goodIn_app (goodIn_of _ (by decide +kernel)) ggX1_add_X2_put
set_option maxRecDepth 20000 in
theorem ggX1_add_X1_write : GoodIn wsX1_add wsX1_write := goodIn_r _ [15, 2, 3, 4, 5, 6, 7, 8, 9, 10, 16, 17, 18, 19, 20] (by decide +kernel) (by decide +kernel)
set_option maxRecDepth 20000 in
theorem gX1_add_X1_write : GoodIn wsX1_add (wsV RX1 32 RX1 yX1_write wsX1_write) := goodIn_app (goodIn_of _ (by decide +kernel)) ggX1_add_X1_write
theorem dX1_add_0 : decode cX1_add 0 = .ok (.aload_n 0, 1) := by decide +kernel
theorem dX1_add_1 : decode cX1_add 1 = .ok (.getfield 24, 3) := by decide +kernel
theorem dX1_add_4 : decode cX1_add 4 = .ok (.istore_n 3, 1) := by decide +kernel
theorem dX1_add_5 : decode cX1_add 5 = .ok (.aload_n 0, 1) := by decide +kernel
theorem dX1_add_6 : decode cX1_add 6 = .ok (.dup, 1) := by decide +kernel
theorem dX1_add_7 : decode cX1_add 7 = .ok (.getfield 24, 3) := by decide +kernel
theorem dX1_add_10 : decode cX1_add 10 = .ok (.iconst 1, 1) := by decide +kernel
theorem dX1_add_11 : decode cX1_add 11 = .ok (.iadd, 1) := by decide +kernel
theorem dX1_add_12 : decode cX1_add 12 = .ok (.putfield 24, 3) := by decide +kernel
theorem dX1_add_15 : decode cX1_add 15 = .ok (.aload_n 0, 1) := by decide +kernel
theorem dX1_add_16 : decode cX1_add 16 = .ok (.getfield 16, 3) := by decide +kernel
theorem dX1_add_19 : decode cX1_add 19 = .ok (.iload_n 3, 1) := by decide +kernel
theorem dX1_add_20 : decode cX1_add 20 = .ok (.iconst 0, 1) := by decide +kernel
theorem dX1_add_21 : decode cX1_add 21 = .ok (.iload_n 1, 1) := by decide +kernel
theorem dX1_add_22 : decode cX1_add 22 = .ok (.invokevirtual 28, 3) := by decide +kernel
theorem dX1_add_25 : decode cX1_add 25 = .ok (.aload_n 0, 1) := by decide +kernel
theorem dX1_add_26 : decode cX1_add 26 = .ok (.iload_n 3, 1) := by decide +kernel
theorem dX1_add_27 : decode cX1_add 27 = .ok (.iload_n 2, 1) := by decide +kernel
theorem dX1_add_28 : decode cX1_add 28 = .ok (.iconst 0, 1) := by decide +kernel
theorem dX1_add_29 : decode cX1_add 29 = .ok (.iconst (-1), 1) := by decide +kernel
theorem dX1_add_30 : decode cX1_add 30 = .ok (.iconst (-1), 1) := by decide +kernel
theorem dX1_add_31 : decode cX1_add 31 = .ok (.invokevirtual 32, 3) := by decide +kernel
theorem dX1_add_34 : decode cX1_add 34 = .ok (.iload_n 3, 1) := by decide +kernel
theorem dX1_add_35 : decode cX1_add 35 = .ok (.ireturn, 1) := by decide +kernel
set_option maxRecDepth 20000 in
theorem ggX1_write_X2_put : GoodIn wsX1_write wsX2_put := goodIn_r _ [6, 7, 8, 9, 12, 13, 14] (by decide +kernel) (by decide +kernel)
set_option maxRecDepth 20000 in
theorem gX1_write_X2_put : GoodIn wsX1_write (wsV RX1 28 RX2 yX2_put wsX2_put) := goodIn_app (goodIn_of _ (by decide +kernel)) ggX1_write_X2_put
theorem dX1_write_0 : decode cX1_write 0 = .ok (.aload_n 0, 1) := by decide +kernel
theorem dX1_write_1 : decode cX1_write 1 = .ok (.getfield 16, 3) := by decide +kernel
theorem dX1_write_4 : decode cX1_write 4 = .ok (.iload_n 1, 1) := by decide +kernel
theorem dX1_write_5 : decode cX1_write 5 = .ok (.iconst 1, 1) := by decide +kernel
theorem dX1_write_6 : decode cX1_write 6 = .ok (.iload_n 2, 1) := by decide +kernel
theorem dX1_write_7 : decode cX1_write 7 = .ok (.invokevirtual 28, 3) := by decide +kernel
theorem dX1_write_10 : decode cX1_write 10 = .ok (.aload_n 0, 1) := by decide +kernel
theorem dX1_write_11 : decode cX1_write 11 = .ok (.getfield 16, 3) := by decide +kernel
theorem dX1_write_14 : decode cX1_write 14 = .ok (.iload_n 1, 1) := by decide +kernel
theorem dX1_write_15 : decode cX1_write 15 = .ok (.iconst 2, 1) := by decide +kernel
theorem dX1_write_16 : decode cX1_write 16 = .ok (.iload_n 3, 1) := by decide +kernel
theorem dX1_write_17 : decode cX1_write 17 = .ok (.invokevirtual 28, 3) := by decide +kernel
theorem dX1_write_20 : decode cX1_write 20 = .ok (.aload_n 0, 1) := by decide +kernel
theorem dX1_write_21 : decode cX1_write 21 = .ok (.getfield 16, 3) := by decide +kernel
theorem dX1_write_24 : decode cX1_write 24 = .ok (.iload_n 1, 1) := by decide +kernel
theorem dX1_write_25 : decode cX1_write 25 = .ok (.iconst 3, 1) := by decide +kernel
theorem dX1_write_26 : decode cX1_write 26 = .ok (.iload 4, 2) := by decide +kernel
theorem dX1_write_28 : decode cX1_write 28 = .ok (.invokevirtual 28, 3) := by decide +kernel
theorem dX1_write_31 : decode cX1_write 31 = .ok (.aload_n 0, 1) := by decide +kernel
theorem dX1_write_32 : decode cX1_write 32 = .ok (.getfield 16, 3) := by decide +kernel
theorem dX1_write_35 : decode cX1_write 35 = .ok (.iload_n 1, 1) := by decide +kernel
theorem dX1_write_36 : decode cX1_write 36 = .ok (.iconst 4, 1) := by decide +kernel
theorem dX1_write_37 : decode cX1_write 37 = .ok (.iload 5, 2) := by decide +kernel
theorem dX1_write_39 : decode cX1_write 39 = .ok (.invokevirtual 28, 3) := by decide +kernel
theorem dX1_write_42 : decode cX1_write 42 = .ok (.return_, 1) := by decide +kernel
theorem dX1_thatAre_0 : decode cX1_thatAre 0 = .ok (.iconst 0, 1) := by decide +kernel
theorem dX1_thatAre_1 : decode cX1_thatAre 1 = .ok (.istore_n 2, 1) := by decide +kernel
theorem dX1_thatAre_2 : decode cX1_thatAre 2 = .ok (.iconst 0, 1) := by decide +kernel
theorem dX1_thatAre_3 : decode cX1_thatAre 3 = .ok (.istore_n 3, 1) := by decide +kernel
theorem dX1_thatAre_4 : decode cX1_thatAre 4 = .ok (.iload_n 3, 1) := by decide +kernel
theorem dX1_thatAre_5 : decode cX1_thatAre 5 = .ok (.aload_n 0, 1) := by decide +kernel
theorem dX1_thatAre_6 : decode cX1_thatAre 6 = .ok (.getfield 24, 3) := by decide +kernel
theorem dX1_thatAre_9 : decode cX1_thatAre 9 = .ok (.if_icmp .ge 24, 3) := by decide +kernel
theorem dX1_thatAre_12 : decode cX1_thatAre 12 = .ok (.aload_n 0, 1) := by decide +kernel
theorem dX1_thatAre_13 : decode cX1_thatAre 13 = .ok (.iload_n 3, 1) := by decide +kernel
theorem dX1_thatAre_14 : decode cX1_thatAre 14 = .ok (.invokevirtual 36, 3) := by decide +kernel
theorem dX1_thatAre_17 : decode cX1_thatAre 17 = .ok (.iload_n 1, 1) := by decide +kernel
theorem dX1_thatAre_18 : decode cX1_thatAre 18 = .ok (.if_icmp .ne 9, 3) := by decide +kernel
theorem dX1_thatAre_21 : decode cX1_thatAre 21 = .ok (.iload_n 2, 1) := by decide +kernel
theorem dX1_thatAre_22 : decode cX1_thatAre 22 = .ok (.iconst 1, 1) := by decide +kernel
theorem dX1_thatAre_23 : decode cX1_thatAre 23 = .ok (.iload_n 3, 1) := by decide +kernel
theorem dX1_thatAre_24 : decode cX1_thatAre 24 = .ok (.ishl, 1) := by decide +kernel
theorem dX1_thatAre_25 : decode cX1_thatAre 25 = .ok (.ior, 1) := by decide +kernel
theorem dX1_thatAre_26 : decode cX1_thatAre 26 = .ok (.istore_n 2, 1) := by decide +kernel
theorem dX1_thatAre_27 : decode cX1_thatAre 27 = .ok (.iinc 3 1, 3) := by decide +kernel
theorem dX1_thatAre_30 : decode cX1_thatAre 30 = .ok (.goto (-26), 3) := by decide +kernel
theorem dX1_thatAre_33 : decode cX1_thatAre 33 = .ok (.iload_n 2, 1) := by decide +kernel
theorem dX1_thatAre_34 : decode cX1_thatAre 34 = .ok (.ireturn, 1) := by decide +kernel
theorem dX1_ofTitle_0 : decode cX1_ofTitle 0 = .ok (.iconst 0, 1) := by decide +kernel
theorem dX1_ofTitle_1 : decode cX1_ofTitle 1 = .ok (.istore_n 2, 1) := by decide +kernel
theorem dX1_ofTitle_2 : decode cX1_ofTitle 2 = .ok (.iconst 0, 1) := by decide +kernel
theorem dX1_ofTitle_3 : decode cX1_ofTitle 3 = .ok (.istore_n 3, 1) := by decide +kernel
theorem dX1_ofTitle_4 : decode cX1_ofTitle 4 = .ok (.iload_n 3, 1) := by decide +kernel
theorem dX1_ofTitle_5 : decode cX1_ofTitle 5 = .ok (.aload_n 0, 1) := by decide +kernel
theorem dX1_ofTitle_6 : decode cX1_ofTitle 6 = .ok (.getfield 24, 3) := by decide +kernel
theorem dX1_ofTitle_9 : decode cX1_ofTitle 9 = .ok (.if_icmp .ge 24, 3) := by decide +kernel
theorem dX1_ofTitle_12 : decode cX1_ofTitle 12 = .ok (.aload_n 0, 1) := by decide +kernel
theorem dX1_ofTitle_13 : decode cX1_ofTitle 13 = .ok (.iload_n 3, 1) := by decide +kernel
theorem dX1_ofTitle_14 : decode cX1_ofTitle 14 = .ok (.invokevirtual 40, 3) := by decide +kernel
theorem dX1_ofTitle_17 : decode cX1_ofTitle 17 = .ok (.iload_n 1, 1) := by decide +kernel
theorem dX1_ofTitle_18 : decode cX1_ofTitle 18 = .ok (.if_icmp .ne 9, 3) := by decide +kernel
theorem dX1_ofTitle_21 : decode cX1_ofTitle 21 = .ok (.iload_n 2, 1) := by decide +kernel
theorem dX1_ofTitle_22 : decode cX1_ofTitle 22 = .ok (.iconst 1, 1) := by decide +kernel
theorem dX1_ofTitle_23 : decode cX1_ofTitle 23 = .ok (.iload_n 3, 1) := by decide +kernel
theorem dX1_ofTitle_24 : decode cX1_ofTitle 24 = .ok (.ishl, 1) := by decide +kernel
theorem dX1_ofTitle_25 : decode cX1_ofTitle 25 = .ok (.ior, 1) := by decide +kernel
theorem dX1_ofTitle_26 : decode cX1_ofTitle 26 = .ok (.istore_n 2, 1) := by decide +kernel
theorem dX1_ofTitle_27 : decode cX1_ofTitle 27 = .ok (.iinc 3 1, 3) := by decide +kernel
theorem dX1_ofTitle_30 : decode cX1_ofTitle 30 = .ok (.goto (-26), 3) := by decide +kernel
theorem dX1_ofTitle_33 : decode cX1_ofTitle 33 = .ok (.iload_n 2, 1) := by decide +kernel
theorem dX1_ofTitle_34 : decode cX1_ofTitle 34 = .ok (.ireturn, 1) := by decide +kernel
theorem dX1_outTo_0 : decode cX1_outTo 0 = .ok (.iconst 0, 1) := by decide +kernel
theorem dX1_outTo_1 : decode cX1_outTo 1 = .ok (.istore_n 2, 1) := by decide +kernel
theorem dX1_outTo_2 : decode cX1_outTo 2 = .ok (.iconst 0, 1) := by decide +kernel
theorem dX1_outTo_3 : decode cX1_outTo 3 = .ok (.istore_n 3, 1) := by decide +kernel
theorem dX1_outTo_4 : decode cX1_outTo 4 = .ok (.iload_n 3, 1) := by decide +kernel
theorem dX1_outTo_5 : decode cX1_outTo 5 = .ok (.aload_n 0, 1) := by decide +kernel
theorem dX1_outTo_6 : decode cX1_outTo 6 = .ok (.getfield 24, 3) := by decide +kernel
theorem dX1_outTo_9 : decode cX1_outTo 9 = .ok (.if_icmp .ge 24, 3) := by decide +kernel
theorem dX1_outTo_12 : decode cX1_outTo 12 = .ok (.aload_n 0, 1) := by decide +kernel
theorem dX1_outTo_13 : decode cX1_outTo 13 = .ok (.iload_n 3, 1) := by decide +kernel
theorem dX1_outTo_14 : decode cX1_outTo 14 = .ok (.iload_n 1, 1) := by decide +kernel
theorem dX1_outTo_15 : decode cX1_outTo 15 = .ok (.invokevirtual 43, 3) := by decide +kernel
theorem dX1_outTo_18 : decode cX1_outTo 18 = .ok (.ifCond .eq 9, 3) := by decide +kernel
theorem dX1_outTo_21 : decode cX1_outTo 21 = .ok (.iload_n 2, 1) := by decide +kernel
theorem dX1_outTo_22 : decode cX1_outTo 22 = .ok (.iconst 1, 1) := by decide +kernel
theorem dX1_outTo_23 : decode cX1_outTo 23 = .ok (.iload_n 3, 1) := by decide +kernel
theorem dX1_outTo_24 : decode cX1_outTo 24 = .ok (.ishl, 1) := by decide +kernel
theorem dX1_outTo_25 : decode cX1_outTo 25 = .ok (.ior, 1) := by decide +kernel
theorem dX1_outTo_26 : decode cX1_outTo 26 = .ok (.istore_n 2, 1) := by decide +kernel
theorem dX1_outTo_27 : decode cX1_outTo 27 = .ok (.iinc 3 1, 3) := by decide +kernel
theorem dX1_outTo_30 : decode cX1_outTo 30 = .ok (.goto (-26), 3) := by decide +kernel
theorem dX1_outTo_33 : decode cX1_outTo 33 = .ok (.iload_n 2, 1) := by decide +kernel
theorem dX1_outTo_34 : decode cX1_outTo 34 = .ok (.ireturn, 1) := by decide +kernel
theorem dX1_overdue_0 : decode cX1_overdue 0 = .ok (.iconst 0, 1) := by decide +kernel
theorem dX1_overdue_1 : decode cX1_overdue 1 = .ok (.istore_n 2, 1) := by decide +kernel
theorem dX1_overdue_2 : decode cX1_overdue 2 = .ok (.iconst 0, 1) := by decide +kernel
theorem dX1_overdue_3 : decode cX1_overdue 3 = .ok (.istore_n 3, 1) := by decide +kernel
theorem dX1_overdue_4 : decode cX1_overdue 4 = .ok (.iload_n 3, 1) := by decide +kernel
theorem dX1_overdue_5 : decode cX1_overdue 5 = .ok (.aload_n 0, 1) := by decide +kernel
theorem dX1_overdue_6 : decode cX1_overdue 6 = .ok (.getfield 24, 3) := by decide +kernel
theorem dX1_overdue_9 : decode cX1_overdue 9 = .ok (.if_icmp .ge 33, 3) := by decide +kernel
theorem dX1_overdue_12 : decode cX1_overdue 12 = .ok (.aload_n 0, 1) := by decide +kernel
theorem dX1_overdue_13 : decode cX1_overdue 13 = .ok (.iload_n 3, 1) := by decide +kernel
theorem dX1_overdue_14 : decode cX1_overdue 14 = .ok (.invokevirtual 36, 3) := by decide +kernel
theorem dX1_overdue_17 : decode cX1_overdue 17 = .ok (.iconst 1, 1) := by decide +kernel
theorem dX1_overdue_18 : decode cX1_overdue 18 = .ok (.if_icmp .ne 18, 3) := by decide +kernel
theorem dX1_overdue_21 : decode cX1_overdue 21 = .ok (.iload_n 1, 1) := by decide +kernel
theorem dX1_overdue_22 : decode cX1_overdue 22 = .ok (.aload_n 0, 1) := by decide +kernel
theorem dX1_overdue_23 : decode cX1_overdue 23 = .ok (.iload_n 3, 1) := by decide +kernel
theorem dX1_overdue_24 : decode cX1_overdue 24 = .ok (.invokevirtual 47, 3) := by decide +kernel
theorem dX1_overdue_27 : decode cX1_overdue 27 = .ok (.if_icmp .le 9, 3) := by decide +kernel
theorem dX1_overdue_30 : decode cX1_overdue 30 = .ok (.iload_n 2, 1) := by decide +kernel
theorem dX1_overdue_31 : decode cX1_overdue 31 = .ok (.iconst 1, 1) := by decide +kernel
theorem dX1_overdue_32 : decode cX1_overdue 32 = .ok (.iload_n 3, 1) := by decide +kernel
theorem dX1_overdue_33 : decode cX1_overdue 33 = .ok (.ishl, 1) := by decide +kernel
theorem dX1_overdue_34 : decode cX1_overdue 34 = .ok (.ior, 1) := by decide +kernel
theorem dX1_overdue_35 : decode cX1_overdue 35 = .ok (.istore_n 2, 1) := by decide +kernel
theorem dX1_overdue_36 : decode cX1_overdue 36 = .ok (.iinc 3 1, 3) := by decide +kernel
theorem dX1_overdue_39 : decode cX1_overdue 39 = .ok (.goto (-35), 3) := by decide +kernel
theorem dX1_overdue_42 : decode cX1_overdue 42 = .ok (.iload_n 2, 1) := by decide +kernel
theorem dX1_overdue_43 : decode cX1_overdue 43 = .ok (.ireturn, 1) := by decide +kernel
theorem dX1_owedBy_0 : decode cX1_owedBy 0 = .ok (.iconst 0, 1) := by decide +kernel
theorem dX1_owedBy_1 : decode cX1_owedBy 1 = .ok (.istore_n 3, 1) := by decide +kernel
theorem dX1_owedBy_2 : decode cX1_owedBy 2 = .ok (.iconst 0, 1) := by decide +kernel
theorem dX1_owedBy_3 : decode cX1_owedBy 3 = .ok (.istore 4, 2) := by decide +kernel
theorem dX1_owedBy_5 : decode cX1_owedBy 5 = .ok (.iload 4, 2) := by decide +kernel
theorem dX1_owedBy_7 : decode cX1_owedBy 7 = .ok (.aload_n 0, 1) := by decide +kernel
theorem dX1_owedBy_8 : decode cX1_owedBy 8 = .ok (.getfield 24, 3) := by decide +kernel
theorem dX1_owedBy_11 : decode cX1_owedBy 11 = .ok (.if_icmp .ge 36, 3) := by decide +kernel
theorem dX1_owedBy_14 : decode cX1_owedBy 14 = .ok (.aload_n 0, 1) := by decide +kernel
theorem dX1_owedBy_15 : decode cX1_owedBy 15 = .ok (.iload 4, 2) := by decide +kernel
theorem dX1_owedBy_17 : decode cX1_owedBy 17 = .ok (.iload_n 1, 1) := by decide +kernel
theorem dX1_owedBy_18 : decode cX1_owedBy 18 = .ok (.invokevirtual 43, 3) := by decide +kernel
theorem dX1_owedBy_21 : decode cX1_owedBy 21 = .ok (.ifCond .eq 20, 3) := by decide +kernel
theorem dX1_owedBy_24 : decode cX1_owedBy 24 = .ok (.iload_n 3, 1) := by decide +kernel
theorem dX1_owedBy_25 : decode cX1_owedBy 25 = .ok (.iconst 5, 1) := by decide +kernel
theorem dX1_owedBy_26 : decode cX1_owedBy 26 = .ok (.iload_n 2, 1) := by decide +kernel
theorem dX1_owedBy_27 : decode cX1_owedBy 27 = .ok (.aload_n 0, 1) := by decide +kernel
theorem dX1_owedBy_28 : decode cX1_owedBy 28 = .ok (.iload 4, 2) := by decide +kernel
theorem dX1_owedBy_30 : decode cX1_owedBy 30 = .ok (.invokevirtual 47, 3) := by decide +kernel
theorem dX1_owedBy_33 : decode cX1_owedBy 33 = .ok (.isub, 1) := by decide +kernel
theorem dX1_owedBy_34 : decode cX1_owedBy 34 = .ok (.iconst 0, 1) := by decide +kernel
theorem dX1_owedBy_35 : decode cX1_owedBy 35 = .ok (.invokestatic 55, 3) := by decide +kernel
theorem dX1_owedBy_38 : decode cX1_owedBy 38 = .ok (.imul, 1) := by decide +kernel
theorem dX1_owedBy_39 : decode cX1_owedBy 39 = .ok (.iadd, 1) := by decide +kernel
theorem dX1_owedBy_40 : decode cX1_owedBy 40 = .ok (.istore_n 3, 1) := by decide +kernel
theorem dX1_owedBy_41 : decode cX1_owedBy 41 = .ok (.iinc 4 1, 3) := by decide +kernel
theorem dX1_owedBy_44 : decode cX1_owedBy 44 = .ok (.goto (-39), 3) := by decide +kernel
theorem dX1_owedBy_47 : decode cX1_owedBy 47 = .ok (.iload_n 3, 1) := by decide +kernel
theorem dX1_owedBy_48 : decode cX1_owedBy 48 = .ok (.ireturn, 1) := by decide +kernel
theorem dX1_greatestStep_0 : decode cX1_greatestStep 0 = .ok (.iconst 0, 1) := by decide +kernel
theorem dX1_greatestStep_1 : decode cX1_greatestStep 1 = .ok (.istore_n 3, 1) := by decide +kernel
theorem dX1_greatestStep_2 : decode cX1_greatestStep 2 = .ok (.iconst 0, 1) := by decide +kernel
theorem dX1_greatestStep_3 : decode cX1_greatestStep 3 = .ok (.istore 4, 2) := by decide +kernel
theorem dX1_greatestStep_5 : decode cX1_greatestStep 5 = .ok (.iload 4, 2) := by decide +kernel
theorem dX1_greatestStep_7 : decode cX1_greatestStep 7 = .ok (.aload_n 0, 1) := by decide +kernel
theorem dX1_greatestStep_8 : decode cX1_greatestStep 8 = .ok (.getfield 24, 3) := by decide +kernel
theorem dX1_greatestStep_11 : decode cX1_greatestStep 11 = .ok (.if_icmp .ge 31, 3) := by decide +kernel
theorem dX1_greatestStep_14 : decode cX1_greatestStep 14 = .ok (.aload_n 0, 1) := by decide +kernel
theorem dX1_greatestStep_15 : decode cX1_greatestStep 15 = .ok (.iload 4, 2) := by decide +kernel
theorem dX1_greatestStep_17 : decode cX1_greatestStep 17 = .ok (.iload_n 1, 1) := by decide +kernel
theorem dX1_greatestStep_18 : decode cX1_greatestStep 18 = .ok (.invokevirtual 43, 3) := by decide +kernel
theorem dX1_greatestStep_21 : decode cX1_greatestStep 21 = .ok (.ifCond .eq 15, 3) := by decide +kernel
theorem dX1_greatestStep_24 : decode cX1_greatestStep 24 = .ok (.iload_n 3, 1) := by decide +kernel
theorem dX1_greatestStep_25 : decode cX1_greatestStep 25 = .ok (.aload_n 0, 1) := by decide +kernel
theorem dX1_greatestStep_26 : decode cX1_greatestStep 26 = .ok (.iload 4, 2) := by decide +kernel
theorem dX1_greatestStep_28 : decode cX1_greatestStep 28 = .ok (.iload_n 2, 1) := by decide +kernel
theorem dX1_greatestStep_29 : decode cX1_greatestStep 29 = .ok (.invokevirtual 58, 3) := by decide +kernel
theorem dX1_greatestStep_32 : decode cX1_greatestStep 32 = .ok (.invokestatic 55, 3) := by decide +kernel
theorem dX1_greatestStep_35 : decode cX1_greatestStep 35 = .ok (.istore_n 3, 1) := by decide +kernel
theorem dX1_greatestStep_36 : decode cX1_greatestStep 36 = .ok (.iinc 4 1, 3) := by decide +kernel
theorem dX1_greatestStep_39 : decode cX1_greatestStep 39 = .ok (.goto (-34), 3) := by decide +kernel
theorem dX1_greatestStep_42 : decode cX1_greatestStep 42 = .ok (.iload_n 3, 1) := by decide +kernel
theorem dX1_greatestStep_43 : decode cX1_greatestStep 43 = .ok (.ireturn, 1) := by decide +kernel
theorem dX1_nearestIn_0 : decode cX1_nearestIn 0 = .ok (.iconst (-1), 1) := by decide +kernel
theorem dX1_nearestIn_1 : decode cX1_nearestIn 1 = .ok (.istore_n 3, 1) := by decide +kernel
theorem dX1_nearestIn_2 : decode cX1_nearestIn 2 = .ok (.iconst 4, 1) := by decide +kernel
theorem dX1_nearestIn_3 : decode cX1_nearestIn 3 = .ok (.istore 4, 2) := by decide +kernel
theorem dX1_nearestIn_5 : decode cX1_nearestIn 5 = .ok (.iconst 0, 1) := by decide +kernel
theorem dX1_nearestIn_6 : decode cX1_nearestIn 6 = .ok (.istore 5, 2) := by decide +kernel
theorem dX1_nearestIn_8 : decode cX1_nearestIn 8 = .ok (.iload 5, 2) := by decide +kernel
theorem dX1_nearestIn_10 : decode cX1_nearestIn 10 = .ok (.aload_n 0, 1) := by decide +kernel
theorem dX1_nearestIn_11 : decode cX1_nearestIn 11 = .ok (.getfield 24, 3) := by decide +kernel
theorem dX1_nearestIn_14 : decode cX1_nearestIn 14 = .ok (.if_icmp .ge 58, 3) := by decide +kernel
theorem dX1_nearestIn_17 : decode cX1_nearestIn 17 = .ok (.aload_n 0, 1) := by decide +kernel
theorem dX1_nearestIn_18 : decode cX1_nearestIn 18 = .ok (.iload 5, 2) := by decide +kernel
theorem dX1_nearestIn_20 : decode cX1_nearestIn 20 = .ok (.invokevirtual 40, 3) := by decide +kernel
theorem dX1_nearestIn_23 : decode cX1_nearestIn 23 = .ok (.iload_n 1, 1) := by decide +kernel
theorem dX1_nearestIn_24 : decode cX1_nearestIn 24 = .ok (.if_icmp .ne 42, 3) := by decide +kernel
theorem dX1_nearestIn_27 : decode cX1_nearestIn 27 = .ok (.aload_n 0, 1) := by decide +kernel
theorem dX1_nearestIn_28 : decode cX1_nearestIn 28 = .ok (.iload 5, 2) := by decide +kernel
theorem dX1_nearestIn_30 : decode cX1_nearestIn 30 = .ok (.invokevirtual 36, 3) := by decide +kernel
theorem dX1_nearestIn_33 : decode cX1_nearestIn 33 = .ok (.ifCond .ne 33, 3) := by decide +kernel
theorem dX1_nearestIn_36 : decode cX1_nearestIn 36 = .ok (.aload_n 0, 1) := by decide +kernel
theorem dX1_nearestIn_37 : decode cX1_nearestIn 37 = .ok (.iload 5, 2) := by decide +kernel
theorem dX1_nearestIn_39 : decode cX1_nearestIn 39 = .ok (.invokevirtual 61, 3) := by decide +kernel
theorem dX1_nearestIn_42 : decode cX1_nearestIn 42 = .ok (.iload_n 2, 1) := by decide +kernel
theorem dX1_nearestIn_43 : decode cX1_nearestIn 43 = .ok (.invokestatic 64, 3) := by decide +kernel
theorem dX1_nearestIn_46 : decode cX1_nearestIn 46 = .ok (.iload 4, 2) := by decide +kernel
theorem dX1_nearestIn_48 : decode cX1_nearestIn 48 = .ok (.if_icmp .ge 18, 3) := by decide +kernel
theorem dX1_nearestIn_51 : decode cX1_nearestIn 51 = .ok (.iload 5, 2) := by decide +kernel
theorem dX1_nearestIn_53 : decode cX1_nearestIn 53 = .ok (.istore_n 3, 1) := by decide +kernel
theorem dX1_nearestIn_54 : decode cX1_nearestIn 54 = .ok (.aload_n 0, 1) := by decide +kernel
theorem dX1_nearestIn_55 : decode cX1_nearestIn 55 = .ok (.iload 5, 2) := by decide +kernel
theorem dX1_nearestIn_57 : decode cX1_nearestIn 57 = .ok (.invokevirtual 61, 3) := by decide +kernel
theorem dX1_nearestIn_60 : decode cX1_nearestIn 60 = .ok (.iload_n 2, 1) := by decide +kernel
theorem dX1_nearestIn_61 : decode cX1_nearestIn 61 = .ok (.invokestatic 64, 3) := by decide +kernel
theorem dX1_nearestIn_64 : decode cX1_nearestIn 64 = .ok (.istore 4, 2) := by decide +kernel
theorem dX1_nearestIn_66 : decode cX1_nearestIn 66 = .ok (.iinc 5 1, 3) := by decide +kernel
theorem dX1_nearestIn_69 : decode cX1_nearestIn 69 = .ok (.goto (-61), 3) := by decide +kernel
theorem dX1_nearestIn_72 : decode cX1_nearestIn 72 = .ok (.iload_n 3, 1) := by decide +kernel
theorem dX1_nearestIn_73 : decode cX1_nearestIn 73 = .ok (.ireturn, 1) := by decide +kernel
set_option maxRecDepth 20000 in
theorem ggX1_become_X2_become : GoodIn wsX1_become wsX2_become := goodIn_r _ [7, 8, 9, 10, 11, 12, 13, 14, 15, 16, 19, 20, 21] (by decide +kernel) (by decide +kernel)
set_option maxRecDepth 20000 in
theorem gX1_become_X2_become : GoodIn wsX1_become (wsV RX1 78 RX2 yX2_become wsX2_become) := goodIn_app (goodIn_of _ (by decide +kernel)) ggX1_become_X2_become
theorem dX1_become_0 : decode cX1_become 0 = .ok (.aload_n 0, 1) := by decide +kernel
theorem dX1_become_1 : decode cX1_become 1 = .ok (.aload_n 1, 1) := by decide +kernel
theorem dX1_become_2 : decode cX1_become 2 = .ok (.getfield 24, 3) := by decide +kernel
theorem dX1_become_5 : decode cX1_become 5 = .ok (.putfield 24, 3) := by decide +kernel
theorem dX1_become_8 : decode cX1_become 8 = .ok (.aload_n 0, 1) := by decide +kernel
theorem dX1_become_9 : decode cX1_become 9 = .ok (.getfield 16, 3) := by decide +kernel
theorem dX1_become_12 : decode cX1_become 12 = .ok (.aload_n 1, 1) := by decide +kernel
theorem dX1_become_13 : decode cX1_become 13 = .ok (.getfield 16, 3) := by decide +kernel
theorem dX1_become_16 : decode cX1_become 16 = .ok (.invokevirtual 78, 3) := by decide +kernel
theorem dX1_become_19 : decode cX1_become 19 = .ok (.return_, 1) := by decide +kernel
end
section
set_option maxRecDepth 20000 in
theorem ggX3_init_X2_init : GoodIn wsX3_init wsX2_init := goodIn_r _ [10, 11, 2, 3, 12, 13, 14, 15, 16, 17, 18, 19, 20, 21, 22] (by decide +kernel) (by decide +kernel)
set_option maxRecDepth 20000 in
theorem gX3_init_X2_init : GoodIn wsX3_init (wsX2_init) := ggX3_init_X2_init
theorem dX3_init_0 : decode cX3_init 0 = .ok (.aload_n 0, 1) := by decide +kernel
theorem dX3_init_1 : decode cX3_init 1 = .ok (.invokespecial 3, 3) := by decide +kernel
theorem dX3_init_4 : decode cX3_init 4 = .ok (.aload_n 0, 1) := by decide +kernel
theorem dX3_init_5 : decode cX3_init 5 = .ok (.new 9, 3) := by decide +kernel
theorem dX3_init_8 : decode cX3_init 8 = .ok (.dup, 1) := by decide +kernel
theorem dX3_init_9 : decode cX3_init 9 = .ok (.bipush 12, 2) := by decide +kernel
theorem dX3_init_11 : decode cX3_init 11 = .ok (.bipush 7, 2) := by decide +kernel
theorem dX3_init_13 : decode cX3_init 13 = .ok (.invokespecial 13, 3) := by decide +kernel
theorem dX3_init_16 : decode cX3_init 16 = .ok (.putfield 16, 3) := by decide +kernel
theorem dX3_init_19 : decode cX3_init 19 = .ok (.return_, 1) := by decide +kernel
set_option maxRecDepth 20000 in
theorem ggX3_reader_X2_at : GoodIn wsX3_reader wsX2_at := goodIn_r _ [6, 7, 8, 9, 13, 14, 15] (by decide +kernel) (by decide +kernel)
set_option maxRecDepth 20000 in
theorem gX3_reader_X2_at : GoodIn wsX3_reader (wsV RX3 20 RX2 yX2_at wsX2_at) := goodIn_app (goodIn_of _ (by decide +kernel)) ggX3_reader_X2_at
theorem dX3_reader_0 : decode cX3_reader 0 = .ok (.aload_n 0, 1) := by decide +kernel
theorem dX3_reader_1 : decode cX3_reader 1 = .ok (.getfield 16, 3) := by decide +kernel
theorem dX3_reader_4 : decode cX3_reader 4 = .ok (.iload_n 1, 1) := by decide +kernel
theorem dX3_reader_5 : decode cX3_reader 5 = .ok (.iconst 0, 1) := by decide +kernel
theorem dX3_reader_6 : decode cX3_reader 6 = .ok (.invokevirtual 20, 3) := by decide +kernel
theorem dX3_reader_9 : decode cX3_reader 9 = .ok (.ireturn, 1) := by decide +kernel
set_option maxRecDepth 20000 in
theorem ggX3_title_X2_at : GoodIn wsX3_title wsX2_at := goodIn_r _ [6, 7, 8, 9, 13, 14, 15] (by decide +kernel) (by decide +kernel)
set_option maxRecDepth 20000 in
theorem gX3_title_X2_at : GoodIn wsX3_title (wsV RX3 20 RX2 yX2_at wsX2_at) := goodIn_app (goodIn_of _ (by decide +kernel)) ggX3_title_X2_at
theorem dX3_title_0 : decode cX3_title 0 = .ok (.aload_n 0, 1) := by decide +kernel
theorem dX3_title_1 : decode cX3_title 1 = .ok (.getfield 16, 3) := by decide +kernel
theorem dX3_title_4 : decode cX3_title 4 = .ok (.iload_n 1, 1) := by decide +kernel
theorem dX3_title_5 : decode cX3_title 5 = .ok (.iconst 1, 1) := by decide +kernel
theorem dX3_title_6 : decode cX3_title 6 = .ok (.invokevirtual 20, 3) := by decide +kernel
theorem dX3_title_9 : decode cX3_title 9 = .ok (.ireturn, 1) := by decide +kernel
set_option maxRecDepth 20000 in
theorem ggX3_branch_X2_at : GoodIn wsX3_branch wsX2_at := goodIn_r _ [6, 7, 8, 9, 13, 14, 15] (by decide +kernel) (by decide +kernel)
set_option maxRecDepth 20000 in
theorem gX3_branch_X2_at : GoodIn wsX3_branch (wsV RX3 20 RX2 yX2_at wsX2_at) := goodIn_app (goodIn_of _ (by decide +kernel)) ggX3_branch_X2_at
theorem dX3_branch_0 : decode cX3_branch 0 = .ok (.aload_n 0, 1) := by decide +kernel
theorem dX3_branch_1 : decode cX3_branch 1 = .ok (.getfield 16, 3) := by decide +kernel
theorem dX3_branch_4 : decode cX3_branch 4 = .ok (.iload_n 1, 1) := by decide +kernel
theorem dX3_branch_5 : decode cX3_branch 5 = .ok (.iconst 2, 1) := by decide +kernel
theorem dX3_branch_6 : decode cX3_branch 6 = .ok (.invokevirtual 20, 3) := by decide +kernel
theorem dX3_branch_9 : decode cX3_branch 9 = .ok (.ireturn, 1) := by decide +kernel
set_option maxRecDepth 20000 in
theorem ggX3_need_X2_at : GoodIn wsX3_need wsX2_at := goodIn_r _ [6, 7, 8, 9, 13, 14, 15] (by decide +kernel) (by decide +kernel)
set_option maxRecDepth 20000 in
theorem gX3_need_X2_at : GoodIn wsX3_need (wsV RX3 20 RX2 yX2_at wsX2_at) := goodIn_app (goodIn_of _ (by decide +kernel)) ggX3_need_X2_at
theorem dX3_need_0 : decode cX3_need 0 = .ok (.aload_n 0, 1) := by decide +kernel
theorem dX3_need_1 : decode cX3_need 1 = .ok (.getfield 16, 3) := by decide +kernel
theorem dX3_need_4 : decode cX3_need 4 = .ok (.iload_n 1, 1) := by decide +kernel
theorem dX3_need_5 : decode cX3_need 5 = .ok (.iconst 3, 1) := by decide +kernel
theorem dX3_need_6 : decode cX3_need 6 = .ok (.invokevirtual 20, 3) := by decide +kernel
theorem dX3_need_9 : decode cX3_need 9 = .ok (.ireturn, 1) := by decide +kernel
set_option maxRecDepth 20000 in
theorem ggX3_number_X2_at : GoodIn wsX3_number wsX2_at := goodIn_r _ [6, 7, 8, 9, 13, 14, 15] (by decide +kernel) (by decide +kernel)
set_option maxRecDepth 20000 in
theorem gX3_number_X2_at : GoodIn wsX3_number (wsV RX3 20 RX2 yX2_at wsX2_at) := goodIn_app (goodIn_of _ (by decide +kernel)) ggX3_number_X2_at
theorem dX3_number_0 : decode cX3_number 0 = .ok (.aload_n 0, 1) := by decide +kernel
theorem dX3_number_1 : decode cX3_number 1 = .ok (.getfield 16, 3) := by decide +kernel
theorem dX3_number_4 : decode cX3_number 4 = .ok (.iload_n 1, 1) := by decide +kernel
theorem dX3_number_5 : decode cX3_number 5 = .ok (.bipush 6, 2) := by decide +kernel
theorem dX3_number_7 : decode cX3_number 7 = .ok (.invokevirtual 20, 3) := by decide +kernel
theorem dX3_number_10 : decode cX3_number 10 = .ok (.ireturn, 1) := by decide +kernel
set_option maxRecDepth 20000 in
theorem ggX3_slotOf_X3_number : GoodIn wsX3_slotOf wsX3_number := goodIn_r _ [6, 7, 8, 9, 10, 11, 12, 13, 14, 15, 16, 17, 18, 19, 20, 21] (by decide +kernel) (by decide +kernel)
set_option maxRecDepth 20000 in
theorem gX3_slotOf_X3_number : GoodIn wsX3_slotOf (wsV RX3 28 RX3 yX3_number wsX3_number) := goodIn_app (goodIn_of _ (by decide +kernel)) ggX3_slotOf_X3_number
theorem dX3_slotOf_0 : decode cX3_slotOf 0 = .ok (.iconst 0, 1) := by decide +kernel
theorem dX3_slotOf_1 : decode cX3_slotOf 1 = .ok (.istore_n 2, 1) := by decide +kernel
theorem dX3_slotOf_2 : decode cX3_slotOf 2 = .ok (.iload_n 2, 1) := by decide +kernel
theorem dX3_slotOf_3 : decode cX3_slotOf 3 = .ok (.aload_n 0, 1) := by decide +kernel
theorem dX3_slotOf_4 : decode cX3_slotOf 4 = .ok (.getfield 24, 3) := by decide +kernel
theorem dX3_slotOf_7 : decode cX3_slotOf 7 = .ok (.if_icmp .ge 20, 3) := by decide +kernel
theorem dX3_slotOf_10 : decode cX3_slotOf 10 = .ok (.aload_n 0, 1) := by decide +kernel
theorem dX3_slotOf_11 : decode cX3_slotOf 11 = .ok (.iload_n 2, 1) := by decide +kernel
theorem dX3_slotOf_12 : decode cX3_slotOf 12 = .ok (.invokevirtual 28, 3) := by decide +kernel
theorem dX3_slotOf_15 : decode cX3_slotOf 15 = .ok (.iload_n 1, 1) := by decide +kernel
theorem dX3_slotOf_16 : decode cX3_slotOf 16 = .ok (.if_icmp .ne 5, 3) := by decide +kernel
theorem dX3_slotOf_19 : decode cX3_slotOf 19 = .ok (.iload_n 2, 1) := by decide +kernel
theorem dX3_slotOf_20 : decode cX3_slotOf 20 = .ok (.ireturn, 1) := by decide +kernel
theorem dX3_slotOf_21 : decode cX3_slotOf 21 = .ok (.iinc 2 1, 3) := by decide +kernel
theorem dX3_slotOf_24 : decode cX3_slotOf 24 = .ok (.goto (-22), 3) := by decide +kernel
theorem dX3_slotOf_27 : decode cX3_slotOf 27 = .ok (.iconst (-1), 1) := by decide +kernel
theorem dX3_slotOf_28 : decode cX3_slotOf 28 = .ok (.ireturn, 1) := by decide +kernel
set_option maxRecDepth 20000 in
theorem ggX3_add_X2_put : GoodIn wsX3_add wsX2_put := goodIn_r _ [8, 9, 10, 11, 15, 16, 17] (by decide +kernel) (by decide +kernel)
set_option maxRecDepth 20000 in
theorem gX3_add_X2_put : GoodIn wsX3_add (wsV RX3 35 RX2 yX2_put wsX2_put) := goodIn_app (goodIn_of _ (by decide +kernel)) ggX3_add_X2_put
theorem dX3_add_0 : decode cX3_add 0 = .ok (.aload_n 0, 1) := by decide +kernel
theorem dX3_add_1 : decode cX3_add 1 = .ok (.getfield 32, 3) := by decide +kernel
theorem dX3_add_4 : decode cX3_add 4 = .ok (.istore 6, 2) := by decide +kernel
theorem dX3_add_6 : decode cX3_add 6 = .ok (.aload_n 0, 1) := by decide +kernel
theorem dX3_add_7 : decode cX3_add 7 = .ok (.getfield 16, 3) := by decide +kernel
theorem dX3_add_10 : decode cX3_add 10 = .ok (.aload_n 0, 1) := by decide +kernel
theorem dX3_add_11 : decode cX3_add 11 = .ok (.getfield 24, 3) := by decide +kernel
theorem dX3_add_14 : decode cX3_add 14 = .ok (.iconst 0, 1) := by decide +kernel
theorem dX3_add_15 : decode cX3_add 15 = .ok (.iload_n 1, 1) := by decide +kernel
theorem dX3_add_16 : decode cX3_add 16 = .ok (.invokevirtual 35, 3) := by decide +kernel
theorem dX3_add_19 : decode cX3_add 19 = .ok (.aload_n 0, 1) := by decide +kernel
theorem dX3_add_20 : decode cX3_add 20 = .ok (.getfield 16, 3) := by decide +kernel
theorem dX3_add_23 : decode cX3_add 23 = .ok (.aload_n 0, 1) := by decide +kernel
theorem dX3_add_24 : decode cX3_add 24 = .ok (.getfield 24, 3) := by decide +kernel
theorem dX3_add_27 : decode cX3_add 27 = .ok (.iconst 1, 1) := by decide +kernel
theorem dX3_add_28 : decode cX3_add 28 = .ok (.iload_n 2, 1) := by decide +kernel
theorem dX3_add_29 : decode cX3_add 29 = .ok (.invokevirtual 35, 3) := by decide +kernel
theorem dX3_add_32 : decode cX3_add 32 = .ok (.aload_n 0, 1) := by decide +kernel
theorem dX3_add_33 : decode cX3_add 33 = .ok (.getfield 16, 3) := by decide +kernel
theorem dX3_add_36 : decode cX3_add 36 = .ok (.aload_n 0, 1) := by decide +kernel
theorem dX3_add_37 : decode cX3_add 37 = .ok (.getfield 24, 3) := by decide +kernel
theorem dX3_add_40 : decode cX3_add 40 = .ok (.iconst 2, 1) := by decide +kernel
theorem dX3_add_41 : decode cX3_add 41 = .ok (.iload_n 3, 1) := by decide +kernel
theorem dX3_add_42 : decode cX3_add 42 = .ok (.invokevirtual 35, 3) := by decide +kernel
theorem dX3_add_45 : decode cX3_add 45 = .ok (.aload_n 0, 1) := by decide +kernel
theorem dX3_add_46 : decode cX3_add 46 = .ok (.getfield 16, 3) := by decide +kernel
theorem dX3_add_49 : decode cX3_add 49 = .ok (.aload_n 0, 1) := by decide +kernel
theorem dX3_add_50 : decode cX3_add 50 = .ok (.getfield 24, 3) := by decide +kernel
theorem dX3_add_53 : decode cX3_add 53 = .ok (.iconst 3, 1) := by decide +kernel
theorem dX3_add_54 : decode cX3_add 54 = .ok (.iload 4, 2) := by decide +kernel
theorem dX3_add_56 : decode cX3_add 56 = .ok (.invokevirtual 35, 3) := by decide +kernel
theorem dX3_add_59 : decode cX3_add 59 = .ok (.aload_n 0, 1) := by decide +kernel
theorem dX3_add_60 : decode cX3_add 60 = .ok (.getfield 16, 3) := by decide +kernel
theorem dX3_add_63 : decode cX3_add 63 = .ok (.aload_n 0, 1) := by decide +kernel
theorem dX3_add_64 : decode cX3_add 64 = .ok (.getfield 24, 3) := by decide +kernel
theorem dX3_add_67 : decode cX3_add 67 = .ok (.iconst 4, 1) := by decide +kernel
theorem dX3_add_68 : decode cX3_add 68 = .ok (.iload 5, 2) := by decide +kernel
theorem dX3_add_70 : decode cX3_add 70 = .ok (.invokevirtual 35, 3) := by decide +kernel
theorem dX3_add_73 : decode cX3_add 73 = .ok (.aload_n 0, 1) := by decide +kernel
theorem dX3_add_74 : decode cX3_add 74 = .ok (.getfield 16, 3) := by decide +kernel
theorem dX3_add_77 : decode cX3_add 77 = .ok (.aload_n 0, 1) := by decide +kernel
theorem dX3_add_78 : decode cX3_add 78 = .ok (.getfield 24, 3) := by decide +kernel
theorem dX3_add_81 : decode cX3_add 81 = .ok (.iconst 5, 1) := by decide +kernel
theorem dX3_add_82 : decode cX3_add 82 = .ok (.iconst (-1), 1) := by decide +kernel
theorem dX3_add_83 : decode cX3_add 83 = .ok (.invokevirtual 35, 3) := by decide +kernel
theorem dX3_add_86 : decode cX3_add 86 = .ok (.aload_n 0, 1) := by decide +kernel
theorem dX3_add_87 : decode cX3_add 87 = .ok (.getfield 16, 3) := by decide +kernel
theorem dX3_add_90 : decode cX3_add 90 = .ok (.aload_n 0, 1) := by decide +kernel
theorem dX3_add_91 : decode cX3_add 91 = .ok (.getfield 24, 3) := by decide +kernel
theorem dX3_add_94 : decode cX3_add 94 = .ok (.bipush 6, 2) := by decide +kernel
theorem dX3_add_96 : decode cX3_add 96 = .ok (.iload 6, 2) := by decide +kernel
theorem dX3_add_98 : decode cX3_add 98 = .ok (.invokevirtual 35, 3) := by decide +kernel
theorem dX3_add_101 : decode cX3_add 101 = .ok (.aload_n 0, 1) := by decide +kernel
theorem dX3_add_102 : decode cX3_add 102 = .ok (.dup, 1) := by decide +kernel
theorem dX3_add_103 : decode cX3_add 103 = .ok (.getfield 24, 3) := by decide +kernel
theorem dX3_add_106 : decode cX3_add 106 = .ok (.iconst 1, 1) := by decide +kernel
theorem dX3_add_107 : decode cX3_add 107 = .ok (.iadd, 1) := by decide +kernel
theorem dX3_add_108 : decode cX3_add 108 = .ok (.putfield 24, 3) := by decide +kernel
theorem dX3_add_111 : decode cX3_add 111 = .ok (.aload_n 0, 1) := by decide +kernel
theorem dX3_add_112 : decode cX3_add 112 = .ok (.dup, 1) := by decide +kernel
theorem dX3_add_113 : decode cX3_add 113 = .ok (.getfield 32, 3) := by decide +kernel
theorem dX3_add_116 : decode cX3_add 116 = .ok (.iconst 1, 1) := by decide +kernel
theorem dX3_add_117 : decode cX3_add 117 = .ok (.iadd, 1) := by decide +kernel
theorem dX3_add_118 : decode cX3_add 118 = .ok (.putfield 32, 3) := by decide +kernel
theorem dX3_add_121 : decode cX3_add 121 = .ok (.iload 6, 2) := by decide +kernel
theorem dX3_add_123 : decode cX3_add 123 = .ok (.ireturn, 1) := by decide +kernel
theorem dX3_waiting_0 : decode cX3_waiting 0 = .ok (.iconst 0, 1) := by decide +kernel
theorem dX3_waiting_1 : decode cX3_waiting 1 = .ok (.istore_n 1, 1) := by decide +kernel
theorem dX3_waiting_2 : decode cX3_waiting 2 = .ok (.iconst 0, 1) := by decide +kernel
theorem dX3_waiting_3 : decode cX3_waiting 3 = .ok (.istore_n 2, 1) := by decide +kernel
theorem dX3_waiting_4 : decode cX3_waiting 4 = .ok (.iload_n 2, 1) := by decide +kernel
theorem dX3_waiting_5 : decode cX3_waiting 5 = .ok (.aload_n 0, 1) := by decide +kernel
theorem dX3_waiting_6 : decode cX3_waiting 6 = .ok (.getfield 24, 3) := by decide +kernel
theorem dX3_waiting_9 : decode cX3_waiting 9 = .ok (.if_icmp .ge 21, 3) := by decide +kernel
theorem dX3_waiting_12 : decode cX3_waiting 12 = .ok (.aload_n 0, 1) := by decide +kernel
theorem dX3_waiting_13 : decode cX3_waiting 13 = .ok (.iload_n 2, 1) := by decide +kernel
theorem dX3_waiting_14 : decode cX3_waiting 14 = .ok (.invokevirtual 47, 3) := by decide +kernel
theorem dX3_waiting_17 : decode cX3_waiting 17 = .ok (.iconst (-1), 1) := by decide +kernel
theorem dX3_waiting_18 : decode cX3_waiting 18 = .ok (.if_icmp .ne 6, 3) := by decide +kernel
theorem dX3_waiting_21 : decode cX3_waiting 21 = .ok (.iinc 1 1, 3) := by decide +kernel
theorem dX3_waiting_24 : decode cX3_waiting 24 = .ok (.iinc 2 1, 3) := by decide +kernel
theorem dX3_waiting_27 : decode cX3_waiting 27 = .ok (.goto (-23), 3) := by decide +kernel
theorem dX3_waiting_30 : decode cX3_waiting 30 = .ok (.iload_n 1, 1) := by decide +kernel
theorem dX3_waiting_31 : decode cX3_waiting 31 = .ok (.ireturn, 1) := by decide +kernel
set_option maxRecDepth 20000 in
theorem ggX3_ofReader_X3_reader : GoodIn wsX3_ofReader wsX3_reader := goodIn_r _ [6, 7, 8, 9, 10, 11, 12, 13, 14, 15, 16, 17, 18, 19, 20, 21] (by decide +kernel) (by decide +kernel)
set_option maxRecDepth 20000 in
theorem gX3_ofReader_X3_reader : GoodIn wsX3_ofReader (wsV RX3 50 RX3 yX3_reader wsX3_reader) := goodIn_app (goodIn_of _ (by decide +kernel)) ggX3_ofReader_X3_reader
theorem dX3_ofReader_0 : decode cX3_ofReader 0 = .ok (.iconst 0, 1) := by decide +kernel
theorem dX3_ofReader_1 : decode cX3_ofReader 1 = .ok (.istore_n 2, 1) := by decide +kernel
theorem dX3_ofReader_2 : decode cX3_ofReader 2 = .ok (.iconst 0, 1) := by decide +kernel
theorem dX3_ofReader_3 : decode cX3_ofReader 3 = .ok (.istore_n 3, 1) := by decide +kernel
theorem dX3_ofReader_4 : decode cX3_ofReader 4 = .ok (.iload_n 3, 1) := by decide +kernel
theorem dX3_ofReader_5 : decode cX3_ofReader 5 = .ok (.aload_n 0, 1) := by decide +kernel
theorem dX3_ofReader_6 : decode cX3_ofReader 6 = .ok (.getfield 24, 3) := by decide +kernel
theorem dX3_ofReader_9 : decode cX3_ofReader 9 = .ok (.if_icmp .ge 21, 3) := by decide +kernel
theorem dX3_ofReader_12 : decode cX3_ofReader 12 = .ok (.aload_n 0, 1) := by decide +kernel
theorem dX3_ofReader_13 : decode cX3_ofReader 13 = .ok (.iload_n 3, 1) := by decide +kernel
theorem dX3_ofReader_14 : decode cX3_ofReader 14 = .ok (.invokevirtual 50, 3) := by decide +kernel
theorem dX3_ofReader_17 : decode cX3_ofReader 17 = .ok (.iload_n 1, 1) := by decide +kernel
theorem dX3_ofReader_18 : decode cX3_ofReader 18 = .ok (.if_icmp .ne 6, 3) := by decide +kernel
theorem dX3_ofReader_21 : decode cX3_ofReader 21 = .ok (.iinc 2 1, 3) := by decide +kernel
theorem dX3_ofReader_24 : decode cX3_ofReader 24 = .ok (.iinc 3 1, 3) := by decide +kernel
theorem dX3_ofReader_27 : decode cX3_ofReader 27 = .ok (.goto (-23), 3) := by decide +kernel
theorem dX3_ofReader_30 : decode cX3_ofReader 30 = .ok (.iload_n 2, 1) := by decide +kernel
theorem dX3_ofReader_31 : decode cX3_ofReader 31 = .ok (.ireturn, 1) := by decide +kernel
set_option maxRecDepth 20000 in
theorem ggX3_has_X3_reader : GoodIn wsX3_has wsX3_reader := goodIn_r _ [6, 7, 8, 9, 10, 11, 12, 13, 14, 15, 20, 21, 22, 23, 24, 25] (by decide +kernel) (by decide +kernel)
set_option maxRecDepth 20000 in
theorem gX3_has_X3_reader : GoodIn wsX3_has (wsV RX3 50 RX3 yX3_reader wsX3_reader) := goodIn_app (goodIn_of _ (by decide +kernel)) ggX3_has_X3_reader
set_option maxRecDepth 20000 in
theorem ggX3_has_X3_title : GoodIn wsX3_has wsX3_title := goodIn_r _ [19, 7, 8, 9, 10, 11, 12, 13, 14, 15, 20, 21, 22, 23, 24, 25] (by decide +kernel) (by decide +kernel)
set_option maxRecDepth 20000 in
theorem gX3_has_X3_title : GoodIn wsX3_has (wsV RX3 53 RX3 yX3_title wsX3_title) := goodIn_app (goodIn_of _ (by decide +kernel)) ggX3_has_X3_title
theorem dX3_has_0 : decode cX3_has 0 = .ok (.iconst 0, 1) := by decide +kernel
theorem dX3_has_1 : decode cX3_has 1 = .ok (.istore_n 3, 1) := by decide +kernel
theorem dX3_has_2 : decode cX3_has 2 = .ok (.iload_n 3, 1) := by decide +kernel
theorem dX3_has_3 : decode cX3_has 3 = .ok (.aload_n 0, 1) := by decide +kernel
theorem dX3_has_4 : decode cX3_has 4 = .ok (.getfield 24, 3) := by decide +kernel
theorem dX3_has_7 : decode cX3_has 7 = .ok (.if_icmp .ge 29, 3) := by decide +kernel
theorem dX3_has_10 : decode cX3_has 10 = .ok (.aload_n 0, 1) := by decide +kernel
theorem dX3_has_11 : decode cX3_has 11 = .ok (.iload_n 3, 1) := by decide +kernel
theorem dX3_has_12 : decode cX3_has 12 = .ok (.invokevirtual 50, 3) := by decide +kernel
theorem dX3_has_15 : decode cX3_has 15 = .ok (.iload_n 1, 1) := by decide +kernel
theorem dX3_has_16 : decode cX3_has 16 = .ok (.if_icmp .ne 14, 3) := by decide +kernel
theorem dX3_has_19 : decode cX3_has 19 = .ok (.aload_n 0, 1) := by decide +kernel
theorem dX3_has_20 : decode cX3_has 20 = .ok (.iload_n 3, 1) := by decide +kernel
theorem dX3_has_21 : decode cX3_has 21 = .ok (.invokevirtual 53, 3) := by decide +kernel
theorem dX3_has_24 : decode cX3_has 24 = .ok (.iload_n 2, 1) := by decide +kernel
theorem dX3_has_25 : decode cX3_has 25 = .ok (.if_icmp .ne 5, 3) := by decide +kernel
theorem dX3_has_28 : decode cX3_has 28 = .ok (.iconst 1, 1) := by decide +kernel
theorem dX3_has_29 : decode cX3_has 29 = .ok (.ireturn, 1) := by decide +kernel
theorem dX3_has_30 : decode cX3_has 30 = .ok (.iinc 3 1, 3) := by decide +kernel
theorem dX3_has_33 : decode cX3_has 33 = .ok (.goto (-31), 3) := by decide +kernel
theorem dX3_has_36 : decode cX3_has 36 = .ok (.iconst 0, 1) := by decide +kernel
theorem dX3_has_37 : decode cX3_has 37 = .ok (.ireturn, 1) := by decide +kernel
set_option maxRecDepth 20000 in
theorem ggX3_rowLength_X3_isInRow : GoodIn wsX3_rowLength wsX3_isInRow := goodIn_r _ [6, 7, 8, 9, 10, 11, 12, 13, 14, 15, 16, 17, 18, 19, 20, 21] (by decide +kernel) (by decide +kernel)
set_option maxRecDepth 20000 in
theorem gX3_rowLength_X3_isInRow : GoodIn wsX3_rowLength (wsV RX3 56 RX3 yX3_isInRow wsX3_isInRow) := goodIn_app (goodIn_of _ (by decide +kernel)) ggX3_rowLength_X3_isInRow
theorem dX3_rowLength_0 : decode cX3_rowLength 0 = .ok (.iconst 0, 1) := by decide +kernel
theorem dX3_rowLength_1 : decode cX3_rowLength 1 = .ok (.istore_n 2, 1) := by decide +kernel
theorem dX3_rowLength_2 : decode cX3_rowLength 2 = .ok (.iconst 0, 1) := by decide +kernel
theorem dX3_rowLength_3 : decode cX3_rowLength 3 = .ok (.istore_n 3, 1) := by decide +kernel
theorem dX3_rowLength_4 : decode cX3_rowLength 4 = .ok (.iload_n 3, 1) := by decide +kernel
theorem dX3_rowLength_5 : decode cX3_rowLength 5 = .ok (.aload_n 0, 1) := by decide +kernel
theorem dX3_rowLength_6 : decode cX3_rowLength 6 = .ok (.getfield 24, 3) := by decide +kernel
theorem dX3_rowLength_9 : decode cX3_rowLength 9 = .ok (.if_icmp .ge 21, 3) := by decide +kernel
theorem dX3_rowLength_12 : decode cX3_rowLength 12 = .ok (.aload_n 0, 1) := by decide +kernel
theorem dX3_rowLength_13 : decode cX3_rowLength 13 = .ok (.iload_n 3, 1) := by decide +kernel
theorem dX3_rowLength_14 : decode cX3_rowLength 14 = .ok (.iload_n 1, 1) := by decide +kernel
theorem dX3_rowLength_15 : decode cX3_rowLength 15 = .ok (.invokevirtual 56, 3) := by decide +kernel
theorem dX3_rowLength_18 : decode cX3_rowLength 18 = .ok (.ifCond .eq 6, 3) := by decide +kernel
theorem dX3_rowLength_21 : decode cX3_rowLength 21 = .ok (.iinc 2 1, 3) := by decide +kernel
theorem dX3_rowLength_24 : decode cX3_rowLength 24 = .ok (.iinc 3 1, 3) := by decide +kernel
theorem dX3_rowLength_27 : decode cX3_rowLength 27 = .ok (.goto (-23), 3) := by decide +kernel
theorem dX3_rowLength_30 : decode cX3_rowLength 30 = .ok (.iload_n 2, 1) := by decide +kernel
theorem dX3_rowLength_31 : decode cX3_rowLength 31 = .ok (.ireturn, 1) := by decide +kernel
set_option maxRecDepth 20000 in
theorem ggX3_firstOfRow_X3_isInRow : GoodIn wsX3_firstOfRow wsX3_isInRow := goodIn_r _ [6, 7, 8, 9, 10, 11, 12, 13, 14, 15, 20, 21, 22, 23, 24, 25] (by decide +kernel) (by decide +kernel)
set_option maxRecDepth 20000 in
theorem gX3_firstOfRow_X3_isInRow : GoodIn wsX3_firstOfRow (wsV RX3 56 RX3 yX3_isInRow wsX3_isInRow) := goodIn_app (goodIn_of _ (by decide +kernel)) ggX3_firstOfRow_X3_isInRow
set_option maxRecDepth 20000 in
theorem ggX3_firstOfRow_X3_need : GoodIn wsX3_firstOfRow wsX3_need := goodIn_r _ [19, 7, 8, 9, 10, 11, 12, 13, 14, 15, 20, 21, 22, 23, 24, 25] (by decide +kernel) (by decide +kernel)
set_option maxRecDepth 20000 in
theorem gX3_firstOfRow_X3_need : GoodIn wsX3_firstOfRow (wsV RX3 59 RX3 yX3_need wsX3_need) := goodIn_app (goodIn_of _ (by decide +kernel)) ggX3_firstOfRow_X3_need
theorem dX3_firstOfRow_0 : decode cX3_firstOfRow 0 = .ok (.iconst (-1), 1) := by decide +kernel
theorem dX3_firstOfRow_1 : decode cX3_firstOfRow 1 = .ok (.istore_n 2, 1) := by decide +kernel
theorem dX3_firstOfRow_2 : decode cX3_firstOfRow 2 = .ok (.iconst 0, 1) := by decide +kernel
theorem dX3_firstOfRow_3 : decode cX3_firstOfRow 3 = .ok (.istore_n 3, 1) := by decide +kernel
theorem dX3_firstOfRow_4 : decode cX3_firstOfRow 4 = .ok (.iload_n 3, 1) := by decide +kernel
theorem dX3_firstOfRow_5 : decode cX3_firstOfRow 5 = .ok (.aload_n 0, 1) := by decide +kernel
theorem dX3_firstOfRow_6 : decode cX3_firstOfRow 6 = .ok (.getfield 24, 3) := by decide +kernel
theorem dX3_firstOfRow_9 : decode cX3_firstOfRow 9 = .ok (.if_icmp .ge 38, 3) := by decide +kernel
theorem dX3_firstOfRow_12 : decode cX3_firstOfRow 12 = .ok (.aload_n 0, 1) := by decide +kernel
theorem dX3_firstOfRow_13 : decode cX3_firstOfRow 13 = .ok (.iload_n 3, 1) := by decide +kernel
theorem dX3_firstOfRow_14 : decode cX3_firstOfRow 14 = .ok (.iload_n 1, 1) := by decide +kernel
theorem dX3_firstOfRow_15 : decode cX3_firstOfRow 15 = .ok (.invokevirtual 56, 3) := by decide +kernel
theorem dX3_firstOfRow_18 : decode cX3_firstOfRow 18 = .ok (.ifCond .eq 23, 3) := by decide +kernel
theorem dX3_firstOfRow_21 : decode cX3_firstOfRow 21 = .ok (.iload_n 2, 1) := by decide +kernel
theorem dX3_firstOfRow_22 : decode cX3_firstOfRow 22 = .ok (.iconst (-1), 1) := by decide +kernel
theorem dX3_firstOfRow_23 : decode cX3_firstOfRow 23 = .ok (.if_icmp .eq 16, 3) := by decide +kernel
theorem dX3_firstOfRow_26 : decode cX3_firstOfRow 26 = .ok (.aload_n 0, 1) := by decide +kernel
theorem dX3_firstOfRow_27 : decode cX3_firstOfRow 27 = .ok (.iload_n 3, 1) := by decide +kernel
theorem dX3_firstOfRow_28 : decode cX3_firstOfRow 28 = .ok (.invokevirtual 59, 3) := by decide +kernel
theorem dX3_firstOfRow_31 : decode cX3_firstOfRow 31 = .ok (.aload_n 0, 1) := by decide +kernel
theorem dX3_firstOfRow_32 : decode cX3_firstOfRow 32 = .ok (.iload_n 2, 1) := by decide +kernel
theorem dX3_firstOfRow_33 : decode cX3_firstOfRow 33 = .ok (.invokevirtual 59, 3) := by decide +kernel
theorem dX3_firstOfRow_36 : decode cX3_firstOfRow 36 = .ok (.if_icmp .le 5, 3) := by decide +kernel
theorem dX3_firstOfRow_39 : decode cX3_firstOfRow 39 = .ok (.iload_n 3, 1) := by decide +kernel
theorem dX3_firstOfRow_40 : decode cX3_firstOfRow 40 = .ok (.istore_n 2, 1) := by decide +kernel
theorem dX3_firstOfRow_41 : decode cX3_firstOfRow 41 = .ok (.iinc 3 1, 3) := by decide +kernel
theorem dX3_firstOfRow_44 : decode cX3_firstOfRow 44 = .ok (.goto (-40), 3) := by decide +kernel
theorem dX3_firstOfRow_47 : decode cX3_firstOfRow 47 = .ok (.iload_n 2, 1) := by decide +kernel
theorem dX3_firstOfRow_48 : decode cX3_firstOfRow 48 = .ok (.ireturn, 1) := by decide +kernel
set_option maxRecDepth 20000 in
theorem ggX3_longestWait_X3_isInRow : GoodIn wsX3_longestWait wsX3_isInRow := goodIn_r _ [10, 11, 12, 13, 14, 15, 16, 17, 18, 19, 24, 25, 26, 27, 28, 29] (by decide +kernel) (by decide +kernel)
set_option maxRecDepth 20000 in
theorem gX3_longestWait_X3_isInRow : GoodIn wsX3_longestWait (wsV RX3 56 RX3 yX3_isInRow wsX3_isInRow) := goodIn_app (goodIn_of _ (by decide +kernel)) ggX3_longestWait_X3_isInRow
theorem dX3_longestWait_0 : decode cX3_longestWait 0 = .ok (.iconst 0, 1) := by decide +kernel
theorem dX3_longestWait_1 : decode cX3_longestWait 1 = .ok (.istore_n 3, 1) := by decide +kernel
theorem dX3_longestWait_2 : decode cX3_longestWait 2 = .ok (.iconst 0, 1) := by decide +kernel
theorem dX3_longestWait_3 : decode cX3_longestWait 3 = .ok (.istore 4, 2) := by decide +kernel
theorem dX3_longestWait_5 : decode cX3_longestWait 5 = .ok (.iload 4, 2) := by decide +kernel
theorem dX3_longestWait_7 : decode cX3_longestWait 7 = .ok (.aload_n 0, 1) := by decide +kernel
theorem dX3_longestWait_8 : decode cX3_longestWait 8 = .ok (.getfield 24, 3) := by decide +kernel
theorem dX3_longestWait_11 : decode cX3_longestWait 11 = .ok (.if_icmp .ge 32, 3) := by decide +kernel
theorem dX3_longestWait_14 : decode cX3_longestWait 14 = .ok (.aload_n 0, 1) := by decide +kernel
theorem dX3_longestWait_15 : decode cX3_longestWait 15 = .ok (.iload 4, 2) := by decide +kernel
theorem dX3_longestWait_17 : decode cX3_longestWait 17 = .ok (.iload_n 1, 1) := by decide +kernel
theorem dX3_longestWait_18 : decode cX3_longestWait 18 = .ok (.invokevirtual 56, 3) := by decide +kernel
theorem dX3_longestWait_21 : decode cX3_longestWait 21 = .ok (.ifCond .eq 16, 3) := by decide +kernel
theorem dX3_longestWait_24 : decode cX3_longestWait 24 = .ok (.iload_n 3, 1) := by decide +kernel
theorem dX3_longestWait_25 : decode cX3_longestWait 25 = .ok (.iload_n 2, 1) := by decide +kernel
theorem dX3_longestWait_26 : decode cX3_longestWait 26 = .ok (.aload_n 0, 1) := by decide +kernel
theorem dX3_longestWait_27 : decode cX3_longestWait 27 = .ok (.iload 4, 2) := by decide +kernel
theorem dX3_longestWait_29 : decode cX3_longestWait 29 = .ok (.invokevirtual 65, 3) := by decide +kernel
theorem dX3_longestWait_32 : decode cX3_longestWait 32 = .ok (.isub, 1) := by decide +kernel
theorem dX3_longestWait_33 : decode cX3_longestWait 33 = .ok (.invokestatic 68, 3) := by decide +kernel
theorem dX3_longestWait_36 : decode cX3_longestWait 36 = .ok (.istore_n 3, 1) := by decide +kernel
theorem dX3_longestWait_37 : decode cX3_longestWait 37 = .ok (.iinc 4 1, 3) := by decide +kernel
theorem dX3_longestWait_40 : decode cX3_longestWait 40 = .ok (.goto (-35), 3) := by decide +kernel
theorem dX3_longestWait_43 : decode cX3_longestWait 43 = .ok (.iload_n 3, 1) := by decide +kernel
theorem dX3_longestWait_44 : decode cX3_longestWait 44 = .ok (.ireturn, 1) := by decide +kernel
set_option maxRecDepth 20000 in
theorem ggX3_isInRow_X2_at : GoodIn wsX3_isInRow wsX2_at := goodIn_r _ [6, 7, 8, 9, 13, 14, 15] (by decide +kernel) (by decide +kernel)
set_option maxRecDepth 20000 in
theorem gX3_isInRow_X2_at : GoodIn wsX3_isInRow (wsV RX3 20 RX2 yX2_at wsX2_at) := goodIn_app (goodIn_of _ (by decide +kernel)) ggX3_isInRow_X2_at
theorem dX3_isInRow_0 : decode cX3_isInRow 0 = .ok (.aload_n 0, 1) := by decide +kernel
theorem dX3_isInRow_1 : decode cX3_isInRow 1 = .ok (.getfield 16, 3) := by decide +kernel
theorem dX3_isInRow_4 : decode cX3_isInRow 4 = .ok (.iload_n 1, 1) := by decide +kernel
theorem dX3_isInRow_5 : decode cX3_isInRow 5 = .ok (.iconst 1, 1) := by decide +kernel
theorem dX3_isInRow_6 : decode cX3_isInRow 6 = .ok (.invokevirtual 20, 3) := by decide +kernel
theorem dX3_isInRow_9 : decode cX3_isInRow 9 = .ok (.iload_n 2, 1) := by decide +kernel
theorem dX3_isInRow_10 : decode cX3_isInRow 10 = .ok (.if_icmp .ne 20, 3) := by decide +kernel
theorem dX3_isInRow_13 : decode cX3_isInRow 13 = .ok (.aload_n 0, 1) := by decide +kernel
theorem dX3_isInRow_14 : decode cX3_isInRow 14 = .ok (.getfield 16, 3) := by decide +kernel
theorem dX3_isInRow_17 : decode cX3_isInRow 17 = .ok (.iload_n 1, 1) := by decide +kernel
theorem dX3_isInRow_18 : decode cX3_isInRow 18 = .ok (.iconst 5, 1) := by decide +kernel
theorem dX3_isInRow_19 : decode cX3_isInRow 19 = .ok (.invokevirtual 20, 3) := by decide +kernel
theorem dX3_isInRow_22 : decode cX3_isInRow 22 = .ok (.iconst (-1), 1) := by decide +kernel
theorem dX3_isInRow_23 : decode cX3_isInRow 23 = .ok (.if_icmp .ne 7, 3) := by decide +kernel
theorem dX3_isInRow_26 : decode cX3_isInRow 26 = .ok (.iconst 1, 1) := by decide +kernel
theorem dX3_isInRow_27 : decode cX3_isInRow 27 = .ok (.goto 4, 3) := by decide +kernel
theorem dX3_isInRow_30 : decode cX3_isInRow 30 = .ok (.iconst 0, 1) := by decide +kernel
theorem dX3_isInRow_31 : decode cX3_isInRow 31 = .ok (.ireturn, 1) := by decide +kernel
set_option maxRecDepth 20000 in
theorem ggX3_become_X2_become : GoodIn wsX3_become wsX2_become := goodIn_r _ [8, 9, 10, 11, 12, 13, 14, 15, 16, 17, 21, 22, 23] (by decide +kernel) (by decide +kernel)
set_option maxRecDepth 20000 in
theorem gX3_become_X2_become : GoodIn wsX3_become (wsV RX3 73 RX2 yX2_become wsX2_become) := goodIn_app (goodIn_of _ (by decide +kernel)) ggX3_become_X2_become
theorem dX3_become_0 : decode cX3_become 0 = .ok (.aload_n 0, 1) := by decide +kernel
theorem dX3_become_1 : decode cX3_become 1 = .ok (.aload_n 1, 1) := by decide +kernel
theorem dX3_become_2 : decode cX3_become 2 = .ok (.getfield 24, 3) := by decide +kernel
theorem dX3_become_5 : decode cX3_become 5 = .ok (.putfield 24, 3) := by decide +kernel
theorem dX3_become_8 : decode cX3_become 8 = .ok (.aload_n 0, 1) := by decide +kernel
theorem dX3_become_9 : decode cX3_become 9 = .ok (.aload_n 1, 1) := by decide +kernel
theorem dX3_become_10 : decode cX3_become 10 = .ok (.getfield 32, 3) := by decide +kernel
theorem dX3_become_13 : decode cX3_become 13 = .ok (.putfield 32, 3) := by decide +kernel
theorem dX3_become_16 : decode cX3_become 16 = .ok (.aload_n 0, 1) := by decide +kernel
theorem dX3_become_17 : decode cX3_become 17 = .ok (.getfield 16, 3) := by decide +kernel
theorem dX3_become_20 : decode cX3_become 20 = .ok (.aload_n 1, 1) := by decide +kernel
theorem dX3_become_21 : decode cX3_become 21 = .ok (.getfield 16, 3) := by decide +kernel
theorem dX3_become_24 : decode cX3_become 24 = .ok (.invokevirtual 73, 3) := by decide +kernel
theorem dX3_become_27 : decode cX3_become 27 = .ok (.return_, 1) := by decide +kernel
end
section
set_option maxRecDepth 20000 in
theorem ggX4_init_X0_init : GoodIn wsX4_init wsX0_init := goodIn_r _ [17, 18, 2, 3, 19, 20, 21, 47, 48, 49, 50] (by decide +kernel) (by decide +kernel)
set_option maxRecDepth 20000 in
theorem gX4_init_X0_init_n11 : GoodIn wsX4_init (wsX0_init) := ggX4_init_X0_init
set_option maxRecDepth 20000 in
theorem ggX4_init_X1_init : GoodIn wsX4_init wsX1_init := goodIn_r _ [23, 24, 2, 3, 25, 26, 27, 28, 29, 30, 31, 32, 33, 34, 35, 36, 37, 38, 39, 40, 60, 61, 62, 55, 56] (by decide +kernel) (by decide +kernel)
set_option maxRecDepth 20000 in
theorem gX4_init_X1_init_n20 : GoodIn wsX4_init (wsX1_init) := ggX4_init_X1_init
set_option maxRecDepth 20000 in
theorem ggX4_init_X3_init : GoodIn wsX4_init wsX3_init := goodIn_r _ [42, 43, 2, 3, 44, 26, 27, 45, 46, 30, 31, 32, 33, 34, 35, 36, 37, 38, 39, 40, 60, 61, 62, 57, 58, 59] (by decide +kernel) (by decide +kernel)
set_option maxRecDepth 20000 in
theorem gX4_init_X3_init_n27 : GoodIn wsX4_init (wsX3_init) := ggX4_init_X3_init
theorem dX4_init_0 : decode cX4_init 0 = .ok (.aload_n 0, 1) := by decide +kernel
theorem dX4_init_1 : decode cX4_init 1 = .ok (.invokespecial 3, 3) := by decide +kernel
theorem dX4_init_4 : decode cX4_init 4 = .ok (.aload_n 0, 1) := by decide +kernel
theorem dX4_init_5 : decode cX4_init 5 = .ok (.new 9, 3) := by decide +kernel
theorem dX4_init_8 : decode cX4_init 8 = .ok (.dup, 1) := by decide +kernel
theorem dX4_init_9 : decode cX4_init 9 = .ok (.invokespecial 11, 3) := by decide +kernel
theorem dX4_init_12 : decode cX4_init 12 = .ok (.putfield 12, 3) := by decide +kernel
theorem dX4_init_15 : decode cX4_init 15 = .ok (.aload_n 0, 1) := by decide +kernel
theorem dX4_init_16 : decode cX4_init 16 = .ok (.new 18, 3) := by decide +kernel
theorem dX4_init_19 : decode cX4_init 19 = .ok (.dup, 1) := by decide +kernel
theorem dX4_init_20 : decode cX4_init 20 = .ok (.invokespecial 20, 3) := by decide +kernel
theorem dX4_init_23 : decode cX4_init 23 = .ok (.putfield 21, 3) := by decide +kernel
theorem dX4_init_26 : decode cX4_init 26 = .ok (.aload_n 0, 1) := by decide +kernel
theorem dX4_init_27 : decode cX4_init 27 = .ok (.new 25, 3) := by decide +kernel
theorem dX4_init_30 : decode cX4_init 30 = .ok (.dup, 1) := by decide +kernel
theorem dX4_init_31 : decode cX4_init 31 = .ok (.invokespecial 27, 3) := by decide +kernel
theorem dX4_init_34 : decode cX4_init 34 = .ok (.putfield 28, 3) := by decide +kernel
theorem dX4_init_37 : decode cX4_init 37 = .ok (.return_, 1) := by decide +kernel
set_option maxRecDepth 20000 in
theorem ggX4_addCopy_X1_add : GoodIn wsX4_addCopy wsX1_add := goodIn_r _ [6, 7, 8, 9, 10, 11, 12, 13, 14, 15, 16, 17, 18, 19, 5, 20, 107, 108, 109, 110, 111] (by decide +kernel) (by decide +kernel)
set_option maxRecDepth 20000 in
theorem gX4_addCopy_X1_add : GoodIn wsX4_addCopy (wsV RX4 32 RX1 yX1_add wsX1_add) := goodIn_app (goodIn_of _ (by decide +kernel)) ggX4_addCopy_X1_add
set_option maxRecDepth 20000 in
theorem ggX4_addCopy_X4_serve : GoodIn wsX4_addCopy wsX4_serve := goodIn_r _ [25, 26, 1, 27, 28, 29, 30, 31, 32, 33, 34, 35, 36, 37, 38, 39, 40, 12, 41, 14, 15, 16, 42, 43, 44, 45, 46, 47, 48, 49, 50, 51, 52, 5, 53, 7, 54, 55, 56, 57, 8, 58, 59, 60, 61, 62, 63, 64, 65, 66, 67, 68, 69, 70, 71, 72, 73, 74, 75, 76, 77, 78, 79, 24, 80, 81, 82, 83, 84, 85, 86, 87, 88, 89, 90, 91, 92, 93, 94, 10, 11, 13, 95, 96, 97, 98, 99, 100, 101, 102, 18, 19, 20, 9, 103, 104, 105, 106, 112, 113, 114, 109, 110, 111, 107, 108, 115, 116, 117, 118] (by decide +kernel) (by decide +kernel)
set_option maxRecDepth 20000 in
theorem gX4_addCopy_X4_serve : GoodIn wsX4_addCopy (wsV RX4 36 RX4 yX4_serve wsX4_serve) := goodIn_app (goodIn_of _ (by decide +kernel)) ggX4_addCopy_X4_serve
theorem dX4_addCopy_0 : decode cX4_addCopy 0 = .ok (.aload_n 0, 1) := by decide +kernel
theorem dX4_addCopy_1 : decode cX4_addCopy 1 = .ok (.getfield 21, 3) := by decide +kernel
theorem dX4_addCopy_4 : decode cX4_addCopy 4 = .ok (.iload_n 1, 1) := by decide +kernel
theorem dX4_addCopy_5 : decode cX4_addCopy 5 = .ok (.iload_n 2, 1) := by decide +kernel
theorem dX4_addCopy_6 : decode cX4_addCopy 6 = .ok (.invokevirtual 32, 3) := by decide +kernel
theorem dX4_addCopy_9 : decode cX4_addCopy 9 = .ok (.istore_n 3, 1) := by decide +kernel
theorem dX4_addCopy_10 : decode cX4_addCopy 10 = .ok (.aload_n 0, 1) := by decide +kernel
theorem dX4_addCopy_11 : decode cX4_addCopy 11 = .ok (.invokevirtual 36, 3) := by decide +kernel
theorem dX4_addCopy_14 : decode cX4_addCopy 14 = .ok (.iload_n 3, 1) := by decide +kernel
theorem dX4_addCopy_15 : decode cX4_addCopy 15 = .ok (.ireturn, 1) := by decide +kernel
set_option maxRecDepth 20000 in
theorem ggX4_addHold_X3_add : GoodIn wsX4_addHold wsX3_add := goodIn_r _ [7, 8, 9, 10, 11, 12, 13, 14, 15, 16, 17, 18, 111, 112, 113, 114, 115, 116] (by decide +kernel) (by decide +kernel)
set_option maxRecDepth 20000 in
theorem gX4_addHold_X3_add : GoodIn wsX4_addHold (wsV RX4 86 RX3 yX3_add wsX3_add) := goodIn_app (goodIn_of _ (by decide +kernel)) ggX4_addHold_X3_add
set_option maxRecDepth 20000 in
theorem ggX4_addHold_X4_serve : GoodIn wsX4_addHold wsX4_serve := goodIn_r _ [23, 1, 24, 25, 26, 27, 6, 28, 10, 29, 30, 31, 32, 9, 33, 34, 35, 14, 36, 16, 17, 18, 37, 38, 39, 40, 41, 42, 43, 44, 45, 46, 47, 48, 49, 50, 51, 52, 53, 54, 55, 56, 57, 58, 59, 60, 61, 62, 63, 64, 65, 66, 67, 68, 69, 70, 71, 72, 73, 74, 75, 76, 77, 22, 78, 2, 79, 80, 81, 82, 83, 84, 85, 86, 87, 88, 89, 90, 11, 12, 13, 15, 91, 92, 93, 94, 95, 96, 97, 98, 99, 100, 101, 102, 103, 104, 105, 106, 111, 112, 113, 114, 115, 116, 117, 118, 107, 108, 109, 110] (by decide +kernel) (by decide +kernel)
set_option maxRecDepth 20000 in
theorem gX4_addHold_X4_serve : GoodIn wsX4_addHold (wsV RX4 36 RX4 yX4_serve wsX4_serve) := goodIn_app (goodIn_of _ (by decide +kernel)) ggX4_addHold_X4_serve
theorem dX4_addHold_0 : decode cX4_addHold 0 = .ok (.aload_n 0, 1) := by decide +kernel
theorem dX4_addHold_1 : decode cX4_addHold 1 = .ok (.getfield 28, 3) := by decide +kernel
theorem dX4_addHold_4 : decode cX4_addHold 4 = .ok (.iload_n 1, 1) := by decide +kernel
theorem dX4_addHold_5 : decode cX4_addHold 5 = .ok (.iload_n 2, 1) := by decide +kernel
theorem dX4_addHold_6 : decode cX4_addHold 6 = .ok (.iload_n 3, 1) := by decide +kernel
theorem dX4_addHold_7 : decode cX4_addHold 7 = .ok (.iload 4, 2) := by decide +kernel
theorem dX4_addHold_9 : decode cX4_addHold 9 = .ok (.aload_n 0, 1) := by decide +kernel
theorem dX4_addHold_10 : decode cX4_addHold 10 = .ok (.getfield 12, 3) := by decide +kernel
theorem dX4_addHold_13 : decode cX4_addHold 13 = .ok (.getfield 70, 3) := by decide +kernel
theorem dX4_addHold_16 : decode cX4_addHold 16 = .ok (.invokevirtual 86, 3) := by decide +kernel
theorem dX4_addHold_19 : decode cX4_addHold 19 = .ok (.istore 5, 2) := by decide +kernel
theorem dX4_addHold_21 : decode cX4_addHold 21 = .ok (.aload_n 0, 1) := by decide +kernel
theorem dX4_addHold_22 : decode cX4_addHold 22 = .ok (.invokevirtual 36, 3) := by decide +kernel
theorem dX4_addHold_25 : decode cX4_addHold 25 = .ok (.iload 5, 2) := by decide +kernel
theorem dX4_addHold_27 : decode cX4_addHold 27 = .ok (.ireturn, 1) := by decide +kernel
set_option maxRecDepth 20000 in
theorem ggX4_dayPasses_X4_serve : GoodIn wsX4_dayPasses wsX4_serve := goodIn_r _ [81, 9, 3, 82, 83, 84, 54, 85, 56, 86, 87, 88, 89, 61, 62, 17, 18, 19, 20, 21, 22, 23, 90, 91, 92, 93, 94, 95, 96, 97, 98, 99, 100, 13, 101, 102, 103, 104, 105, 106, 15, 16, 107, 11, 12, 14, 108, 29, 30, 31, 109, 68, 110, 111, 112, 113, 114, 115, 116, 117, 118, 119, 120, 7, 121, 1, 2, 28, 122, 58, 59, 60, 123, 124, 125, 126, 67, 69, 127, 48, 49, 50, 36, 37, 38, 39, 40, 41, 42, 43, 44, 45, 46, 47, 128, 129, 130, 131, 141, 142, 143, 138, 139, 140, 136, 137, 132, 133, 134, 135] (by decide +kernel) (by decide +kernel)
set_option maxRecDepth 20000 in
theorem gX4_dayPasses_X4_serve : GoodIn wsX4_dayPasses (wsV RX4 36 RX4 yX4_serve wsX4_serve) := goodIn_app (goodIn_of _ (by decide +kernel)) ggX4_dayPasses_X4_serve
theorem dX4_dayPasses_0 : decode cX4_dayPasses 0 = .ok (.aload_n 0, 1) := by decide +kernel
theorem dX4_dayPasses_1 : decode cX4_dayPasses 1 = .ok (.getfield 12, 3) := by decide +kernel
theorem dX4_dayPasses_4 : decode cX4_dayPasses 4 = .ok (.dup, 1) := by decide +kernel
theorem dX4_dayPasses_5 : decode cX4_dayPasses 5 = .ok (.getfield 70, 3) := by decide +kernel
theorem dX4_dayPasses_8 : decode cX4_dayPasses 8 = .ok (.iconst 1, 1) := by decide +kernel
theorem dX4_dayPasses_9 : decode cX4_dayPasses 9 = .ok (.iadd, 1) := by decide +kernel
theorem dX4_dayPasses_10 : decode cX4_dayPasses 10 = .ok (.putfield 70, 3) := by decide +kernel
theorem dX4_dayPasses_13 : decode cX4_dayPasses 13 = .ok (.aload_n 0, 1) := by decide +kernel
theorem dX4_dayPasses_14 : decode cX4_dayPasses 14 = .ok (.iconst 0, 1) := by decide +kernel
theorem dX4_dayPasses_15 : decode cX4_dayPasses 15 = .ok (.putfield 95, 3) := by decide +kernel
theorem dX4_dayPasses_18 : decode cX4_dayPasses 18 = .ok (.iconst 0, 1) := by decide +kernel
theorem dX4_dayPasses_19 : decode cX4_dayPasses 19 = .ok (.istore_n 1, 1) := by decide +kernel
theorem dX4_dayPasses_20 : decode cX4_dayPasses 20 = .ok (.iload_n 1, 1) := by decide +kernel
theorem dX4_dayPasses_21 : decode cX4_dayPasses 21 = .ok (.aload_n 0, 1) := by decide +kernel
theorem dX4_dayPasses_22 : decode cX4_dayPasses 22 = .ok (.getfield 21, 3) := by decide +kernel
theorem dX4_dayPasses_25 : decode cX4_dayPasses 25 = .ok (.getfield 98, 3) := by decide +kernel
theorem dX4_dayPasses_28 : decode cX4_dayPasses 28 = .ok (.if_icmp .ge 14, 3) := by decide +kernel
theorem dX4_dayPasses_31 : decode cX4_dayPasses 31 = .ok (.aload_n 0, 1) := by decide +kernel
theorem dX4_dayPasses_32 : decode cX4_dayPasses 32 = .ok (.iload_n 1, 1) := by decide +kernel
theorem dX4_dayPasses_33 : decode cX4_dayPasses 33 = .ok (.invokevirtual 99, 3) := by decide +kernel
theorem dX4_dayPasses_36 : decode cX4_dayPasses 36 = .ok (.iinc 1 1, 3) := by decide +kernel
theorem dX4_dayPasses_39 : decode cX4_dayPasses 39 = .ok (.goto (-19), 3) := by decide +kernel
theorem dX4_dayPasses_42 : decode cX4_dayPasses 42 = .ok (.aload_n 0, 1) := by decide +kernel
theorem dX4_dayPasses_43 : decode cX4_dayPasses 43 = .ok (.invokevirtual 36, 3) := by decide +kernel
theorem dX4_dayPasses_46 : decode cX4_dayPasses 46 = .ok (.return_, 1) := by decide +kernel
set_option maxRecDepth 20000 in
theorem ggX4_serve_X3_firstOfRow : GoodIn wsX4_serve wsX3_firstOfRow := goodIn_r _ [7, 8, 9, 10, 11, 6, 12, 13, 14, 15, 16, 17, 18, 19, 20, 21, 22, 23, 24, 25, 98, 99, 100, 101, 102, 103] (by decide +kernel) (by decide +kernel)
set_option maxRecDepth 20000 in
theorem gX4_serve_X3_firstOfRow : GoodIn wsX4_serve (wsV RX4 108 RX3 yX3_firstOfRow wsX3_firstOfRow) := goodIn_app (goodIn_of _ (by decide +kernel)) ggX4_serve_X3_firstOfRow
set_option maxRecDepth 20000 in
theorem ggX4_serve_X3_branch : GoodIn wsX4_serve wsX3_branch := goodIn_r _ [29, 13, 14, 15, 16, 17, 18, 19, 20, 21, 98, 99, 100, 101, 102, 103] (by decide +kernel) (by decide +kernel)
set_option maxRecDepth 20000 in
theorem gX4_serve_X3_branch : GoodIn wsX4_serve (wsV RX4 111 RX3 yX3_branch wsX3_branch) := goodIn_app (goodIn_of _ (by decide +kernel)) ggX4_serve_X3_branch
set_option maxRecDepth 20000 in
theorem ggX4_serve_X1_nearestIn : GoodIn wsX4_serve wsX1_nearestIn := goodIn_r _ [34, 35, 36, 37, 38, 33, 39, 40, 41, 15, 16, 17, 18, 19, 20, 21, 42, 43, 44, 45, 46, 47, 48, 49, 50, 51, 52, 53, 54, 55, 56, 57, 58, 59, 104, 105, 101, 102, 103] (by decide +kernel) (by decide +kernel)
set_option maxRecDepth 20000 in
theorem gX4_serve_X1_nearestIn : GoodIn wsX4_serve (wsV RX4 112 RX1 yX1_nearestIn wsX1_nearestIn) := goodIn_app (goodIn_of _ (by decide +kernel)) ggX4_serve_X1_nearestIn
theorem dX4_serve_0 : decode cX4_serve 0 = .ok (.iconst 0, 1) := by decide +kernel
theorem dX4_serve_1 : decode cX4_serve 1 = .ok (.istore_n 1, 1) := by decide +kernel
theorem dX4_serve_2 : decode cX4_serve 2 = .ok (.iconst 0, 1) := by decide +kernel
theorem dX4_serve_3 : decode cX4_serve 3 = .ok (.istore_n 2, 1) := by decide +kernel
theorem dX4_serve_4 : decode cX4_serve 4 = .ok (.iload_n 2, 1) := by decide +kernel
theorem dX4_serve_5 : decode cX4_serve 5 = .ok (.bipush 22, 2) := by decide +kernel
theorem dX4_serve_7 : decode cX4_serve 7 = .ok (.if_icmp .ge 70, 3) := by decide +kernel
theorem dX4_serve_10 : decode cX4_serve 10 = .ok (.iload_n 1, 1) := by decide +kernel
theorem dX4_serve_11 : decode cX4_serve 11 = .ok (.bipush 6, 2) := by decide +kernel
theorem dX4_serve_13 : decode cX4_serve 13 = .ok (.if_icmp .ge 64, 3) := by decide +kernel
theorem dX4_serve_16 : decode cX4_serve 16 = .ok (.aload_n 0, 1) := by decide +kernel
theorem dX4_serve_17 : decode cX4_serve 17 = .ok (.getfield 28, 3) := by decide +kernel
theorem dX4_serve_20 : decode cX4_serve 20 = .ok (.iload_n 1, 1) := by decide +kernel
theorem dX4_serve_21 : decode cX4_serve 21 = .ok (.invokevirtual 108, 3) := by decide +kernel
theorem dX4_serve_24 : decode cX4_serve 24 = .ok (.istore_n 3, 1) := by decide +kernel
theorem dX4_serve_25 : decode cX4_serve 25 = .ok (.iload_n 3, 1) := by decide +kernel
theorem dX4_serve_26 : decode cX4_serve 26 = .ok (.iconst (-1), 1) := by decide +kernel
theorem dX4_serve_27 : decode cX4_serve 27 = .ok (.if_icmp .ne 7, 3) := by decide +kernel
theorem dX4_serve_30 : decode cX4_serve 30 = .ok (.iconst (-1), 1) := by decide +kernel
theorem dX4_serve_31 : decode cX4_serve 31 = .ok (.goto 19, 3) := by decide +kernel
theorem dX4_serve_34 : decode cX4_serve 34 = .ok (.aload_n 0, 1) := by decide +kernel
theorem dX4_serve_35 : decode cX4_serve 35 = .ok (.getfield 21, 3) := by decide +kernel
theorem dX4_serve_38 : decode cX4_serve 38 = .ok (.iload_n 1, 1) := by decide +kernel
theorem dX4_serve_39 : decode cX4_serve 39 = .ok (.aload_n 0, 1) := by decide +kernel
theorem dX4_serve_40 : decode cX4_serve 40 = .ok (.getfield 28, 3) := by decide +kernel
theorem dX4_serve_43 : decode cX4_serve 43 = .ok (.iload_n 3, 1) := by decide +kernel
theorem dX4_serve_44 : decode cX4_serve 44 = .ok (.invokevirtual 111, 3) := by decide +kernel
theorem dX4_serve_47 : decode cX4_serve 47 = .ok (.invokevirtual 112, 3) := by decide +kernel
theorem dX4_serve_50 : decode cX4_serve 50 = .ok (.istore 4, 2) := by decide +kernel
theorem dX4_serve_52 : decode cX4_serve 52 = .ok (.iload 4, 2) := by decide +kernel
theorem dX4_serve_54 : decode cX4_serve 54 = .ok (.iconst (-1), 1) := by decide +kernel
theorem dX4_serve_55 : decode cX4_serve 55 = .ok (.if_icmp .ne 9, 3) := by decide +kernel
theorem dX4_serve_58 : decode cX4_serve 58 = .ok (.iinc 1 1, 3) := by decide +kernel
theorem dX4_serve_61 : decode cX4_serve 61 = .ok (.goto 10, 3) := by decide +kernel
theorem dX4_serve_64 : decode cX4_serve 64 = .ok (.aload_n 0, 1) := by decide +kernel
theorem dX4_serve_65 : decode cX4_serve 65 = .ok (.iload_n 3, 1) := by decide +kernel
theorem dX4_serve_66 : decode cX4_serve 66 = .ok (.iload 4, 2) := by decide +kernel
theorem dX4_serve_68 : decode cX4_serve 68 = .ok (.invokevirtual 115, 3) := by decide +kernel
theorem dX4_serve_71 : decode cX4_serve 71 = .ok (.iinc 2 1, 3) := by decide +kernel
theorem dX4_serve_74 : decode cX4_serve 74 = .ok (.goto (-70), 3) := by decide +kernel
theorem dX4_serve_77 : decode cX4_serve 77 = .ok (.return_, 1) := by decide +kernel
set_option maxRecDepth 20000 in
theorem ggX4_become_X0_become : GoodIn wsX4_become wsX0_become := goodIn_r _ [9, 10, 11, 12, 13, 48, 49, 50, 51] (by decide +kernel) (by decide +kernel)
set_option maxRecDepth 20000 in
theorem gX4_become_X0_become : GoodIn wsX4_become (wsV RX4 137 RX0 yX0_become wsX0_become) := goodIn_app (goodIn_of _ (by decide +kernel)) ggX4_become_X0_become
set_option maxRecDepth 20000 in
theorem ggX4_become_X1_become : GoodIn wsX4_become wsX1_become := goodIn_r _ [18, 19, 20, 21, 22, 23, 24, 25, 26, 27, 28, 29, 30, 31, 32, 33, 34, 52, 53, 54, 55, 56] (by decide +kernel) (by decide +kernel)
set_option maxRecDepth 20000 in
theorem gX4_become_X1_become : GoodIn wsX4_become (wsV RX4 141 RX1 yX1_become wsX1_become) := goodIn_app (goodIn_of _ (by decide +kernel)) ggX4_become_X1_become
set_option maxRecDepth 20000 in
theorem ggX4_become_X3_become : GoodIn wsX4_become wsX3_become := goodIn_r _ [39, 40, 41, 42, 43, 22, 23, 24, 25, 26, 27, 28, 29, 30, 31, 32, 33, 34, 57, 58, 59, 54, 55, 56] (by decide +kernel) (by decide +kernel)
set_option maxRecDepth 20000 in
theorem gX4_become_X3_become : GoodIn wsX4_become (wsV RX4 144 RX3 yX3_become wsX3_become) := goodIn_app (goodIn_of _ (by decide +kernel)) ggX4_become_X3_become
theorem dX4_become_0 : decode cX4_become 0 = .ok (.aload_n 0, 1) := by decide +kernel
theorem dX4_become_1 : decode cX4_become 1 = .ok (.getfield 12, 3) := by decide +kernel
theorem dX4_become_4 : decode cX4_become 4 = .ok (.aload_n 1, 1) := by decide +kernel
theorem dX4_become_5 : decode cX4_become 5 = .ok (.getfield 12, 3) := by decide +kernel
theorem dX4_become_8 : decode cX4_become 8 = .ok (.invokevirtual 137, 3) := by decide +kernel
theorem dX4_become_11 : decode cX4_become 11 = .ok (.aload_n 0, 1) := by decide +kernel
theorem dX4_become_12 : decode cX4_become 12 = .ok (.getfield 21, 3) := by decide +kernel
theorem dX4_become_15 : decode cX4_become 15 = .ok (.aload_n 1, 1) := by decide +kernel
theorem dX4_become_16 : decode cX4_become 16 = .ok (.getfield 21, 3) := by decide +kernel
theorem dX4_become_19 : decode cX4_become 19 = .ok (.invokevirtual 141, 3) := by decide +kernel
theorem dX4_become_22 : decode cX4_become 22 = .ok (.aload_n 0, 1) := by decide +kernel
theorem dX4_become_23 : decode cX4_become 23 = .ok (.getfield 28, 3) := by decide +kernel
theorem dX4_become_26 : decode cX4_become 26 = .ok (.aload_n 1, 1) := by decide +kernel
theorem dX4_become_27 : decode cX4_become 27 = .ok (.getfield 28, 3) := by decide +kernel
theorem dX4_become_30 : decode cX4_become 30 = .ok (.invokevirtual 144, 3) := by decide +kernel
theorem dX4_become_33 : decode cX4_become 33 = .ok (.aload_n 0, 1) := by decide +kernel
theorem dX4_become_34 : decode cX4_become 34 = .ok (.aload_n 1, 1) := by decide +kernel
theorem dX4_become_35 : decode cX4_become 35 = .ok (.getfield 95, 3) := by decide +kernel
theorem dX4_become_38 : decode cX4_become 38 = .ok (.putfield 95, 3) := by decide +kernel
theorem dX4_become_41 : decode cX4_become 41 = .ok (.return_, 1) := by decide +kernel
end
section
theorem dX5_init_0 : decode cX5_init 0 = .ok (.aload_n 0, 1) := by decide +kernel
theorem dX5_init_1 : decode cX5_init 1 = .ok (.invokespecial 1, 3) := by decide +kernel
theorem dX5_init_4 : decode cX5_init 4 = .ok (.return_, 1) := by decide +kernel
theorem dX5_begin_0 : decode cX5_begin 0 = .ok (.aload_n 0, 1) := by decide +kernel
theorem dX5_begin_1 : decode cX5_begin 1 = .ok (.iload_n 1, 1) := by decide +kernel
theorem dX5_begin_2 : decode cX5_begin 2 = .ok (.i2l, 1) := by decide +kernel
theorem dX5_begin_3 : decode cX5_begin 3 = .ok (.putfield 7, 3) := by decide +kernel
theorem dX5_begin_6 : decode cX5_begin 6 = .ok (.return_, 1) := by decide +kernel
theorem dX5_below_0 : decode cX5_below 0 = .ok (.aload_n 0, 1) := by decide +kernel
theorem dX5_below_1 : decode cX5_below 1 = .ok (.aload_n 0, 1) := by decide +kernel
theorem dX5_below_2 : decode cX5_below 2 = .ok (.getfield 7, 3) := by decide +kernel
theorem dX5_below_5 : decode cX5_below 5 = .ok (.ldc2_w 13, 3) := by decide +kernel
theorem dX5_below_8 : decode cX5_below 8 = .ok (.lmul, 1) := by decide +kernel
theorem dX5_below_9 : decode cX5_below 9 = .ok (.ldc2_w 15, 3) := by decide +kernel
theorem dX5_below_12 : decode cX5_below 12 = .ok (.lrem, 1) := by decide +kernel
theorem dX5_below_13 : decode cX5_below 13 = .ok (.putfield 7, 3) := by decide +kernel
theorem dX5_below_16 : decode cX5_below 16 = .ok (.iload_n 1, 1) := by decide +kernel
theorem dX5_below_17 : decode cX5_below 17 = .ok (.ifCond .le 14, 3) := by decide +kernel
theorem dX5_below_20 : decode cX5_below 20 = .ok (.aload_n 0, 1) := by decide +kernel
theorem dX5_below_21 : decode cX5_below 21 = .ok (.getfield 7, 3) := by decide +kernel
theorem dX5_below_24 : decode cX5_below 24 = .ok (.iload_n 1, 1) := by decide +kernel
theorem dX5_below_25 : decode cX5_below 25 = .ok (.i2l, 1) := by decide +kernel
theorem dX5_below_26 : decode cX5_below 26 = .ok (.lrem, 1) := by decide +kernel
theorem dX5_below_27 : decode cX5_below 27 = .ok (.l2i, 1) := by decide +kernel
theorem dX5_below_28 : decode cX5_below 28 = .ok (.goto 4, 3) := by decide +kernel
theorem dX5_below_31 : decode cX5_below 31 = .ok (.iconst 0, 1) := by decide +kernel
theorem dX5_below_32 : decode cX5_below 32 = .ok (.ireturn, 1) := by decide +kernel
end
section
theorem dX6_init_0 : decode cX6_init 0 = .ok (.aload_n 0, 1) := by decide +kernel
theorem dX6_init_1 : decode cX6_init 1 = .ok (.invokespecial 1, 3) := by decide +kernel
theorem dX6_init_4 : decode cX6_init 4 = .ok (.aload_n 0, 1) := by decide +kernel
theorem dX6_init_5 : decode cX6_init 5 = .ok (.iload_n 1, 1) := by decide +kernel
theorem dX6_init_6 : decode cX6_init 6 = .ok (.iconst 0, 1) := by decide +kernel
theorem dX6_init_7 : decode cX6_init 7 = .ok (.invokestatic 7, 3) := by decide +kernel
theorem dX6_init_10 : decode cX6_init 10 = .ok (.anewarray 13, 3) := by decide +kernel
theorem dX6_init_13 : decode cX6_init 13 = .ok (.putfield 15, 3) := by decide +kernel
theorem dX6_init_16 : decode cX6_init 16 = .ok (.return_, 1) := by decide +kernel
set_option maxRecDepth 20000 in
theorem ggX6_has_X7_isBelow : GoodIn wsX6_has wsX7_isBelow := goodIn_r _ [4] (by decide +kernel) (by decide +kernel)
set_option maxRecDepth 20000 in
theorem gX6_has_X7_isBelow_n21 : GoodIn wsX6_has (wsX7_isBelow) := ggX6_has_X7_isBelow
theorem dX6_has_0 : decode cX6_has 0 = .ok (.iload_n 1, 1) := by decide +kernel
theorem dX6_has_1 : decode cX6_has 1 = .ok (.aload_n 0, 1) := by decide +kernel
theorem dX6_has_2 : decode cX6_has 2 = .ok (.getfield 15, 3) := by decide +kernel
theorem dX6_has_5 : decode cX6_has 5 = .ok (.arraylength, 1) := by decide +kernel
theorem dX6_has_6 : decode cX6_has 6 = .ok (.invokestatic 21, 3) := by decide +kernel
theorem dX6_has_9 : decode cX6_has 9 = .ok (.ifCond .eq 16, 3) := by decide +kernel
theorem dX6_has_12 : decode cX6_has 12 = .ok (.aload_n 0, 1) := by decide +kernel
theorem dX6_has_13 : decode cX6_has 13 = .ok (.getfield 15, 3) := by decide +kernel
theorem dX6_has_16 : decode cX6_has 16 = .ok (.iload_n 1, 1) := by decide +kernel
theorem dX6_has_17 : decode cX6_has 17 = .ok (.aaload, 1) := by decide +kernel
theorem dX6_has_18 : decode cX6_has 18 = .ok (.ifnull 7, 3) := by decide +kernel
theorem dX6_has_21 : decode cX6_has 21 = .ok (.iconst 1, 1) := by decide +kernel
theorem dX6_has_22 : decode cX6_has 22 = .ok (.goto 4, 3) := by decide +kernel
theorem dX6_has_25 : decode cX6_has 25 = .ok (.iconst 0, 1) := by decide +kernel
theorem dX6_has_26 : decode cX6_has 26 = .ok (.ireturn, 1) := by decide +kernel
set_option maxRecDepth 20000 in
theorem ggX6_take_X7_isBelow : GoodIn wsX6_take wsX7_isBelow := goodIn_r _ [7] (by decide +kernel) (by decide +kernel)
set_option maxRecDepth 20000 in
theorem gX6_take_X7_isBelow_n21 : GoodIn wsX6_take (wsX7_isBelow) := ggX6_take_X7_isBelow
set_option maxRecDepth 20000 in
theorem ggX6_take_X4_init : GoodIn wsX6_take wsX4_init := goodIn_r _ [9, 10, 11, 12, 13, 14, 15, 16, 17, 18, 19, 20, 21, 22, 23, 24, 25, 26, 27, 28, 29, 30, 31, 32, 33, 34, 35, 36, 37, 38, 39, 40, 41, 42, 43, 44, 45, 46, 47, 48, 49, 50, 51, 52, 53, 54, 55, 94, 95, 96, 97, 90, 91, 92, 93, 98, 99, 100, 101, 102, 103, 104, 105] (by decide +kernel) (by decide +kernel)
set_option maxRecDepth 20000 in
theorem gX6_take_X4_init_n27 : GoodIn wsX6_take (wsX4_init) := ggX6_take_X4_init
set_option maxRecDepth 20000 in
theorem ggX6_take_X4_become : GoodIn wsX6_take wsX4_become := goodIn_r _ [59, 16, 20, 24, 60, 61, 62, 63, 15, 64, 65, 28, 29, 30, 66, 67, 68, 19, 69, 70, 37, 71, 72, 73, 36, 74, 49, 75, 76, 44, 77, 78, 79, 80, 81, 82, 83, 84, 23, 85, 86, 87, 54, 88, 90, 91, 92, 93, 94, 95, 96, 97, 98, 99, 103, 104, 105, 100, 101, 102] (by decide +kernel) (by decide +kernel)
set_option maxRecDepth 20000 in
theorem gX6_take_X4_become : GoodIn wsX6_take (wsV RX6 28 RX4 yX4_become wsX4_become) := goodIn_app (goodIn_of _ (by decide +kernel)) ggX6_take_X4_become
theorem dX6_take_0 : decode cX6_take 0 = .ok (.iload_n 1, 1) := by decide +kernel
theorem dX6_take_1 : decode cX6_take 1 = .ok (.aload_n 0, 1) := by decide +kernel
theorem dX6_take_2 : decode cX6_take 2 = .ok (.getfield 15, 3) := by decide +kernel
theorem dX6_take_5 : decode cX6_take 5 = .ok (.arraylength, 1) := by decide +kernel
theorem dX6_take_6 : decode cX6_take 6 = .ok (.invokestatic 21, 3) := by decide +kernel
theorem dX6_take_9 : decode cX6_take 9 = .ok (.ifCond .ne 4, 3) := by decide +kernel
theorem dX6_take_12 : decode cX6_take 12 = .ok (.return_, 1) := by decide +kernel
theorem dX6_take_13 : decode cX6_take 13 = .ok (.aload_n 0, 1) := by decide +kernel
theorem dX6_take_14 : decode cX6_take 14 = .ok (.getfield 15, 3) := by decide +kernel
theorem dX6_take_17 : decode cX6_take 17 = .ok (.iload_n 1, 1) := by decide +kernel
theorem dX6_take_18 : decode cX6_take 18 = .ok (.aaload, 1) := by decide +kernel
theorem dX6_take_19 : decode cX6_take 19 = .ok (.astore_n 3, 1) := by decide +kernel
theorem dX6_take_20 : decode cX6_take 20 = .ok (.aload_n 3, 1) := by decide +kernel
theorem dX6_take_21 : decode cX6_take 21 = .ok (.ifnonnull 18, 3) := by decide +kernel
theorem dX6_take_24 : decode cX6_take 24 = .ok (.new 13, 3) := by decide +kernel
theorem dX6_take_27 : decode cX6_take 27 = .ok (.dup, 1) := by decide +kernel
theorem dX6_take_28 : decode cX6_take 28 = .ok (.invokespecial 27, 3) := by decide +kernel
theorem dX6_take_31 : decode cX6_take 31 = .ok (.astore_n 3, 1) := by decide +kernel
theorem dX6_take_32 : decode cX6_take 32 = .ok (.aload_n 0, 1) := by decide +kernel
theorem dX6_take_33 : decode cX6_take 33 = .ok (.getfield 15, 3) := by decide +kernel
theorem dX6_take_36 : decode cX6_take 36 = .ok (.iload_n 1, 1) := by decide +kernel
theorem dX6_take_37 : decode cX6_take 37 = .ok (.aload_n 3, 1) := by decide +kernel
theorem dX6_take_38 : decode cX6_take 38 = .ok (.aastore, 1) := by decide +kernel
theorem dX6_take_39 : decode cX6_take 39 = .ok (.aload_n 3, 1) := by decide +kernel
theorem dX6_take_40 : decode cX6_take 40 = .ok (.aload_n 2, 1) := by decide +kernel
theorem dX6_take_41 : decode cX6_take 41 = .ok (.invokevirtual 28, 3) := by decide +kernel
theorem dX6_take_44 : decode cX6_take 44 = .ok (.return_, 1) := by decide +kernel
end
section
theorem dJ6_bitCount_0f7a4_0 : decode cJ6_bitCount_0f7a4 0 = .ok (.iload_n 0, 1) := by decide +kernel
theorem dJ6_bitCount_0f7a4_1 : decode cJ6_bitCount_0f7a4 1 = .ok (.iload_n 0, 1) := by decide +kernel
theorem dJ6_bitCount_0f7a4_2 : decode cJ6_bitCount_0f7a4 2 = .ok (.iconst 1, 1) := by decide +kernel
theorem dJ6_bitCount_0f7a4_3 : decode cJ6_bitCount_0f7a4 3 = .ok (.iushr, 1) := by decide +kernel
theorem dJ6_bitCount_0f7a4_4 : decode cJ6_bitCount_0f7a4 4 = .ok (.ldc_w 265, 3) := by decide +kernel
theorem dJ6_bitCount_0f7a4_7 : decode cJ6_bitCount_0f7a4 7 = .ok (.iand, 1) := by decide +kernel
theorem dJ6_bitCount_0f7a4_8 : decode cJ6_bitCount_0f7a4 8 = .ok (.isub, 1) := by decide +kernel
theorem dJ6_bitCount_0f7a4_9 : decode cJ6_bitCount_0f7a4 9 = .ok (.istore_n 0, 1) := by decide +kernel
theorem dJ6_bitCount_0f7a4_10 : decode cJ6_bitCount_0f7a4 10 = .ok (.iload_n 0, 1) := by decide +kernel
theorem dJ6_bitCount_0f7a4_11 : decode cJ6_bitCount_0f7a4 11 = .ok (.ldc_w 266, 3) := by decide +kernel
theorem dJ6_bitCount_0f7a4_14 : decode cJ6_bitCount_0f7a4 14 = .ok (.iand, 1) := by decide +kernel
theorem dJ6_bitCount_0f7a4_15 : decode cJ6_bitCount_0f7a4 15 = .ok (.iload_n 0, 1) := by decide +kernel
theorem dJ6_bitCount_0f7a4_16 : decode cJ6_bitCount_0f7a4 16 = .ok (.iconst 2, 1) := by decide +kernel
theorem dJ6_bitCount_0f7a4_17 : decode cJ6_bitCount_0f7a4 17 = .ok (.iushr, 1) := by decide +kernel
theorem dJ6_bitCount_0f7a4_18 : decode cJ6_bitCount_0f7a4 18 = .ok (.ldc_w 266, 3) := by decide +kernel
theorem dJ6_bitCount_0f7a4_21 : decode cJ6_bitCount_0f7a4 21 = .ok (.iand, 1) := by decide +kernel
theorem dJ6_bitCount_0f7a4_22 : decode cJ6_bitCount_0f7a4 22 = .ok (.iadd, 1) := by decide +kernel
theorem dJ6_bitCount_0f7a4_23 : decode cJ6_bitCount_0f7a4 23 = .ok (.istore_n 0, 1) := by decide +kernel
theorem dJ6_bitCount_0f7a4_24 : decode cJ6_bitCount_0f7a4 24 = .ok (.iload_n 0, 1) := by decide +kernel
theorem dJ6_bitCount_0f7a4_25 : decode cJ6_bitCount_0f7a4 25 = .ok (.iload_n 0, 1) := by decide +kernel
theorem dJ6_bitCount_0f7a4_26 : decode cJ6_bitCount_0f7a4 26 = .ok (.iconst 4, 1) := by decide +kernel
theorem dJ6_bitCount_0f7a4_27 : decode cJ6_bitCount_0f7a4 27 = .ok (.iushr, 1) := by decide +kernel
theorem dJ6_bitCount_0f7a4_28 : decode cJ6_bitCount_0f7a4 28 = .ok (.iadd, 1) := by decide +kernel
theorem dJ6_bitCount_0f7a4_29 : decode cJ6_bitCount_0f7a4 29 = .ok (.ldc_w 267, 3) := by decide +kernel
theorem dJ6_bitCount_0f7a4_32 : decode cJ6_bitCount_0f7a4 32 = .ok (.iand, 1) := by decide +kernel
theorem dJ6_bitCount_0f7a4_33 : decode cJ6_bitCount_0f7a4 33 = .ok (.istore_n 0, 1) := by decide +kernel
theorem dJ6_bitCount_0f7a4_34 : decode cJ6_bitCount_0f7a4 34 = .ok (.iload_n 0, 1) := by decide +kernel
theorem dJ6_bitCount_0f7a4_35 : decode cJ6_bitCount_0f7a4 35 = .ok (.iload_n 0, 1) := by decide +kernel
theorem dJ6_bitCount_0f7a4_36 : decode cJ6_bitCount_0f7a4 36 = .ok (.bipush 8, 2) := by decide +kernel
theorem dJ6_bitCount_0f7a4_38 : decode cJ6_bitCount_0f7a4 38 = .ok (.iushr, 1) := by decide +kernel
theorem dJ6_bitCount_0f7a4_39 : decode cJ6_bitCount_0f7a4 39 = .ok (.iadd, 1) := by decide +kernel
theorem dJ6_bitCount_0f7a4_40 : decode cJ6_bitCount_0f7a4 40 = .ok (.istore_n 0, 1) := by decide +kernel
theorem dJ6_bitCount_0f7a4_41 : decode cJ6_bitCount_0f7a4 41 = .ok (.iload_n 0, 1) := by decide +kernel
theorem dJ6_bitCount_0f7a4_42 : decode cJ6_bitCount_0f7a4 42 = .ok (.iload_n 0, 1) := by decide +kernel
theorem dJ6_bitCount_0f7a4_43 : decode cJ6_bitCount_0f7a4 43 = .ok (.bipush 16, 2) := by decide +kernel
theorem dJ6_bitCount_0f7a4_45 : decode cJ6_bitCount_0f7a4 45 = .ok (.iushr, 1) := by decide +kernel
theorem dJ6_bitCount_0f7a4_46 : decode cJ6_bitCount_0f7a4 46 = .ok (.iadd, 1) := by decide +kernel
theorem dJ6_bitCount_0f7a4_47 : decode cJ6_bitCount_0f7a4 47 = .ok (.istore_n 0, 1) := by decide +kernel
theorem dJ6_bitCount_0f7a4_48 : decode cJ6_bitCount_0f7a4 48 = .ok (.iload_n 0, 1) := by decide +kernel
theorem dJ6_bitCount_0f7a4_49 : decode cJ6_bitCount_0f7a4 49 = .ok (.bipush 63, 2) := by decide +kernel
theorem dJ6_bitCount_0f7a4_51 : decode cJ6_bitCount_0f7a4 51 = .ok (.iand, 1) := by decide +kernel
theorem dJ6_bitCount_0f7a4_52 : decode cJ6_bitCount_0f7a4 52 = .ok (.ireturn, 1) := by decide +kernel
theorem dJ9_floorMod_7cf53_0 : decode cJ9_floorMod_7cf53 0 = .ok (.iload_n 0, 1) := by decide +kernel
theorem dJ9_floorMod_7cf53_1 : decode cJ9_floorMod_7cf53 1 = .ok (.iload_n 1, 1) := by decide +kernel
theorem dJ9_floorMod_7cf53_2 : decode cJ9_floorMod_7cf53 2 = .ok (.irem, 1) := by decide +kernel
theorem dJ9_floorMod_7cf53_3 : decode cJ9_floorMod_7cf53 3 = .ok (.istore_n 2, 1) := by decide +kernel
theorem dJ9_floorMod_7cf53_4 : decode cJ9_floorMod_7cf53 4 = .ok (.iload_n 0, 1) := by decide +kernel
theorem dJ9_floorMod_7cf53_5 : decode cJ9_floorMod_7cf53 5 = .ok (.iload_n 1, 1) := by decide +kernel
theorem dJ9_floorMod_7cf53_6 : decode cJ9_floorMod_7cf53 6 = .ok (.ixor, 1) := by decide +kernel
theorem dJ9_floorMod_7cf53_7 : decode cJ9_floorMod_7cf53 7 = .ok (.ifCond .ge 11, 3) := by decide +kernel
theorem dJ9_floorMod_7cf53_10 : decode cJ9_floorMod_7cf53 10 = .ok (.iload_n 2, 1) := by decide +kernel
theorem dJ9_floorMod_7cf53_11 : decode cJ9_floorMod_7cf53 11 = .ok (.ifCond .eq 7, 3) := by decide +kernel
theorem dJ9_floorMod_7cf53_14 : decode cJ9_floorMod_7cf53 14 = .ok (.iload_n 2, 1) := by decide +kernel
theorem dJ9_floorMod_7cf53_15 : decode cJ9_floorMod_7cf53 15 = .ok (.iload_n 1, 1) := by decide +kernel
theorem dJ9_floorMod_7cf53_16 : decode cJ9_floorMod_7cf53 16 = .ok (.iadd, 1) := by decide +kernel
theorem dJ9_floorMod_7cf53_17 : decode cJ9_floorMod_7cf53 17 = .ok (.ireturn, 1) := by decide +kernel
theorem dJ9_floorMod_7cf53_18 : decode cJ9_floorMod_7cf53 18 = .ok (.iload_n 2, 1) := by decide +kernel
theorem dJ9_floorMod_7cf53_19 : decode cJ9_floorMod_7cf53 19 = .ok (.ireturn, 1) := by decide +kernel
end
section
set_option maxRecDepth 20000 in
theorem ggX7_init_X4_init : GoodIn wsX7_init wsX4_init := goodIn_r _ [18, 19, 2, 3, 20, 21, 22, 23, 24, 25, 26, 27, 28, 29, 30, 31, 32, 33, 34, 35, 36, 37, 38, 39, 40, 41, 42, 43, 44, 45, 46, 47, 48, 49, 50, 51, 52, 53, 54, 55, 56, 57, 58, 59, 60, 61, 62, 85, 86, 87, 88, 73, 74, 75, 76, 89, 90, 91, 92, 93, 94, 95, 96] (by decide +kernel) (by decide +kernel)
set_option maxRecDepth 20000 in
theorem gX7_init_X4_init_n9 : GoodIn wsX7_init (wsX4_init) := ggX7_init_X4_init
set_option maxRecDepth 20000 in
theorem ggX7_init_X6_init : GoodIn wsX7_init wsX6_init := goodIn_r _ [65, 66, 2, 3, 67, 50, 51, 52, 68, 69, 83] (by decide +kernel) (by decide +kernel)
set_option maxRecDepth 20000 in
theorem gX7_init_X6_init : GoodIn wsX7_init (wsX6_init) := ggX7_init_X6_init
set_option maxRecDepth 20000 in
theorem ggX7_init_X5_init : GoodIn wsX7_init wsX5_init := goodIn_r _ [71, 72, 2, 3] (by decide +kernel) (by decide +kernel)
set_option maxRecDepth 20000 in
theorem gX7_init_X5_init_n30 : GoodIn wsX7_init (wsX5_init) := ggX7_init_X5_init
theorem dX7_init_0 : decode cX7_init 0 = .ok (.aload_n 0, 1) := by decide +kernel
theorem dX7_init_1 : decode cX7_init 1 = .ok (.invokespecial 1, 3) := by decide +kernel
theorem dX7_init_4 : decode cX7_init 4 = .ok (.aload_n 0, 1) := by decide +kernel
theorem dX7_init_5 : decode cX7_init 5 = .ok (.new 7, 3) := by decide +kernel
theorem dX7_init_8 : decode cX7_init 8 = .ok (.dup, 1) := by decide +kernel
theorem dX7_init_9 : decode cX7_init 9 = .ok (.invokespecial 9, 3) := by decide +kernel
theorem dX7_init_12 : decode cX7_init 12 = .ok (.putfield 10, 3) := by decide +kernel
theorem dX7_init_15 : decode cX7_init 15 = .ok (.aload_n 0, 1) := by decide +kernel
theorem dX7_init_16 : decode cX7_init 16 = .ok (.new 16, 3) := by decide +kernel
theorem dX7_init_19 : decode cX7_init 19 = .ok (.dup, 1) := by decide +kernel
theorem dX7_init_20 : decode cX7_init 20 = .ok (.bipush 8, 2) := by decide +kernel
theorem dX7_init_22 : decode cX7_init 22 = .ok (.invokespecial 18, 3) := by decide +kernel
theorem dX7_init_25 : decode cX7_init 25 = .ok (.putfield 21, 3) := by decide +kernel
theorem dX7_init_28 : decode cX7_init 28 = .ok (.aload_n 0, 1) := by decide +kernel
theorem dX7_init_29 : decode cX7_init 29 = .ok (.new 16, 3) := by decide +kernel
theorem dX7_init_32 : decode cX7_init 32 = .ok (.dup, 1) := by decide +kernel
theorem dX7_init_33 : decode cX7_init 33 = .ok (.iconst 2, 1) := by decide +kernel
theorem dX7_init_34 : decode cX7_init 34 = .ok (.invokespecial 18, 3) := by decide +kernel
theorem dX7_init_37 : decode cX7_init 37 = .ok (.putfield 25, 3) := by decide +kernel
theorem dX7_init_40 : decode cX7_init 40 = .ok (.aload_n 0, 1) := by decide +kernel
theorem dX7_init_41 : decode cX7_init 41 = .ok (.new 28, 3) := by decide +kernel
theorem dX7_init_44 : decode cX7_init 44 = .ok (.dup, 1) := by decide +kernel
theorem dX7_init_45 : decode cX7_init 45 = .ok (.invokespecial 30, 3) := by decide +kernel
theorem dX7_init_48 : decode cX7_init 48 = .ok (.putfield 31, 3) := by decide +kernel
theorem dX7_init_51 : decode cX7_init 51 = .ok (.return_, 1) := by decide +kernel
set_option maxRecDepth 20000 in
theorem ggX7_copy_X7_isBelow : GoodIn wsX7_copy wsX7_isBelow := goodIn_r _ [7] (by decide +kernel) (by decide +kernel)
set_option maxRecDepth 20000 in
theorem gX7_copy_X7_isBelow : GoodIn wsX7_copy (va_wsS RX7 35 yX7_isBelow wsX7_isBelow) := goodIn_app (goodIn_of _ (by decide +kernel)) ggX7_copy_X7_isBelow
set_option maxRecDepth 20000 in
theorem ggX7_copy_X7_remember : GoodIn wsX7_copy wsX7_remember := goodIn_r _ [11, 12, 13, 2, 14, 15, 16, 17, 18, 19, 20, 21, 22, 23, 24, 25, 26, 27, 5, 6, 7, 28, 29, 30, 31, 32, 33, 34, 35, 36, 37, 38, 39, 40, 41, 42, 43, 44, 45, 46, 47, 48, 49, 50, 51, 52, 53, 54, 55, 56, 57, 58, 59, 60, 61, 62, 63, 64, 65, 66, 67, 68, 69, 70, 71, 72, 73, 74, 75, 76, 77, 78, 79, 80, 81, 82, 83, 84, 85, 86, 87, 88, 89, 90, 91, 92, 93, 94, 95, 96, 97, 98, 99, 100, 101, 102, 103, 104, 105, 106, 107, 108, 109, 191, 192, 193, 194, 195, 196, 203, 197, 198, 199, 200, 204, 205, 206, 207, 201, 202, 208, 209, 210, 211, 212, 213] (by decide +kernel) (by decide +kernel)
set_option maxRecDepth 20000 in
theorem gX7_copy_X7_remember : GoodIn wsX7_copy (wsV RX7 51 RX7 yX7_remember wsX7_remember) := goodIn_app (goodIn_of _ (by decide +kernel)) ggX7_copy_X7_remember
set_option maxRecDepth 20000 in
theorem ggX7_copy_X4_addCopy : GoodIn wsX7_copy wsX4_addCopy := goodIn_r _ [113, 40, 114, 115, 116, 39, 117, 89, 57, 118, 119, 120, 56, 121, 65, 66, 68, 122, 123, 124, 125, 126, 127, 128, 27, 129, 44, 130, 131, 132, 43, 133, 103, 134, 135, 136, 137, 73, 138, 139, 140, 141, 142, 143, 144, 145, 146, 147, 148, 149, 150, 151, 152, 153, 154, 155, 156, 157, 158, 159, 160, 161, 162, 163, 164, 165, 166, 167, 6, 168, 169, 170, 17, 171, 15, 16, 18, 172, 173, 174, 175, 36, 79, 176, 177, 178, 179, 180, 181, 182, 183, 184, 5, 7, 185, 186, 187, 188, 35, 189, 84, 49, 190, 197, 198, 199, 200, 201, 202, 211, 212, 213, 208, 209, 210, 204, 205, 206, 207] (by decide +kernel) (by decide +kernel)
set_option maxRecDepth 20000 in
theorem gX7_copy_X4_addCopy : GoodIn wsX7_copy (wsV RX7 54 RX4 yX4_addCopy wsX4_addCopy) := goodIn_app (goodIn_of _ (by decide +kernel)) ggX7_copy_X4_addCopy
theorem dX7_copy_0 : decode cX7_copy 0 = .ok (.iload_n 1, 1) := by decide +kernel
theorem dX7_copy_1 : decode cX7_copy 1 = .ok (.bipush 6, 2) := by decide +kernel
theorem dX7_copy_3 : decode cX7_copy 3 = .ok (.invokestatic 35, 3) := by decide +kernel
theorem dX7_copy_6 : decode cX7_copy 6 = .ok (.ifCond .eq 11, 3) := by decide +kernel
theorem dX7_copy_9 : decode cX7_copy 9 = .ok (.iload_n 2, 1) := by decide +kernel
theorem dX7_copy_10 : decode cX7_copy 10 = .ok (.iconst 4, 1) := by decide +kernel
theorem dX7_copy_11 : decode cX7_copy 11 = .ok (.invokestatic 35, 3) := by decide +kernel
theorem dX7_copy_14 : decode cX7_copy 14 = .ok (.ifCond .ne 6, 3) := by decide +kernel
theorem dX7_copy_17 : decode cX7_copy 17 = .ok (.ldc 39, 2) := by decide +kernel
theorem dX7_copy_19 : decode cX7_copy 19 = .ok (.ireturn, 1) := by decide +kernel
theorem dX7_copy_20 : decode cX7_copy 20 = .ok (.aload_n 0, 1) := by decide +kernel
theorem dX7_copy_21 : decode cX7_copy 21 = .ok (.getfield 10, 3) := by decide +kernel
theorem dX7_copy_24 : decode cX7_copy 24 = .ok (.getfield 40, 3) := by decide +kernel
theorem dX7_copy_27 : decode cX7_copy 27 = .ok (.getfield 44, 3) := by decide +kernel
theorem dX7_copy_30 : decode cX7_copy 30 = .ok (.bipush 16, 2) := by decide +kernel
theorem dX7_copy_32 : decode cX7_copy 32 = .ok (.if_icmp .lt 6, 3) := by decide +kernel
theorem dX7_copy_35 : decode cX7_copy 35 = .ok (.ldc 50, 2) := by decide +kernel
theorem dX7_copy_37 : decode cX7_copy 37 = .ok (.ireturn, 1) := by decide +kernel
theorem dX7_copy_38 : decode cX7_copy 38 = .ok (.aload_n 0, 1) := by decide +kernel
theorem dX7_copy_39 : decode cX7_copy 39 = .ok (.invokevirtual 51, 3) := by decide +kernel
theorem dX7_copy_42 : decode cX7_copy 42 = .ok (.aload_n 0, 1) := by decide +kernel
theorem dX7_copy_43 : decode cX7_copy 43 = .ok (.getfield 10, 3) := by decide +kernel
theorem dX7_copy_46 : decode cX7_copy 46 = .ok (.iload_n 1, 1) := by decide +kernel
theorem dX7_copy_47 : decode cX7_copy 47 = .ok (.iload_n 2, 1) := by decide +kernel
theorem dX7_copy_48 : decode cX7_copy 48 = .ok (.invokevirtual 54, 3) := by decide +kernel
theorem dX7_copy_51 : decode cX7_copy 51 = .ok (.ireturn, 1) := by decide +kernel
set_option maxRecDepth 20000 in
theorem ggX7_lend_X7_refusalToLend : GoodIn wsX7_lend wsX7_refusalToLend := goodIn_r _ [6, 7, 1, 8, 9, 10, 11, 5, 12, 13, 14, 15, 16, 17, 18, 19, 20, 21, 22, 23, 24, 25, 26, 27, 28, 29, 30, 31, 32, 33, 34, 35, 36, 37, 38, 39, 40, 41, 42, 43, 44, 45, 46, 47, 48, 49, 50, 51, 52, 53, 54, 55, 56, 57, 58, 59, 60, 61, 62, 63, 64, 65, 66, 67, 68, 69, 70, 71, 72, 73, 74, 197, 198, 199, 200, 201, 202, 203, 204, 205, 206, 207, 208, 209, 210, 211, 212, 213, 214] (by decide +kernel) (by decide +kernel)
set_option maxRecDepth 20000 in
theorem gX7_lend_X7_refusalToLend : GoodIn wsX7_lend (wsV RX7 58 RX7 yX7_refusalToLend wsX7_refusalToLend) := goodIn_app (goodIn_of _ (by decide +kernel)) ggX7_lend_X7_refusalToLend
set_option maxRecDepth 20000 in
theorem ggX7_lend_X7_remember : GoodIn wsX7_lend wsX7_remember := goodIn_r _ [78, 79, 80, 1, 81, 82, 83, 84, 85, 86, 87, 88, 89, 90, 91, 92, 93, 19, 14, 5, 15, 94, 95, 96, 97, 98, 99, 100, 101, 102, 103, 104, 26, 21, 105, 106, 44, 22, 107, 108, 109, 110, 111, 112, 113, 114, 115, 116, 117, 32, 28, 118, 119, 120, 121, 122, 123, 124, 34, 35, 125, 36, 126, 127, 128, 129, 51, 130, 131, 132, 133, 134, 135, 136, 137, 138, 139, 140, 141, 142, 143, 144, 61, 145, 146, 147, 148, 149, 150, 151, 152, 153, 154, 155, 156, 157, 46, 158, 159, 160, 161, 162, 163, 197, 198, 199, 200, 201, 202, 215, 203, 204, 205, 206, 216, 217, 218, 219, 207, 208, 212, 213, 214, 209, 210, 211] (by decide +kernel) (by decide +kernel)
set_option maxRecDepth 20000 in
theorem gX7_lend_X7_remember : GoodIn wsX7_lend (wsV RX7 51 RX7 yX7_remember wsX7_remember) := goodIn_app (goodIn_of _ (by decide +kernel)) ggX7_lend_X7_remember
theorem dX7_lend_0 : decode cX7_lend 0 = .ok (.aload_n 0, 1) := by decide +kernel
theorem dX7_lend_1 : decode cX7_lend 1 = .ok (.iload_n 1, 1) := by decide +kernel
theorem dX7_lend_2 : decode cX7_lend 2 = .ok (.iload_n 2, 1) := by decide +kernel
theorem dX7_lend_3 : decode cX7_lend 3 = .ok (.invokevirtual 58, 3) := by decide +kernel
theorem dX7_lend_6 : decode cX7_lend 6 = .ok (.istore_n 3, 1) := by decide +kernel
theorem dX7_lend_7 : decode cX7_lend 7 = .ok (.iload_n 3, 1) := by decide +kernel
theorem dX7_lend_8 : decode cX7_lend 8 = .ok (.ifCond .eq 5, 3) := by decide +kernel
theorem dX7_lend_11 : decode cX7_lend 11 = .ok (.iload_n 3, 1) := by decide +kernel
theorem dX7_lend_12 : decode cX7_lend 12 = .ok (.ireturn, 1) := by decide +kernel
theorem dX7_lend_13 : decode cX7_lend 13 = .ok (.aload_n 0, 1) := by decide +kernel
theorem dX7_lend_14 : decode cX7_lend 14 = .ok (.invokevirtual 51, 3) := by decide +kernel
theorem dX7_lend_17 : decode cX7_lend 17 = .ok (.aload_n 0, 1) := by decide +kernel
theorem dX7_lend_18 : decode cX7_lend 18 = .ok (.getfield 10, 3) := by decide +kernel
theorem dX7_lend_21 : decode cX7_lend 21 = .ok (.iload_n 1, 1) := by decide +kernel
theorem dX7_lend_22 : decode cX7_lend 22 = .ok (.iload_n 2, 1) := by decide +kernel
theorem dX7_lend_23 : decode cX7_lend 23 = .ok (.invokevirtual 61, 3) := by decide +kernel
theorem dX7_lend_26 : decode cX7_lend 26 = .ok (.ireturn, 1) := by decide +kernel
set_option maxRecDepth 20000 in
theorem ggX7_giveBack_X7_refusalToTakeBack : GoodIn wsX7_giveBack wsX7_refusalToTakeBack := goodIn_r _ [6, 7, 1, 8, 9, 10, 11, 5, 12, 13, 14, 15, 16, 17, 18, 19, 20, 21, 22, 23, 24, 25, 26, 27, 28, 29, 205, 206, 207, 208, 209, 210, 211, 212, 213, 214, 215, 216, 217, 218, 219] (by decide +kernel) (by decide +kernel)
set_option maxRecDepth 20000 in
theorem gX7_giveBack_X7_refusalToTakeBack : GoodIn wsX7_giveBack (wsV RX7 64 RX7 yX7_refusalToTakeBack wsX7_refusalToTakeBack) := goodIn_app (goodIn_of _ (by decide +kernel)) ggX7_giveBack_X7_refusalToTakeBack
set_option maxRecDepth 20000 in
theorem ggX7_giveBack_X7_remember : GoodIn wsX7_giveBack wsX7_remember := goodIn_r _ [33, 34, 35, 1, 36, 37, 38, 39, 40, 41, 42, 43, 44, 45, 46, 47, 48, 49, 14, 5, 15, 50, 51, 52, 53, 54, 55, 56, 57, 58, 59, 60, 19, 61, 62, 63, 64, 65, 66, 67, 68, 69, 70, 71, 72, 73, 74, 75, 76, 25, 21, 77, 78, 79, 80, 81, 82, 83, 27, 28, 84, 29, 85, 86, 87, 88, 89, 90, 91, 92, 93, 94, 95, 96, 97, 98, 99, 100, 101, 102, 103, 104, 105, 106, 107, 108, 109, 110, 111, 112, 113, 114, 115, 116, 117, 118, 119, 120, 121, 122, 123, 124, 125, 205, 206, 207, 208, 209, 210, 220, 211, 212, 213, 214, 221, 222, 223, 224, 215, 216, 225, 226, 227, 217, 218, 219] (by decide +kernel) (by decide +kernel)
set_option maxRecDepth 20000 in
theorem gX7_giveBack_X7_remember : GoodIn wsX7_giveBack (wsV RX7 51 RX7 yX7_remember wsX7_remember) := goodIn_app (goodIn_of _ (by decide +kernel)) ggX7_giveBack_X7_remember
theorem dX7_giveBack_0 : decode cX7_giveBack 0 = .ok (.aload_n 0, 1) := by decide +kernel
theorem dX7_giveBack_1 : decode cX7_giveBack 1 = .ok (.iload_n 1, 1) := by decide +kernel
theorem dX7_giveBack_2 : decode cX7_giveBack 2 = .ok (.iload_n 2, 1) := by decide +kernel
theorem dX7_giveBack_3 : decode cX7_giveBack 3 = .ok (.invokevirtual 64, 3) := by decide +kernel
theorem dX7_giveBack_6 : decode cX7_giveBack 6 = .ok (.istore_n 3, 1) := by decide +kernel
theorem dX7_giveBack_7 : decode cX7_giveBack 7 = .ok (.iload_n 3, 1) := by decide +kernel
theorem dX7_giveBack_8 : decode cX7_giveBack 8 = .ok (.ifCond .eq 5, 3) := by decide +kernel
theorem dX7_giveBack_11 : decode cX7_giveBack 11 = .ok (.iload_n 3, 1) := by decide +kernel
theorem dX7_giveBack_12 : decode cX7_giveBack 12 = .ok (.ireturn, 1) := by decide +kernel
theorem dX7_giveBack_13 : decode cX7_giveBack 13 = .ok (.aload_n 0, 1) := by decide +kernel
theorem dX7_giveBack_14 : decode cX7_giveBack 14 = .ok (.invokevirtual 51, 3) := by decide +kernel
theorem dX7_giveBack_17 : decode cX7_giveBack 17 = .ok (.aload_n 0, 1) := by decide +kernel
theorem dX7_giveBack_18 : decode cX7_giveBack 18 = .ok (.getfield 10, 3) := by decide +kernel
theorem dX7_giveBack_21 : decode cX7_giveBack 21 = .ok (.iload_n 1, 1) := by decide +kernel
theorem dX7_giveBack_22 : decode cX7_giveBack 22 = .ok (.iload_n 2, 1) := by decide +kernel
theorem dX7_giveBack_23 : decode cX7_giveBack 23 = .ok (.invokevirtual 67, 3) := by decide +kernel
theorem dX7_giveBack_26 : decode cX7_giveBack 26 = .ok (.ireturn, 1) := by decide +kernel
set_option maxRecDepth 20000 in
theorem ggX7_renew_X7_isCopy : GoodIn wsX7_renew wsX7_isCopy := goodIn_r _ [8, 2, 9, 10, 7, 11, 185, 186, 187, 188, 189, 190, 191, 192, 193, 194, 195, 196] (by decide +kernel) (by decide +kernel)
set_option maxRecDepth 20000 in
theorem gX7_renew_X7_isCopy : GoodIn wsX7_renew (wsV RX7 70 RX7 yX7_isCopy wsX7_isCopy) := goodIn_app (goodIn_of _ (by decide +kernel)) ggX7_renew_X7_isCopy
set_option maxRecDepth 20000 in
theorem ggX7_renew_X3_rowLength : GoodIn wsX7_renew wsX3_rowLength := goodIn_r _ [34, 35, 36, 37, 38, 33, 39, 40, 41, 19, 20, 21, 22, 23, 24, 25, 200, 201, 202, 197, 198, 199] (by decide +kernel) (by decide +kernel)
set_option maxRecDepth 20000 in
theorem gX7_renew_X3_rowLength : GoodIn wsX7_renew (wsV RX7 85 RX3 yX3_rowLength wsX3_rowLength) := goodIn_app (goodIn_of _ (by decide +kernel)) ggX7_renew_X3_rowLength
set_option maxRecDepth 20000 in
theorem ggX7_renew_X7_remember : GoodIn wsX7_renew wsX7_remember := goodIn_r _ [45, 46, 47, 2, 48, 49, 50, 51, 52, 53, 54, 55, 56, 57, 58, 59, 60, 61, 10, 7, 11, 62, 63, 64, 65, 66, 67, 68, 69, 70, 71, 72, 15, 73, 74, 75, 33, 76, 77, 78, 79, 80, 81, 82, 83, 84, 85, 86, 87, 21, 17, 88, 89, 90, 91, 92, 93, 94, 23, 24, 95, 25, 96, 97, 98, 99, 40, 100, 101, 102, 103, 104, 105, 106, 107, 108, 109, 110, 111, 112, 113, 114, 115, 116, 117, 118, 119, 120, 121, 122, 123, 124, 125, 126, 127, 128, 35, 129, 130, 131, 132, 133, 134, 185, 186, 187, 188, 189, 190, 203, 191, 192, 193, 194, 204, 205, 206, 207, 195, 196, 200, 201, 202, 197, 198, 199] (by decide +kernel) (by decide +kernel)
set_option maxRecDepth 20000 in
theorem gX7_renew_X7_remember : GoodIn wsX7_renew (wsV RX7 51 RX7 yX7_remember wsX7_remember) := goodIn_app (goodIn_of _ (by decide +kernel)) ggX7_renew_X7_remember
theorem dX7_renew_0 : decode cX7_renew 0 = .ok (.aload_n 0, 1) := by decide +kernel
theorem dX7_renew_1 : decode cX7_renew 1 = .ok (.iload_n 1, 1) := by decide +kernel
theorem dX7_renew_2 : decode cX7_renew 2 = .ok (.invokevirtual 70, 3) := by decide +kernel
theorem dX7_renew_5 : decode cX7_renew 5 = .ok (.ifCond .ne 6, 3) := by decide +kernel
theorem dX7_renew_8 : decode cX7_renew 8 = .ok (.ldc 39, 2) := by decide +kernel
theorem dX7_renew_10 : decode cX7_renew 10 = .ok (.ireturn, 1) := by decide +kernel
theorem dX7_renew_11 : decode cX7_renew 11 = .ok (.aload_n 0, 1) := by decide +kernel
theorem dX7_renew_12 : decode cX7_renew 12 = .ok (.getfield 10, 3) := by decide +kernel
theorem dX7_renew_15 : decode cX7_renew 15 = .ok (.getfield 40, 3) := by decide +kernel
theorem dX7_renew_18 : decode cX7_renew 18 = .ok (.iload_n 1, 1) := by decide +kernel
theorem dX7_renew_19 : decode cX7_renew 19 = .ok (.invokevirtual 74, 3) := by decide +kernel
theorem dX7_renew_22 : decode cX7_renew 22 = .ok (.iconst 1, 1) := by decide +kernel
theorem dX7_renew_23 : decode cX7_renew 23 = .ok (.if_icmp .ne 27, 3) := by decide +kernel
theorem dX7_renew_26 : decode cX7_renew 26 = .ok (.aload_n 0, 1) := by decide +kernel
theorem dX7_renew_27 : decode cX7_renew 27 = .ok (.getfield 10, 3) := by decide +kernel
theorem dX7_renew_30 : decode cX7_renew 30 = .ok (.getfield 78, 3) := by decide +kernel
theorem dX7_renew_33 : decode cX7_renew 33 = .ok (.aload_n 0, 1) := by decide +kernel
theorem dX7_renew_34 : decode cX7_renew 34 = .ok (.getfield 10, 3) := by decide +kernel
theorem dX7_renew_37 : decode cX7_renew 37 = .ok (.getfield 40, 3) := by decide +kernel
theorem dX7_renew_40 : decode cX7_renew 40 = .ok (.iload_n 1, 1) := by decide +kernel
theorem dX7_renew_41 : decode cX7_renew 41 = .ok (.invokevirtual 82, 3) := by decide +kernel
theorem dX7_renew_44 : decode cX7_renew 44 = .ok (.invokevirtual 85, 3) := by decide +kernel
theorem dX7_renew_47 : decode cX7_renew 47 = .ok (.ifCond .le 6, 3) := by decide +kernel
theorem dX7_renew_50 : decode cX7_renew 50 = .ok (.ldc 90, 2) := by decide +kernel
theorem dX7_renew_52 : decode cX7_renew 52 = .ok (.ireturn, 1) := by decide +kernel
theorem dX7_renew_53 : decode cX7_renew 53 = .ok (.aload_n 0, 1) := by decide +kernel
theorem dX7_renew_54 : decode cX7_renew 54 = .ok (.invokevirtual 51, 3) := by decide +kernel
theorem dX7_renew_57 : decode cX7_renew 57 = .ok (.aload_n 0, 1) := by decide +kernel
theorem dX7_renew_58 : decode cX7_renew 58 = .ok (.getfield 10, 3) := by decide +kernel
theorem dX7_renew_61 : decode cX7_renew 61 = .ok (.iload_n 1, 1) := by decide +kernel
theorem dX7_renew_62 : decode cX7_renew 62 = .ok (.invokevirtual 91, 3) := by decide +kernel
theorem dX7_renew_65 : decode cX7_renew 65 = .ok (.ireturn, 1) := by decide +kernel
set_option maxRecDepth 20000 in
theorem ggX7_lose_X7_isCopy : GoodIn wsX7_lose wsX7_isCopy := goodIn_r _ [8, 2, 9, 10, 7, 11, 201, 202, 203, 204, 205, 206, 207, 208, 209, 210, 211, 212] (by decide +kernel) (by decide +kernel)
set_option maxRecDepth 20000 in
theorem gX7_lose_X7_isCopy : GoodIn wsX7_lose (wsV RX7 70 RX7 yX7_isCopy wsX7_isCopy) := goodIn_app (goodIn_of _ (by decide +kernel)) ggX7_lose_X7_isCopy
set_option maxRecDepth 20000 in
theorem ggX7_lose_X7_remember : GoodIn wsX7_lose wsX7_remember := goodIn_r _ [29, 30, 31, 2, 32, 33, 34, 35, 36, 37, 38, 39, 40, 41, 42, 43, 44, 45, 10, 7, 11, 46, 47, 48, 49, 50, 51, 52, 53, 54, 55, 56, 15, 57, 58, 59, 60, 61, 62, 63, 64, 65, 66, 67, 68, 69, 70, 71, 72, 21, 17, 73, 74, 75, 76, 77, 78, 79, 23, 24, 80, 25, 81, 82, 83, 84, 85, 86, 87, 88, 89, 90, 91, 92, 93, 94, 95, 96, 97, 98, 99, 100, 101, 102, 103, 104, 105, 106, 107, 108, 109, 110, 111, 112, 113, 114, 115, 116, 117, 118, 119, 120, 121, 201, 202, 203, 204, 205, 206, 216, 207, 208, 209, 210, 217, 218, 219, 220, 211, 212, 221, 222, 223, 213, 214, 215] (by decide +kernel) (by decide +kernel)
set_option maxRecDepth 20000 in
theorem gX7_lose_X7_remember : GoodIn wsX7_lose (wsV RX7 51 RX7 yX7_remember wsX7_remember) := goodIn_app (goodIn_of _ (by decide +kernel)) ggX7_lose_X7_remember
theorem dX7_lose_0 : decode cX7_lose 0 = .ok (.aload_n 0, 1) := by decide +kernel
theorem dX7_lose_1 : decode cX7_lose 1 = .ok (.iload_n 1, 1) := by decide +kernel
theorem dX7_lose_2 : decode cX7_lose 2 = .ok (.invokevirtual 70, 3) := by decide +kernel
theorem dX7_lose_5 : decode cX7_lose 5 = .ok (.ifCond .ne 6, 3) := by decide +kernel
theorem dX7_lose_8 : decode cX7_lose 8 = .ok (.ldc 39, 2) := by decide +kernel
theorem dX7_lose_10 : decode cX7_lose 10 = .ok (.ireturn, 1) := by decide +kernel
theorem dX7_lose_11 : decode cX7_lose 11 = .ok (.aload_n 0, 1) := by decide +kernel
theorem dX7_lose_12 : decode cX7_lose 12 = .ok (.getfield 10, 3) := by decide +kernel
theorem dX7_lose_15 : decode cX7_lose 15 = .ok (.getfield 40, 3) := by decide +kernel
theorem dX7_lose_18 : decode cX7_lose 18 = .ok (.iload_n 1, 1) := by decide +kernel
theorem dX7_lose_19 : decode cX7_lose 19 = .ok (.invokevirtual 74, 3) := by decide +kernel
theorem dX7_lose_22 : decode cX7_lose 22 = .ok (.iconst 4, 1) := by decide +kernel
theorem dX7_lose_23 : decode cX7_lose 23 = .ok (.if_icmp .ne 6, 3) := by decide +kernel
theorem dX7_lose_26 : decode cX7_lose 26 = .ok (.ldc 90, 2) := by decide +kernel
theorem dX7_lose_28 : decode cX7_lose 28 = .ok (.ireturn, 1) := by decide +kernel
theorem dX7_lose_29 : decode cX7_lose 29 = .ok (.aload_n 0, 1) := by decide +kernel
theorem dX7_lose_30 : decode cX7_lose 30 = .ok (.invokevirtual 51, 3) := by decide +kernel
theorem dX7_lose_33 : decode cX7_lose 33 = .ok (.aload_n 0, 1) := by decide +kernel
theorem dX7_lose_34 : decode cX7_lose 34 = .ok (.getfield 10, 3) := by decide +kernel
theorem dX7_lose_37 : decode cX7_lose 37 = .ok (.iload_n 1, 1) := by decide +kernel
theorem dX7_lose_38 : decode cX7_lose 38 = .ok (.invokevirtual 94, 3) := by decide +kernel
theorem dX7_lose_41 : decode cX7_lose 41 = .ok (.ireturn, 1) := by decide +kernel
set_option maxRecDepth 20000 in
theorem ggX7_hold_X7_refusalToHold : GoodIn wsX7_hold wsX7_refusalToHold := goodIn_r _ [6, 7, 8, 1, 9, 10, 11, 12, 5, 13, 14, 15, 16, 17, 18, 19, 20, 21, 22, 23, 24, 25, 26, 27, 28, 29, 30, 31, 32, 33, 34, 35, 36, 37, 38, 39, 40, 41, 42, 43, 44, 45, 46, 47, 48, 49, 50, 51, 52, 53, 54, 55, 56, 57, 58, 59, 60, 61, 62, 63, 64, 224, 225, 226, 227, 228, 229, 230, 231, 232, 233, 234, 235, 236, 237, 238, 239, 240, 241] (by decide +kernel) (by decide +kernel)
set_option maxRecDepth 20000 in
theorem gX7_hold_X7_refusalToHold : GoodIn wsX7_hold (wsV RX7 97 RX7 yX7_refusalToHold wsX7_refusalToHold) := goodIn_app (goodIn_of _ (by decide +kernel)) ggX7_hold_X7_refusalToHold
set_option maxRecDepth 20000 in
theorem ggX7_hold_X7_remember : GoodIn wsX7_hold wsX7_remember := goodIn_r _ [68, 69, 70, 1, 71, 72, 73, 74, 75, 76, 77, 78, 79, 80, 81, 82, 83, 84, 12, 5, 13, 85, 86, 87, 88, 89, 90, 91, 92, 93, 94, 95, 17, 96, 97, 98, 52, 99, 100, 101, 102, 103, 104, 105, 106, 107, 108, 109, 110, 32, 28, 111, 112, 113, 114, 115, 116, 117, 34, 35, 118, 36, 119, 120, 121, 122, 59, 123, 124, 125, 126, 127, 128, 129, 130, 131, 132, 133, 134, 135, 136, 137, 19, 138, 139, 140, 141, 142, 143, 144, 145, 146, 147, 148, 149, 150, 54, 151, 152, 153, 154, 155, 156, 224, 225, 226, 227, 228, 229, 242, 230, 231, 232, 233, 243, 244, 245, 246, 237, 238, 234, 235, 236, 239, 240, 241] (by decide +kernel) (by decide +kernel)
set_option maxRecDepth 20000 in
theorem gX7_hold_X7_remember : GoodIn wsX7_hold (wsV RX7 51 RX7 yX7_remember wsX7_remember) := goodIn_app (goodIn_of _ (by decide +kernel)) ggX7_hold_X7_remember
set_option maxRecDepth 20000 in
theorem ggX7_hold_X4_addHold : GoodIn wsX7_hold wsX4_addHold := goodIn_r _ [160, 99, 93, 161, 162, 163, 52, 164, 151, 59, 54, 165, 166, 167, 32, 168, 34, 35, 36, 169, 170, 171, 84, 172, 96, 173, 174, 175, 176, 177, 178, 179, 180, 60, 30, 31, 33, 181, 182, 183, 184, 185, 186, 187, 188, 189, 190, 191, 17, 192, 19, 45, 46, 47, 48, 28, 29, 24, 25, 26, 27, 193, 194, 195, 196, 197, 5, 198, 199, 200, 74, 201, 72, 73, 75, 202, 203, 204, 205, 128, 206, 207, 208, 209, 210, 211, 212, 213, 214, 12, 13, 215, 216, 217, 92, 218, 133, 104, 219, 220, 221, 222, 223, 230, 231, 232, 233, 243, 244, 245, 246, 234, 235, 236, 239, 240, 241, 237, 238] (by decide +kernel) (by decide +kernel)
set_option maxRecDepth 20000 in
theorem gX7_hold_X4_addHold : GoodIn wsX7_hold (wsV RX7 101 RX4 yX4_addHold wsX4_addHold) := goodIn_app (goodIn_of _ (by decide +kernel)) ggX7_hold_X4_addHold
theorem dX7_hold_0 : decode cX7_hold 0 = .ok (.aload_n 0, 1) := by decide +kernel
theorem dX7_hold_1 : decode cX7_hold 1 = .ok (.iload_n 1, 1) := by decide +kernel
theorem dX7_hold_2 : decode cX7_hold 2 = .ok (.iload_n 2, 1) := by decide +kernel
theorem dX7_hold_3 : decode cX7_hold 3 = .ok (.iload_n 3, 1) := by decide +kernel
theorem dX7_hold_4 : decode cX7_hold 4 = .ok (.iload 4, 2) := by decide +kernel
theorem dX7_hold_6 : decode cX7_hold 6 = .ok (.invokevirtual 97, 3) := by decide +kernel
theorem dX7_hold_9 : decode cX7_hold 9 = .ok (.istore 5, 2) := by decide +kernel
theorem dX7_hold_11 : decode cX7_hold 11 = .ok (.iload 5, 2) := by decide +kernel
theorem dX7_hold_13 : decode cX7_hold 13 = .ok (.ifCond .eq 6, 3) := by decide +kernel
theorem dX7_hold_16 : decode cX7_hold 16 = .ok (.iload 5, 2) := by decide +kernel
theorem dX7_hold_18 : decode cX7_hold 18 = .ok (.ireturn, 1) := by decide +kernel
theorem dX7_hold_19 : decode cX7_hold 19 = .ok (.aload_n 0, 1) := by decide +kernel
theorem dX7_hold_20 : decode cX7_hold 20 = .ok (.invokevirtual 51, 3) := by decide +kernel
theorem dX7_hold_23 : decode cX7_hold 23 = .ok (.aload_n 0, 1) := by decide +kernel
theorem dX7_hold_24 : decode cX7_hold 24 = .ok (.getfield 10, 3) := by decide +kernel
theorem dX7_hold_27 : decode cX7_hold 27 = .ok (.iload_n 1, 1) := by decide +kernel
theorem dX7_hold_28 : decode cX7_hold 28 = .ok (.iload_n 2, 1) := by decide +kernel
theorem dX7_hold_29 : decode cX7_hold 29 = .ok (.iload_n 3, 1) := by decide +kernel
theorem dX7_hold_30 : decode cX7_hold 30 = .ok (.iload 4, 2) := by decide +kernel
theorem dX7_hold_32 : decode cX7_hold 32 = .ok (.invokevirtual 101, 3) := by decide +kernel
theorem dX7_hold_35 : decode cX7_hold 35 = .ok (.ireturn, 1) := by decide +kernel
set_option maxRecDepth 20000 in
theorem ggX7_giveUp_X3_slotOf : GoodIn wsX7_giveUp wsX3_slotOf := goodIn_r _ [7, 8, 9, 10, 11, 6, 12, 13, 14, 15, 16, 17, 18, 19, 20, 21, 211, 212, 213, 214, 215, 216] (by decide +kernel) (by decide +kernel)
set_option maxRecDepth 20000 in
theorem gX7_giveUp_X3_slotOf : GoodIn wsX7_giveUp (wsV RX7 104 RX3 yX3_slotOf wsX3_slotOf) := goodIn_app (goodIn_of _ (by decide +kernel)) ggX7_giveUp_X3_slotOf
set_option maxRecDepth 20000 in
theorem ggX7_giveUp_X7_remember : GoodIn wsX7_giveUp wsX7_remember := goodIn_r _ [26, 27, 28, 1, 29, 30, 31, 32, 33, 34, 35, 36, 37, 38, 39, 40, 41, 42, 43, 25, 44, 45, 46, 47, 48, 49, 50, 51, 52, 53, 54, 55, 56, 57, 58, 59, 6, 60, 61, 62, 63, 64, 65, 66, 67, 68, 69, 70, 71, 17, 72, 73, 74, 75, 76, 77, 78, 79, 19, 20, 80, 21, 81, 82, 83, 84, 13, 85, 86, 87, 88, 89, 90, 91, 92, 93, 94, 95, 96, 97, 98, 99, 100, 101, 102, 103, 104, 105, 106, 107, 108, 109, 110, 111, 112, 113, 8, 114, 115, 116, 117, 118, 119, 201, 202, 203, 204, 205, 206, 217, 207, 208, 209, 210, 218, 219, 220, 221, 222, 223, 211, 212, 213, 214, 215, 216] (by decide +kernel) (by decide +kernel)
set_option maxRecDepth 20000 in
theorem gX7_giveUp_X7_remember : GoodIn wsX7_giveUp (wsV RX7 51 RX7 yX7_remember wsX7_remember) := goodIn_app (goodIn_of _ (by decide +kernel)) ggX7_giveUp_X7_remember
theorem dX7_giveUp_0 : decode cX7_giveUp 0 = .ok (.aload_n 0, 1) := by decide +kernel
theorem dX7_giveUp_1 : decode cX7_giveUp 1 = .ok (.getfield 10, 3) := by decide +kernel
theorem dX7_giveUp_4 : decode cX7_giveUp 4 = .ok (.getfield 78, 3) := by decide +kernel
theorem dX7_giveUp_7 : decode cX7_giveUp 7 = .ok (.iload_n 1, 1) := by decide +kernel
theorem dX7_giveUp_8 : decode cX7_giveUp 8 = .ok (.invokevirtual 104, 3) := by decide +kernel
theorem dX7_giveUp_11 : decode cX7_giveUp 11 = .ok (.istore_n 2, 1) := by decide +kernel
theorem dX7_giveUp_12 : decode cX7_giveUp 12 = .ok (.iload_n 2, 1) := by decide +kernel
theorem dX7_giveUp_13 : decode cX7_giveUp 13 = .ok (.iconst (-1), 1) := by decide +kernel
theorem dX7_giveUp_14 : decode cX7_giveUp 14 = .ok (.if_icmp .ne 6, 3) := by decide +kernel
theorem dX7_giveUp_17 : decode cX7_giveUp 17 = .ok (.ldc 39, 2) := by decide +kernel
theorem dX7_giveUp_19 : decode cX7_giveUp 19 = .ok (.ireturn, 1) := by decide +kernel
theorem dX7_giveUp_20 : decode cX7_giveUp 20 = .ok (.aload_n 0, 1) := by decide +kernel
theorem dX7_giveUp_21 : decode cX7_giveUp 21 = .ok (.invokevirtual 51, 3) := by decide +kernel
theorem dX7_giveUp_24 : decode cX7_giveUp 24 = .ok (.aload_n 0, 1) := by decide +kernel
theorem dX7_giveUp_25 : decode cX7_giveUp 25 = .ok (.getfield 10, 3) := by decide +kernel
theorem dX7_giveUp_28 : decode cX7_giveUp 28 = .ok (.iload_n 2, 1) := by decide +kernel
theorem dX7_giveUp_29 : decode cX7_giveUp 29 = .ok (.invokevirtual 107, 3) := by decide +kernel
theorem dX7_giveUp_32 : decode cX7_giveUp 32 = .ok (.ireturn, 1) := by decide +kernel
set_option maxRecDepth 20000 in
theorem ggX7_pass_X7_remember : GoodIn wsX7_pass wsX7_remember := goodIn_r _ [8, 9, 10, 2, 11, 12, 13, 14, 15, 16, 17, 18, 19, 20, 21, 22, 23, 24, 25, 7, 26, 27, 28, 29, 30, 31, 32, 33, 34, 35, 36, 37, 38, 39, 40, 41, 42, 43, 44, 45, 46, 47, 48, 49, 50, 51, 52, 53, 54, 55, 56, 57, 58, 59, 60, 61, 62, 63, 64, 65, 66, 67, 68, 69, 70, 71, 72, 73, 74, 75, 76, 77, 78, 79, 80, 81, 82, 83, 84, 85, 86, 87, 88, 89, 90, 91, 92, 93, 94, 95, 96, 97, 98, 99, 100, 101, 102, 103, 104, 105, 106, 107, 108, 211, 212, 213, 214, 215, 216, 225, 217, 218, 219, 220, 221, 222, 223, 224, 226, 227, 228, 229, 230, 231, 232, 233] (by decide +kernel) (by decide +kernel)
set_option maxRecDepth 20000 in
theorem gX7_pass_X7_remember : GoodIn wsX7_pass (wsV RX7 51 RX7 yX7_remember wsX7_remember) := goodIn_app (goodIn_of _ (by decide +kernel)) ggX7_pass_X7_remember
set_option maxRecDepth 20000 in
theorem ggX7_pass_X4_dayPasses : GoodIn wsX7_pass wsX4_dayPasses := goodIn_r _ [112, 35, 78, 39, 113, 114, 115, 24, 116, 43, 117, 118, 119, 38, 120, 56, 121, 122, 123, 55, 124, 64, 65, 67, 125, 126, 127, 128, 129, 130, 131, 132, 133, 134, 135, 136, 137, 138, 139, 34, 140, 83, 48, 141, 142, 143, 144, 145, 146, 147, 148, 149, 150, 151, 42, 152, 102, 153, 154, 155, 156, 72, 157, 158, 159, 160, 161, 25, 7, 26, 162, 163, 164, 165, 94, 95, 96, 97, 166, 167, 168, 169, 170, 171, 172, 173, 174, 175, 176, 177, 178, 179, 180, 181, 182, 183, 184, 185, 186, 187, 188, 189, 88, 190, 191, 192, 193, 194, 195, 196, 197, 198, 199, 14, 200, 12, 13, 15, 201, 202, 203, 204, 205, 206, 207, 208, 209, 210, 217, 218, 219, 220, 221, 222, 223, 224, 226, 227, 231, 232, 233, 228, 229, 230] (by decide +kernel) (by decide +kernel)
set_option maxRecDepth 20000 in
theorem gX7_pass_X4_dayPasses : GoodIn wsX7_pass (wsV RX7 120 RX4 yX4_dayPasses wsX4_dayPasses) := goodIn_app (goodIn_of _ (by decide +kernel)) ggX7_pass_X4_dayPasses
theorem dX7_pass_0 : decode cX7_pass 0 = .ok (.iload_n 1, 1) := by decide +kernel
theorem dX7_pass_1 : decode cX7_pass 1 = .ok (.iconst 1, 1) := by decide +kernel
theorem dX7_pass_2 : decode cX7_pass 2 = .ok (.if_icmp .lt 9, 3) := by decide +kernel
theorem dX7_pass_5 : decode cX7_pass 5 = .ok (.iload_n 1, 1) := by decide +kernel
theorem dX7_pass_6 : decode cX7_pass 6 = .ok (.bipush 30, 2) := by decide +kernel
theorem dX7_pass_8 : decode cX7_pass 8 = .ok (.if_icmp .le 6, 3) := by decide +kernel
theorem dX7_pass_11 : decode cX7_pass 11 = .ok (.ldc 110, 2) := by decide +kernel
theorem dX7_pass_13 : decode cX7_pass 13 = .ok (.ireturn, 1) := by decide +kernel
theorem dX7_pass_14 : decode cX7_pass 14 = .ok (.aload_n 0, 1) := by decide +kernel
theorem dX7_pass_15 : decode cX7_pass 15 = .ok (.getfield 10, 3) := by decide +kernel
theorem dX7_pass_18 : decode cX7_pass 18 = .ok (.getfield 111, 3) := by decide +kernel
theorem dX7_pass_21 : decode cX7_pass 21 = .ok (.getfield 115, 3) := by decide +kernel
theorem dX7_pass_24 : decode cX7_pass 24 = .ok (.iload_n 1, 1) := by decide +kernel
theorem dX7_pass_25 : decode cX7_pass 25 = .ok (.iadd, 1) := by decide +kernel
theorem dX7_pass_26 : decode cX7_pass 26 = .ok (.sipush 9999, 3) := by decide +kernel
theorem dX7_pass_29 : decode cX7_pass 29 = .ok (.if_icmp .le 6, 3) := by decide +kernel
theorem dX7_pass_32 : decode cX7_pass 32 = .ok (.ldc 90, 2) := by decide +kernel
theorem dX7_pass_34 : decode cX7_pass 34 = .ok (.ireturn, 1) := by decide +kernel
theorem dX7_pass_35 : decode cX7_pass 35 = .ok (.aload_n 0, 1) := by decide +kernel
theorem dX7_pass_36 : decode cX7_pass 36 = .ok (.invokevirtual 51, 3) := by decide +kernel
theorem dX7_pass_39 : decode cX7_pass 39 = .ok (.iconst 0, 1) := by decide +kernel
theorem dX7_pass_40 : decode cX7_pass 40 = .ok (.istore_n 2, 1) := by decide +kernel
theorem dX7_pass_41 : decode cX7_pass 41 = .ok (.iload_n 2, 1) := by decide +kernel
theorem dX7_pass_42 : decode cX7_pass 42 = .ok (.iload_n 1, 1) := by decide +kernel
theorem dX7_pass_43 : decode cX7_pass 43 = .ok (.if_icmp .ge 16, 3) := by decide +kernel
theorem dX7_pass_46 : decode cX7_pass 46 = .ok (.aload_n 0, 1) := by decide +kernel
theorem dX7_pass_47 : decode cX7_pass 47 = .ok (.getfield 10, 3) := by decide +kernel
theorem dX7_pass_50 : decode cX7_pass 50 = .ok (.invokevirtual 120, 3) := by decide +kernel
theorem dX7_pass_53 : decode cX7_pass 53 = .ok (.iinc 2 1, 3) := by decide +kernel
theorem dX7_pass_56 : decode cX7_pass 56 = .ok (.goto (-15), 3) := by decide +kernel
theorem dX7_pass_59 : decode cX7_pass 59 = .ok (.aload_n 0, 1) := by decide +kernel
theorem dX7_pass_60 : decode cX7_pass 60 = .ok (.getfield 10, 3) := by decide +kernel
theorem dX7_pass_63 : decode cX7_pass 63 = .ok (.getfield 111, 3) := by decide +kernel
theorem dX7_pass_66 : decode cX7_pass 66 = .ok (.getfield 115, 3) := by decide +kernel
theorem dX7_pass_69 : decode cX7_pass 69 = .ok (.ireturn, 1) := by decide +kernel
set_option maxRecDepth 20000 in
theorem ggX7_set_X0_allows : GoodIn wsX7_set wsX0_allows := goodIn_r _ [6] (by decide +kernel) (by decide +kernel)
set_option maxRecDepth 20000 in
theorem gX7_set_X0_allows : GoodIn wsX7_set (va_wsS RX7 123 yX0_allows wsX0_allows) := goodIn_app (goodIn_of _ (by decide +kernel)) ggX7_set_X0_allows
set_option maxRecDepth 20000 in
theorem ggX7_set_X7_remember : GoodIn wsX7_set wsX7_remember := goodIn_r _ [11, 12, 13, 2, 14, 15, 16, 17, 18, 19, 20, 21, 22, 23, 24, 25, 26, 27, 28, 10, 29, 30, 31, 32, 33, 34, 35, 36, 5, 37, 38, 39, 40, 41, 42, 43, 44, 45, 46, 47, 48, 49, 50, 51, 52, 53, 54, 55, 56, 57, 58, 59, 60, 61, 62, 63, 64, 65, 66, 67, 68, 69, 70, 71, 72, 73, 74, 75, 76, 77, 78, 79, 80, 81, 82, 83, 84, 85, 86, 87, 88, 89, 90, 91, 92, 93, 94, 95, 96, 97, 98, 99, 100, 101, 102, 103, 104, 105, 106, 107, 108, 109, 110, 115, 116, 117, 118, 119, 120, 125, 121, 122, 123, 124, 126, 127, 128, 129, 130, 131, 132, 133, 134, 135, 136, 137] (by decide +kernel) (by decide +kernel)
set_option maxRecDepth 20000 in
theorem gX7_set_X7_remember : GoodIn wsX7_set (wsV RX7 51 RX7 yX7_remember wsX7_remember) := goodIn_app (goodIn_of _ (by decide +kernel)) ggX7_set_X7_remember
set_option maxRecDepth 20000 in
theorem ggX7_set_X0_change : GoodIn wsX7_set wsX0_change := goodIn_r _ [114, 49, 50, 51, 126, 127, 128, 129] (by decide +kernel) (by decide +kernel)
set_option maxRecDepth 20000 in
theorem gX7_set_X0_change : GoodIn wsX7_set (wsV RX7 126 RX0 yX0_change wsX0_change) := goodIn_app (goodIn_of _ (by decide +kernel)) ggX7_set_X0_change
theorem dX7_set_0 : decode cX7_set 0 = .ok (.iload_n 1, 1) := by decide +kernel
theorem dX7_set_1 : decode cX7_set 1 = .ok (.iload_n 2, 1) := by decide +kernel
theorem dX7_set_2 : decode cX7_set 2 = .ok (.invokestatic 123, 3) := by decide +kernel
theorem dX7_set_5 : decode cX7_set 5 = .ok (.ifCond .ne 6, 3) := by decide +kernel
theorem dX7_set_8 : decode cX7_set 8 = .ok (.ldc 110, 2) := by decide +kernel
theorem dX7_set_10 : decode cX7_set 10 = .ok (.ireturn, 1) := by decide +kernel
theorem dX7_set_11 : decode cX7_set 11 = .ok (.aload_n 0, 1) := by decide +kernel
theorem dX7_set_12 : decode cX7_set 12 = .ok (.invokevirtual 51, 3) := by decide +kernel
theorem dX7_set_15 : decode cX7_set 15 = .ok (.aload_n 0, 1) := by decide +kernel
theorem dX7_set_16 : decode cX7_set 16 = .ok (.getfield 10, 3) := by decide +kernel
theorem dX7_set_19 : decode cX7_set 19 = .ok (.getfield 111, 3) := by decide +kernel
theorem dX7_set_22 : decode cX7_set 22 = .ok (.iload_n 1, 1) := by decide +kernel
theorem dX7_set_23 : decode cX7_set 23 = .ok (.iload_n 2, 1) := by decide +kernel
theorem dX7_set_24 : decode cX7_set 24 = .ok (.invokevirtual 126, 3) := by decide +kernel
theorem dX7_set_27 : decode cX7_set 27 = .ok (.ireturn, 1) := by decide +kernel
set_option maxRecDepth 20000 in
theorem ggX7_drift_X7_remember : GoodIn wsX7_drift wsX7_remember := goodIn_r _ [9, 10, 11, 4, 12, 13, 14, 15, 16, 17, 18, 19, 20, 21, 22, 23, 24, 25, 26, 8, 27, 28, 29, 30, 31, 32, 33, 34, 35, 36, 37, 38, 39, 40, 41, 42, 43, 44, 45, 46, 47, 48, 49, 50, 51, 52, 53, 54, 55, 56, 57, 58, 59, 60, 61, 62, 63, 64, 65, 66, 67, 68, 69, 70, 71, 72, 73, 74, 75, 76, 77, 78, 79, 80, 81, 82, 83, 84, 85, 86, 87, 88, 89, 90, 91, 92, 93, 94, 95, 96, 97, 98, 99, 100, 101, 102, 103, 104, 105, 106, 107, 108, 109, 326, 327, 328, 329, 330, 331, 340, 332, 333, 334, 335, 336, 337, 338, 339, 341, 342, 343, 344, 345, 346, 347, 348] (by decide +kernel) (by decide +kernel)
set_option maxRecDepth 20000 in
theorem gX7_drift_X7_remember : GoodIn wsX7_drift (wsV RX7 51 RX7 yX7_remember wsX7_remember) := goodIn_app (goodIn_of _ (by decide +kernel)) ggX7_drift_X7_remember
set_option maxRecDepth 20000 in
theorem ggX7_drift_X5_begin : GoodIn wsX7_drift wsX5_begin := goodIn_r _ [114, 115, 349] (by decide +kernel) (by decide +kernel)
set_option maxRecDepth 20000 in
theorem gX7_drift_X5_begin : GoodIn wsX7_drift (wsV RX7 130 RX5 yX5_begin wsX5_begin) := goodIn_app (goodIn_of _ (by decide +kernel)) ggX7_drift_X5_begin
set_option maxRecDepth 20000 in
theorem ggX7_drift_X5_below : GoodIn wsX7_drift wsX5_below := goodIn_r _ [119, 115, 120, 121, 349] (by decide +kernel) (by decide +kernel)
set_option maxRecDepth 20000 in
theorem gX7_drift_X5_below : GoodIn wsX7_drift (wsV RX7 133 RX5 yX5_below wsX5_below) := goodIn_app (goodIn_of _ (by decide +kernel)) ggX7_drift_X5_below
set_option maxRecDepth 20000 in
theorem ggX7_drift_X7_drawHold : GoodIn wsX7_drift wsX7_drawHold := goodIn_r _ [125, 3, 4, 116, 117, 118, 113, 119, 115, 120, 121, 126, 127, 128, 8, 129, 130, 2, 131, 132, 133, 26, 27, 134, 135, 136, 39, 137, 89, 138, 139, 140, 141, 142, 143, 144, 145, 57, 146, 147, 148, 56, 149, 65, 66, 68, 150, 151, 152, 153, 154, 155, 156, 157, 158, 159, 160, 161, 162, 163, 164, 43, 165, 103, 166, 167, 168, 169, 73, 170, 171, 172, 173, 174, 175, 176, 177, 25, 178, 44, 36, 179, 180, 181, 182, 104, 183, 184, 185, 186, 187, 188, 189, 190, 40, 191, 192, 193, 194, 195, 196, 197, 198, 199, 200, 201, 202, 203, 204, 205, 206, 207, 208, 209, 210, 211, 212, 213, 214, 215, 216, 217, 218, 15, 219, 13, 14, 16, 220, 221, 222, 223, 79, 224, 225, 226, 227, 228, 229, 230, 231, 232, 233, 234, 235, 35, 236, 84, 49, 237, 238, 239, 240, 241, 326, 327, 328, 329, 330, 331, 349, 332, 333, 334, 335, 343, 344, 345, 341, 342, 346, 347, 348, 336, 337, 338, 339] (by decide +kernel) (by decide +kernel)
set_option maxRecDepth 20000 in
theorem gX7_drift_X7_drawHold : GoodIn wsX7_drift (wsV RX7 136 RX7 yX7_drawHold wsX7_drawHold) := goodIn_app (goodIn_of _ (by decide +kernel)) ggX7_drift_X7_drawHold
set_option maxRecDepth 20000 in
theorem ggX7_drift_X7_drawLending : GoodIn wsX7_drift wsX7_drawLending := goodIn_r _ [245, 4, 3, 116, 117, 118, 113, 119, 115, 120, 121, 246, 247, 248, 8, 249, 130, 131, 250, 251, 252, 253, 133, 26, 27, 254, 255, 256, 25, 257, 40, 44, 258, 143, 144, 39, 145, 57, 146, 147, 148, 56, 149, 65, 66, 68, 259, 151, 152, 153, 260, 261, 262, 43, 263, 103, 264, 226, 227, 228, 73, 170, 265, 167, 168, 169, 134, 135, 136, 137, 89, 138, 139, 140, 141, 142, 150, 266, 267, 268, 269, 270, 271, 272, 273, 274, 275, 276, 36, 277, 278, 279, 280, 281, 282, 283, 284, 95, 96, 97, 98, 285, 286, 287, 35, 288, 84, 48, 289, 290, 291, 292, 50, 293, 107, 108, 109, 224, 212, 213, 214, 237, 238, 239, 240, 241, 184, 185, 186, 326, 327, 328, 329, 330, 331, 332, 333, 334, 335, 341, 342, 349, 346, 347, 348, 343, 344, 345, 336, 337, 338, 339] (by decide +kernel) (by decide +kernel)
set_option maxRecDepth 20000 in
theorem gX7_drift_X7_drawLending : GoodIn wsX7_drift (wsV RX7 139 RX7 yX7_drawLending wsX7_drawLending) := goodIn_app (goodIn_of _ (by decide +kernel)) ggX7_drift_X7_drawLending
set_option maxRecDepth 20000 in
theorem ggX7_drift_X7_drawGivingBack : GoodIn wsX7_drift wsX7_drawGivingBack := goodIn_r _ [297, 4, 3, 116, 117, 118, 113, 119, 115, 120, 121, 298, 299, 300, 8, 301, 130, 131, 250, 251, 252, 253, 133, 26, 27, 302, 143, 144, 39, 145, 57, 146, 147, 148, 56, 149, 65, 66, 68, 303, 304, 305, 25, 306, 40, 36, 307, 63, 15, 64, 308, 309, 310, 311, 312, 14, 16, 142, 313, 314, 315, 316, 237, 238, 239, 240, 241, 184, 185, 186, 187, 188, 189, 190, 44, 191, 192, 193, 43, 194, 103, 195, 196, 197, 198, 73, 170, 199, 200, 201, 202, 203, 204, 205, 206, 207, 208, 209, 210, 89, 158, 159, 160, 161, 211, 212, 213, 214, 215, 216, 217, 218, 219, 13, 220, 221, 222, 223, 79, 224, 225, 226, 227, 228, 229, 230, 231, 232, 183, 233, 234, 235, 35, 236, 84, 49, 326, 327, 328, 329, 330, 331, 332, 333, 334, 335, 341, 342, 349, 346, 347, 348, 336, 337, 338, 339, 343, 344, 345] (by decide +kernel) (by decide +kernel)
set_option maxRecDepth 20000 in
theorem gX7_drift_X7_drawGivingBack : GoodIn wsX7_drift (wsV RX7 142 RX7 yX7_drawGivingBack wsX7_drawGivingBack) := goodIn_app (goodIn_of _ (by decide +kernel)) ggX7_drift_X7_drawGivingBack
set_option maxRecDepth 20000 in
theorem ggX7_drift_X4_dayPasses : GoodIn wsX7_drift wsX4_dayPasses := goodIn_r _ [320, 36, 79, 40, 321, 322, 323, 25, 324, 44, 258, 143, 144, 39, 145, 57, 146, 147, 148, 56, 149, 65, 66, 68, 325, 314, 315, 316, 224, 212, 213, 214, 259, 151, 152, 153, 233, 234, 235, 35, 236, 84, 49, 237, 238, 239, 240, 241, 184, 185, 186, 260, 261, 262, 43, 263, 103, 264, 226, 227, 228, 73, 170, 277, 278, 279, 280, 26, 8, 27, 281, 282, 283, 284, 95, 96, 97, 98, 187, 188, 189, 190, 191, 192, 193, 194, 195, 196, 197, 198, 199, 200, 201, 202, 203, 204, 205, 206, 207, 208, 209, 210, 89, 158, 159, 160, 161, 142, 211, 215, 216, 217, 218, 15, 219, 13, 14, 16, 220, 221, 222, 223, 225, 229, 230, 231, 232, 183, 332, 333, 334, 335, 336, 337, 338, 339, 341, 342, 346, 347, 348, 343, 344, 345] (by decide +kernel) (by decide +kernel)
set_option maxRecDepth 20000 in
theorem gX7_drift_X4_dayPasses : GoodIn wsX7_drift (wsV RX7 120 RX4 yX4_dayPasses wsX4_dayPasses) := goodIn_app (goodIn_of _ (by decide +kernel)) ggX7_drift_X4_dayPasses
theorem dX7_drift_0 : decode cX7_drift 0 = .ok (.iload_n 1, 1) := by decide +kernel
theorem dX7_drift_1 : decode cX7_drift 1 = .ok (.iconst 1, 1) := by decide +kernel
theorem dX7_drift_2 : decode cX7_drift 2 = .ok (.if_icmp .lt 20, 3) := by decide +kernel
theorem dX7_drift_5 : decode cX7_drift 5 = .ok (.iload_n 1, 1) := by decide +kernel
theorem dX7_drift_6 : decode cX7_drift 6 = .ok (.bipush 20, 2) := by decide +kernel
theorem dX7_drift_8 : decode cX7_drift 8 = .ok (.if_icmp .gt 14, 3) := by decide +kernel
theorem dX7_drift_11 : decode cX7_drift 11 = .ok (.iload_n 2, 1) := by decide +kernel
theorem dX7_drift_12 : decode cX7_drift 12 = .ok (.iconst 1, 1) := by decide +kernel
theorem dX7_drift_13 : decode cX7_drift 13 = .ok (.if_icmp .lt 9, 3) := by decide +kernel
theorem dX7_drift_16 : decode cX7_drift 16 = .ok (.iload_n 2, 1) := by decide +kernel
theorem dX7_drift_17 : decode cX7_drift 17 = .ok (.ldc 129, 2) := by decide +kernel
theorem dX7_drift_19 : decode cX7_drift 19 = .ok (.if_icmp .le 6, 3) := by decide +kernel
theorem dX7_drift_22 : decode cX7_drift 22 = .ok (.ldc 110, 2) := by decide +kernel
theorem dX7_drift_24 : decode cX7_drift 24 = .ok (.ireturn, 1) := by decide +kernel
theorem dX7_drift_25 : decode cX7_drift 25 = .ok (.aload_n 0, 1) := by decide +kernel
theorem dX7_drift_26 : decode cX7_drift 26 = .ok (.invokevirtual 51, 3) := by decide +kernel
theorem dX7_drift_29 : decode cX7_drift 29 = .ok (.aload_n 0, 1) := by decide +kernel
theorem dX7_drift_30 : decode cX7_drift 30 = .ok (.getfield 31, 3) := by decide +kernel
theorem dX7_drift_33 : decode cX7_drift 33 = .ok (.iload_n 2, 1) := by decide +kernel
theorem dX7_drift_34 : decode cX7_drift 34 = .ok (.invokevirtual 130, 3) := by decide +kernel
theorem dX7_drift_37 : decode cX7_drift 37 = .ok (.iconst 0, 1) := by decide +kernel
theorem dX7_drift_38 : decode cX7_drift 38 = .ok (.istore_n 3, 1) := by decide +kernel
theorem dX7_drift_39 : decode cX7_drift 39 = .ok (.iload_n 3, 1) := by decide +kernel
theorem dX7_drift_40 : decode cX7_drift 40 = .ok (.iload_n 1, 1) := by decide +kernel
theorem dX7_drift_41 : decode cX7_drift 41 = .ok (.if_icmp .ge 73, 3) := by decide +kernel
theorem dX7_drift_44 : decode cX7_drift 44 = .ok (.aload_n 0, 1) := by decide +kernel
theorem dX7_drift_45 : decode cX7_drift 45 = .ok (.getfield 31, 3) := by decide +kernel
theorem dX7_drift_48 : decode cX7_drift 48 = .ok (.iconst 4, 1) := by decide +kernel
theorem dX7_drift_49 : decode cX7_drift 49 = .ok (.invokevirtual 133, 3) := by decide +kernel
theorem dX7_drift_52 : decode cX7_drift 52 = .ok (.tableswitch 49 0 2 #[28, 35, 42], 28) := by decide +kernel
theorem dX7_drift_80 : decode cX7_drift 80 = .ok (.aload_n 0, 1) := by decide +kernel
theorem dX7_drift_81 : decode cX7_drift 81 = .ok (.invokevirtual 136, 3) := by decide +kernel
theorem dX7_drift_84 : decode cX7_drift 84 = .ok (.goto 24, 3) := by decide +kernel
theorem dX7_drift_87 : decode cX7_drift 87 = .ok (.aload_n 0, 1) := by decide +kernel
theorem dX7_drift_88 : decode cX7_drift 88 = .ok (.invokevirtual 139, 3) := by decide +kernel
theorem dX7_drift_91 : decode cX7_drift 91 = .ok (.goto 17, 3) := by decide +kernel
theorem dX7_drift_94 : decode cX7_drift 94 = .ok (.aload_n 0, 1) := by decide +kernel
theorem dX7_drift_95 : decode cX7_drift 95 = .ok (.invokevirtual 142, 3) := by decide +kernel
theorem dX7_drift_98 : decode cX7_drift 98 = .ok (.goto 10, 3) := by decide +kernel
theorem dX7_drift_101 : decode cX7_drift 101 = .ok (.aload_n 0, 1) := by decide +kernel
theorem dX7_drift_102 : decode cX7_drift 102 = .ok (.getfield 10, 3) := by decide +kernel
theorem dX7_drift_105 : decode cX7_drift 105 = .ok (.invokevirtual 120, 3) := by decide +kernel
theorem dX7_drift_108 : decode cX7_drift 108 = .ok (.iinc 3 1, 3) := by decide +kernel
theorem dX7_drift_111 : decode cX7_drift 111 = .ok (.goto (-72), 3) := by decide +kernel
theorem dX7_drift_114 : decode cX7_drift 114 = .ok (.aload_n 0, 1) := by decide +kernel
theorem dX7_drift_115 : decode cX7_drift 115 = .ok (.getfield 10, 3) := by decide +kernel
theorem dX7_drift_118 : decode cX7_drift 118 = .ok (.getfield 111, 3) := by decide +kernel
theorem dX7_drift_121 : decode cX7_drift 121 = .ok (.getfield 115, 3) := by decide +kernel
theorem dX7_drift_124 : decode cX7_drift 124 = .ok (.ireturn, 1) := by decide +kernel
set_option maxRecDepth 20000 in
theorem ggX7_undo_J9_floorMod_7cf53 : GoodIn wsX7_undo wsJ9_floorMod_7cf53 := goodIn_r _ [9] (by decide +kernel) (by decide +kernel)
set_option maxRecDepth 20000 in
theorem gX7_undo_J9_floorMod_7cf53 : GoodIn wsX7_undo (va_wsS RX7 151 yJ9_floorMod_7cf53 wsJ9_floorMod_7cf53) := goodIn_app (goodIn_of _ (by decide +kernel)) ggX7_undo_J9_floorMod_7cf53
theorem dX7_undo_0 : decode cX7_undo 0 = .ok (.aload_n 0, 1) := by decide +kernel
theorem dX7_undo_1 : decode cX7_undo 1 = .ok (.getfield 145, 3) := by decide +kernel
theorem dX7_undo_4 : decode cX7_undo 4 = .ok (.ifCond .gt 6, 3) := by decide +kernel
theorem dX7_undo_7 : decode cX7_undo 7 = .ok (.ldc 90, 2) := by decide +kernel
theorem dX7_undo_9 : decode cX7_undo 9 = .ok (.ireturn, 1) := by decide +kernel
theorem dX7_undo_10 : decode cX7_undo 10 = .ok (.aload_n 0, 1) := by decide +kernel
theorem dX7_undo_11 : decode cX7_undo 11 = .ok (.dup, 1) := by decide +kernel
theorem dX7_undo_12 : decode cX7_undo 12 = .ok (.getfield 145, 3) := by decide +kernel
theorem dX7_undo_15 : decode cX7_undo 15 = .ok (.iconst 1, 1) := by decide +kernel
theorem dX7_undo_16 : decode cX7_undo 16 = .ok (.isub, 1) := by decide +kernel
theorem dX7_undo_17 : decode cX7_undo 17 = .ok (.putfield 145, 3) := by decide +kernel
theorem dX7_undo_20 : decode cX7_undo 20 = .ok (.aload_n 0, 1) := by decide +kernel
theorem dX7_undo_21 : decode cX7_undo 21 = .ok (.aload_n 0, 1) := by decide +kernel
theorem dX7_undo_22 : decode cX7_undo 22 = .ok (.getfield 148, 3) := by decide +kernel
theorem dX7_undo_25 : decode cX7_undo 25 = .ok (.iconst 1, 1) := by decide +kernel
theorem dX7_undo_26 : decode cX7_undo 26 = .ok (.isub, 1) := by decide +kernel
theorem dX7_undo_27 : decode cX7_undo 27 = .ok (.bipush 8, 2) := by decide +kernel
theorem dX7_undo_29 : decode cX7_undo 29 = .ok (.invokestatic 151, 3) := by decide +kernel
theorem dX7_undo_32 : decode cX7_undo 32 = .ok (.putfield 148, 3) := by decide +kernel
theorem dX7_undo_35 : decode cX7_undo 35 = .ok (.aload_n 0, 1) := by decide +kernel
theorem dX7_undo_36 : decode cX7_undo 36 = .ok (.getfield 21, 3) := by decide +kernel
theorem dX7_undo_39 : decode cX7_undo 39 = .ok (.aload_n 0, 1) := by decide +kernel
theorem dX7_undo_40 : decode cX7_undo 40 = .ok (.getfield 148, 3) := by decide +kernel
theorem dX7_undo_43 : decode cX7_undo 43 = .ok (.aload_n 0, 1) := by decide +kernel
theorem dX7_undo_44 : decode cX7_undo 44 = .ok (.getfield 10, 3) := by decide +kernel
theorem dX7_undo_47 : decode cX7_undo 47 = .ok (.invokevirtual 156, 3) := by decide +kernel
theorem dX7_undo_50 : decode cX7_undo 50 = .ok (.aload_n 0, 1) := by decide +kernel
theorem dX7_undo_51 : decode cX7_undo 51 = .ok (.getfield 145, 3) := by decide +kernel
theorem dX7_undo_54 : decode cX7_undo 54 = .ok (.ireturn, 1) := by decide +kernel
set_option maxRecDepth 20000 in
theorem ggX7_told_X1_thatAre : GoodIn wsX7_told wsX1_thatAre := goodIn_r _ [8, 9, 10, 11, 12, 7, 13, 14, 15, 16, 17, 18, 19, 20, 21, 22, 74, 75, 79, 80, 81] (by decide +kernel) (by decide +kernel)
set_option maxRecDepth 20000 in
theorem gX7_told_X1_thatAre : GoodIn wsX7_told (wsV RX7 169 RX1 yX1_thatAre wsX1_thatAre) := goodIn_app (goodIn_of _ (by decide +kernel)) ggX7_told_X1_thatAre
set_option maxRecDepth 20000 in
theorem ggX7_told_X3_waiting : GoodIn wsX7_told wsX3_waiting := goodIn_r _ [27, 28, 29, 30, 31, 26, 32, 33, 34, 16, 17, 18, 19, 20, 21, 22, 76, 77, 78, 79, 80, 81] (by decide +kernel) (by decide +kernel)
set_option maxRecDepth 20000 in
theorem gX7_told_X3_waiting : GoodIn wsX7_told (wsV RX7 173 RX3 yX3_waiting wsX3_waiting) := goodIn_app (goodIn_of _ (by decide +kernel)) ggX7_told_X3_waiting
set_option maxRecDepth 20000 in
theorem ggX7_told_J6_bitCount_0f7a4 : GoodIn wsX7_told wsJ6_bitCount_0f7a4 := goodIn_r _ [38, 39, 40, 41] (by decide +kernel) (by decide +kernel)
set_option maxRecDepth 20000 in
theorem gX7_told_J6_bitCount_0f7a4 : GoodIn wsX7_told (va_wsS RX7 180 yJ6_bitCount_0f7a4 wsJ6_bitCount_0f7a4) := goodIn_app (goodIn_of _ (by decide +kernel)) ggX7_told_J6_bitCount_0f7a4
set_option maxRecDepth 20000 in
theorem ggX7_told_X1_overdue : GoodIn wsX7_told wsX1_overdue := goodIn_r _ [45, 9, 10, 11, 12, 7, 13, 14, 15, 16, 17, 18, 19, 20, 21, 22, 46, 47, 48, 49, 74, 75, 79, 80, 81] (by decide +kernel) (by decide +kernel)
set_option maxRecDepth 20000 in
theorem gX7_told_X1_overdue : GoodIn wsX7_told (wsV RX7 185 RX1 yX1_overdue wsX1_overdue) := goodIn_app (goodIn_of _ (by decide +kernel)) ggX7_told_X1_overdue
set_option maxRecDepth 20000 in
theorem ggX7_told_X0_isClosed : GoodIn wsX7_told wsX0_isClosed := goodIn_r _ [54, 55, 56, 57, 58, 59, 70, 71, 72, 73] (by decide +kernel) (by decide +kernel)
set_option maxRecDepth 20000 in
theorem gX7_told_X0_isClosed : GoodIn wsX7_told (wsV RX7 188 RX0 yX0_isClosed wsX0_isClosed) := goodIn_app (goodIn_of _ (by decide +kernel)) ggX7_told_X0_isClosed
theorem dX7_told_0 : decode cX7_told 0 = .ok (.iload_n 1, 1) := by decide +kernel
theorem dX7_told_1 : decode cX7_told 1 = .ok (.tableswitch 282 0 15 #[79, 90, 101, 112, 123, 134, 146, 158, 170, 182, 194, 205, 216, 227, 248, 277], 79) := by decide +kernel
theorem dX7_told_80 : decode cX7_told 80 = .ok (.aload_n 0, 1) := by decide +kernel
theorem dX7_told_81 : decode cX7_told 81 = .ok (.getfield 10, 3) := by decide +kernel
theorem dX7_told_84 : decode cX7_told 84 = .ok (.getfield 111, 3) := by decide +kernel
theorem dX7_told_87 : decode cX7_told 87 = .ok (.getfield 115, 3) := by decide +kernel
theorem dX7_told_90 : decode cX7_told 90 = .ok (.ireturn, 1) := by decide +kernel
theorem dX7_told_91 : decode cX7_told 91 = .ok (.aload_n 0, 1) := by decide +kernel
theorem dX7_told_92 : decode cX7_told 92 = .ok (.getfield 10, 3) := by decide +kernel
theorem dX7_told_95 : decode cX7_told 95 = .ok (.getfield 111, 3) := by decide +kernel
theorem dX7_told_98 : decode cX7_told 98 = .ok (.getfield 160, 3) := by decide +kernel
theorem dX7_told_101 : decode cX7_told 101 = .ok (.ireturn, 1) := by decide +kernel
theorem dX7_told_102 : decode cX7_told 102 = .ok (.aload_n 0, 1) := by decide +kernel
theorem dX7_told_103 : decode cX7_told 103 = .ok (.getfield 10, 3) := by decide +kernel
theorem dX7_told_106 : decode cX7_told 106 = .ok (.getfield 111, 3) := by decide +kernel
theorem dX7_told_109 : decode cX7_told 109 = .ok (.getfield 163, 3) := by decide +kernel
theorem dX7_told_112 : decode cX7_told 112 = .ok (.ireturn, 1) := by decide +kernel
theorem dX7_told_113 : decode cX7_told 113 = .ok (.aload_n 0, 1) := by decide +kernel
theorem dX7_told_114 : decode cX7_told 114 = .ok (.getfield 10, 3) := by decide +kernel
theorem dX7_told_117 : decode cX7_told 117 = .ok (.getfield 111, 3) := by decide +kernel
theorem dX7_told_120 : decode cX7_told 120 = .ok (.getfield 166, 3) := by decide +kernel
theorem dX7_told_123 : decode cX7_told 123 = .ok (.ireturn, 1) := by decide +kernel
theorem dX7_told_124 : decode cX7_told 124 = .ok (.aload_n 0, 1) := by decide +kernel
theorem dX7_told_125 : decode cX7_told 125 = .ok (.getfield 10, 3) := by decide +kernel
theorem dX7_told_128 : decode cX7_told 128 = .ok (.getfield 40, 3) := by decide +kernel
theorem dX7_told_131 : decode cX7_told 131 = .ok (.getfield 44, 3) := by decide +kernel
theorem dX7_told_134 : decode cX7_told 134 = .ok (.ireturn, 1) := by decide +kernel
theorem dX7_told_135 : decode cX7_told 135 = .ok (.aload_n 0, 1) := by decide +kernel
theorem dX7_told_136 : decode cX7_told 136 = .ok (.getfield 10, 3) := by decide +kernel
theorem dX7_told_139 : decode cX7_told 139 = .ok (.getfield 40, 3) := by decide +kernel
theorem dX7_told_142 : decode cX7_told 142 = .ok (.iconst 0, 1) := by decide +kernel
theorem dX7_told_143 : decode cX7_told 143 = .ok (.invokevirtual 169, 3) := by decide +kernel
theorem dX7_told_146 : decode cX7_told 146 = .ok (.ireturn, 1) := by decide +kernel
theorem dX7_told_147 : decode cX7_told 147 = .ok (.aload_n 0, 1) := by decide +kernel
theorem dX7_told_148 : decode cX7_told 148 = .ok (.getfield 10, 3) := by decide +kernel
theorem dX7_told_151 : decode cX7_told 151 = .ok (.getfield 40, 3) := by decide +kernel
theorem dX7_told_154 : decode cX7_told 154 = .ok (.iconst 1, 1) := by decide +kernel
theorem dX7_told_155 : decode cX7_told 155 = .ok (.invokevirtual 169, 3) := by decide +kernel
theorem dX7_told_158 : decode cX7_told 158 = .ok (.ireturn, 1) := by decide +kernel
theorem dX7_told_159 : decode cX7_told 159 = .ok (.aload_n 0, 1) := by decide +kernel
theorem dX7_told_160 : decode cX7_told 160 = .ok (.getfield 10, 3) := by decide +kernel
theorem dX7_told_163 : decode cX7_told 163 = .ok (.getfield 40, 3) := by decide +kernel
theorem dX7_told_166 : decode cX7_told 166 = .ok (.iconst 2, 1) := by decide +kernel
theorem dX7_told_167 : decode cX7_told 167 = .ok (.invokevirtual 169, 3) := by decide +kernel
theorem dX7_told_170 : decode cX7_told 170 = .ok (.ireturn, 1) := by decide +kernel
theorem dX7_told_171 : decode cX7_told 171 = .ok (.aload_n 0, 1) := by decide +kernel
theorem dX7_told_172 : decode cX7_told 172 = .ok (.getfield 10, 3) := by decide +kernel
theorem dX7_told_175 : decode cX7_told 175 = .ok (.getfield 40, 3) := by decide +kernel
theorem dX7_told_178 : decode cX7_told 178 = .ok (.iconst 3, 1) := by decide +kernel
theorem dX7_told_179 : decode cX7_told 179 = .ok (.invokevirtual 169, 3) := by decide +kernel
theorem dX7_told_182 : decode cX7_told 182 = .ok (.ireturn, 1) := by decide +kernel
theorem dX7_told_183 : decode cX7_told 183 = .ok (.aload_n 0, 1) := by decide +kernel
theorem dX7_told_184 : decode cX7_told 184 = .ok (.getfield 10, 3) := by decide +kernel
theorem dX7_told_187 : decode cX7_told 187 = .ok (.getfield 40, 3) := by decide +kernel
theorem dX7_told_190 : decode cX7_told 190 = .ok (.iconst 4, 1) := by decide +kernel
theorem dX7_told_191 : decode cX7_told 191 = .ok (.invokevirtual 169, 3) := by decide +kernel
theorem dX7_told_194 : decode cX7_told 194 = .ok (.ireturn, 1) := by decide +kernel
theorem dX7_told_195 : decode cX7_told 195 = .ok (.aload_n 0, 1) := by decide +kernel
theorem dX7_told_196 : decode cX7_told 196 = .ok (.getfield 10, 3) := by decide +kernel
theorem dX7_told_199 : decode cX7_told 199 = .ok (.getfield 78, 3) := by decide +kernel
theorem dX7_told_202 : decode cX7_told 202 = .ok (.getfield 172, 3) := by decide +kernel
theorem dX7_told_205 : decode cX7_told 205 = .ok (.ireturn, 1) := by decide +kernel
theorem dX7_told_206 : decode cX7_told 206 = .ok (.aload_n 0, 1) := by decide +kernel
theorem dX7_told_207 : decode cX7_told 207 = .ok (.getfield 10, 3) := by decide +kernel
theorem dX7_told_210 : decode cX7_told 210 = .ok (.getfield 78, 3) := by decide +kernel
theorem dX7_told_213 : decode cX7_told 213 = .ok (.invokevirtual 173, 3) := by decide +kernel
theorem dX7_told_216 : decode cX7_told 216 = .ok (.ireturn, 1) := by decide +kernel
theorem dX7_told_217 : decode cX7_told 217 = .ok (.aload_n 0, 1) := by decide +kernel
end
section
theorem dX7_told_218 : decode cX7_told 218 = .ok (.getfield 10, 3) := by decide +kernel
theorem dX7_told_221 : decode cX7_told 221 = .ok (.getfield 177, 3) := by decide +kernel
theorem dX7_told_224 : decode cX7_told 224 = .ok (.invokestatic 180, 3) := by decide +kernel
theorem dX7_told_227 : decode cX7_told 227 = .ok (.ireturn, 1) := by decide +kernel
theorem dX7_told_228 : decode cX7_told 228 = .ok (.aload_n 0, 1) := by decide +kernel
theorem dX7_told_229 : decode cX7_told 229 = .ok (.getfield 10, 3) := by decide +kernel
theorem dX7_told_232 : decode cX7_told 232 = .ok (.getfield 40, 3) := by decide +kernel
theorem dX7_told_235 : decode cX7_told 235 = .ok (.aload_n 0, 1) := by decide +kernel
theorem dX7_told_236 : decode cX7_told 236 = .ok (.getfield 10, 3) := by decide +kernel
theorem dX7_told_239 : decode cX7_told 239 = .ok (.getfield 111, 3) := by decide +kernel
theorem dX7_told_242 : decode cX7_told 242 = .ok (.getfield 115, 3) := by decide +kernel
theorem dX7_told_245 : decode cX7_told 245 = .ok (.invokevirtual 185, 3) := by decide +kernel
theorem dX7_told_248 : decode cX7_told 248 = .ok (.ireturn, 1) := by decide +kernel
theorem dX7_told_249 : decode cX7_told 249 = .ok (.aload_n 0, 1) := by decide +kernel
theorem dX7_told_250 : decode cX7_told 250 = .ok (.getfield 10, 3) := by decide +kernel
theorem dX7_told_253 : decode cX7_told 253 = .ok (.getfield 111, 3) := by decide +kernel
theorem dX7_told_256 : decode cX7_told 256 = .ok (.aload_n 0, 1) := by decide +kernel
theorem dX7_told_257 : decode cX7_told 257 = .ok (.getfield 10, 3) := by decide +kernel
theorem dX7_told_260 : decode cX7_told 260 = .ok (.getfield 111, 3) := by decide +kernel
theorem dX7_told_263 : decode cX7_told 263 = .ok (.getfield 115, 3) := by decide +kernel
theorem dX7_told_266 : decode cX7_told 266 = .ok (.invokevirtual 188, 3) := by decide +kernel
theorem dX7_told_269 : decode cX7_told 269 = .ok (.ifCond .eq 7, 3) := by decide +kernel
theorem dX7_told_272 : decode cX7_told 272 = .ok (.iconst 1, 1) := by decide +kernel
theorem dX7_told_273 : decode cX7_told 273 = .ok (.goto 4, 3) := by decide +kernel
theorem dX7_told_276 : decode cX7_told 276 = .ok (.iconst 0, 1) := by decide +kernel
theorem dX7_told_277 : decode cX7_told 277 = .ok (.ireturn, 1) := by decide +kernel
theorem dX7_told_278 : decode cX7_told 278 = .ok (.aload_n 0, 1) := by decide +kernel
theorem dX7_told_279 : decode cX7_told 279 = .ok (.getfield 145, 3) := by decide +kernel
theorem dX7_told_282 : decode cX7_told 282 = .ok (.ireturn, 1) := by decide +kernel
theorem dX7_told_283 : decode cX7_told 283 = .ok (.ldc 110, 2) := by decide +kernel
theorem dX7_told_285 : decode cX7_told 285 = .ok (.ireturn, 1) := by decide +kernel
set_option maxRecDepth 20000 in
theorem ggX7_copyOf_X7_isCopy : GoodIn wsX7_copyOf wsX7_isCopy := goodIn_r _ [8, 2, 9, 10, 7, 11, 52, 53, 54, 55, 56, 57, 58, 59, 60, 61, 66, 67] (by decide +kernel) (by decide +kernel)
set_option maxRecDepth 20000 in
theorem gX7_copyOf_X7_isCopy : GoodIn wsX7_copyOf (wsV RX7 70 RX7 yX7_isCopy wsX7_isCopy) := goodIn_app (goodIn_of _ (by decide +kernel)) ggX7_copyOf_X7_isCopy
theorem dX7_copyOf_0 : decode cX7_copyOf 0 = .ok (.aload_n 0, 1) := by decide +kernel
theorem dX7_copyOf_1 : decode cX7_copyOf 1 = .ok (.iload_n 1, 1) := by decide +kernel
theorem dX7_copyOf_2 : decode cX7_copyOf 2 = .ok (.invokevirtual 70, 3) := by decide +kernel
theorem dX7_copyOf_5 : decode cX7_copyOf 5 = .ok (.ifCond .ne 6, 3) := by decide +kernel
theorem dX7_copyOf_8 : decode cX7_copyOf 8 = .ok (.ldc 39, 2) := by decide +kernel
theorem dX7_copyOf_10 : decode cX7_copyOf 10 = .ok (.ireturn, 1) := by decide +kernel
theorem dX7_copyOf_11 : decode cX7_copyOf 11 = .ok (.iload_n 2, 1) := by decide +kernel
theorem dX7_copyOf_12 : decode cX7_copyOf 12 = .ok (.tableswitch 122 0 5 #[40, 52, 64, 76, 88, 100], 40) := by decide +kernel
theorem dX7_copyOf_52 : decode cX7_copyOf 52 = .ok (.aload_n 0, 1) := by decide +kernel
theorem dX7_copyOf_53 : decode cX7_copyOf 53 = .ok (.getfield 10, 3) := by decide +kernel
theorem dX7_copyOf_56 : decode cX7_copyOf 56 = .ok (.getfield 40, 3) := by decide +kernel
theorem dX7_copyOf_59 : decode cX7_copyOf 59 = .ok (.iload_n 1, 1) := by decide +kernel
theorem dX7_copyOf_60 : decode cX7_copyOf 60 = .ok (.invokevirtual 82, 3) := by decide +kernel
theorem dX7_copyOf_63 : decode cX7_copyOf 63 = .ok (.ireturn, 1) := by decide +kernel
theorem dX7_copyOf_64 : decode cX7_copyOf 64 = .ok (.aload_n 0, 1) := by decide +kernel
theorem dX7_copyOf_65 : decode cX7_copyOf 65 = .ok (.getfield 10, 3) := by decide +kernel
theorem dX7_copyOf_68 : decode cX7_copyOf 68 = .ok (.getfield 40, 3) := by decide +kernel
theorem dX7_copyOf_71 : decode cX7_copyOf 71 = .ok (.iload_n 1, 1) := by decide +kernel
theorem dX7_copyOf_72 : decode cX7_copyOf 72 = .ok (.invokevirtual 191, 3) := by decide +kernel
theorem dX7_copyOf_75 : decode cX7_copyOf 75 = .ok (.ireturn, 1) := by decide +kernel
theorem dX7_copyOf_76 : decode cX7_copyOf 76 = .ok (.aload_n 0, 1) := by decide +kernel
theorem dX7_copyOf_77 : decode cX7_copyOf 77 = .ok (.getfield 10, 3) := by decide +kernel
theorem dX7_copyOf_80 : decode cX7_copyOf 80 = .ok (.getfield 40, 3) := by decide +kernel
theorem dX7_copyOf_83 : decode cX7_copyOf 83 = .ok (.iload_n 1, 1) := by decide +kernel
theorem dX7_copyOf_84 : decode cX7_copyOf 84 = .ok (.invokevirtual 74, 3) := by decide +kernel
theorem dX7_copyOf_87 : decode cX7_copyOf 87 = .ok (.ireturn, 1) := by decide +kernel
theorem dX7_copyOf_88 : decode cX7_copyOf 88 = .ok (.aload_n 0, 1) := by decide +kernel
theorem dX7_copyOf_89 : decode cX7_copyOf 89 = .ok (.getfield 10, 3) := by decide +kernel
theorem dX7_copyOf_92 : decode cX7_copyOf 92 = .ok (.getfield 40, 3) := by decide +kernel
theorem dX7_copyOf_95 : decode cX7_copyOf 95 = .ok (.iload_n 1, 1) := by decide +kernel
theorem dX7_copyOf_96 : decode cX7_copyOf 96 = .ok (.invokevirtual 194, 3) := by decide +kernel
theorem dX7_copyOf_99 : decode cX7_copyOf 99 = .ok (.ireturn, 1) := by decide +kernel
theorem dX7_copyOf_100 : decode cX7_copyOf 100 = .ok (.aload_n 0, 1) := by decide +kernel
theorem dX7_copyOf_101 : decode cX7_copyOf 101 = .ok (.getfield 10, 3) := by decide +kernel
theorem dX7_copyOf_104 : decode cX7_copyOf 104 = .ok (.getfield 40, 3) := by decide +kernel
theorem dX7_copyOf_107 : decode cX7_copyOf 107 = .ok (.iload_n 1, 1) := by decide +kernel
theorem dX7_copyOf_108 : decode cX7_copyOf 108 = .ok (.invokevirtual 197, 3) := by decide +kernel
theorem dX7_copyOf_111 : decode cX7_copyOf 111 = .ok (.ireturn, 1) := by decide +kernel
theorem dX7_copyOf_112 : decode cX7_copyOf 112 = .ok (.aload_n 0, 1) := by decide +kernel
theorem dX7_copyOf_113 : decode cX7_copyOf 113 = .ok (.getfield 10, 3) := by decide +kernel
theorem dX7_copyOf_116 : decode cX7_copyOf 116 = .ok (.getfield 40, 3) := by decide +kernel
theorem dX7_copyOf_119 : decode cX7_copyOf 119 = .ok (.iload_n 1, 1) := by decide +kernel
theorem dX7_copyOf_120 : decode cX7_copyOf 120 = .ok (.aload_n 0, 1) := by decide +kernel
theorem dX7_copyOf_121 : decode cX7_copyOf 121 = .ok (.getfield 10, 3) := by decide +kernel
theorem dX7_copyOf_124 : decode cX7_copyOf 124 = .ok (.getfield 111, 3) := by decide +kernel
theorem dX7_copyOf_127 : decode cX7_copyOf 127 = .ok (.getfield 115, 3) := by decide +kernel
theorem dX7_copyOf_130 : decode cX7_copyOf 130 = .ok (.invokevirtual 200, 3) := by decide +kernel
theorem dX7_copyOf_133 : decode cX7_copyOf 133 = .ok (.ireturn, 1) := by decide +kernel
theorem dX7_copyOf_134 : decode cX7_copyOf 134 = .ok (.ldc 110, 2) := by decide +kernel
theorem dX7_copyOf_136 : decode cX7_copyOf 136 = .ok (.ireturn, 1) := by decide +kernel
set_option maxRecDepth 20000 in
theorem ggX7_holdOf_X3_slotOf : GoodIn wsX7_holdOf wsX3_slotOf := goodIn_r _ [8, 9, 10, 11, 12, 7, 13, 14, 15, 16, 17, 18, 19, 20, 21, 22, 122, 123, 124, 125, 126, 127] (by decide +kernel) (by decide +kernel)
set_option maxRecDepth 20000 in
theorem gX7_holdOf_X3_slotOf : GoodIn wsX7_holdOf (wsV RX7 104 RX3 yX3_slotOf wsX3_slotOf) := goodIn_app (goodIn_of _ (by decide +kernel)) ggX7_holdOf_X3_slotOf
set_option maxRecDepth 20000 in
theorem ggX7_holdOf_X3_reader : GoodIn wsX7_holdOf wsX3_reader := goodIn_r _ [26, 14, 15, 16, 17, 18, 19, 20, 21, 22, 122, 123, 124, 125, 126, 127] (by decide +kernel) (by decide +kernel)
set_option maxRecDepth 20000 in
theorem gX7_holdOf_X3_reader : GoodIn wsX7_holdOf (wsV RX7 203 RX3 yX3_reader wsX3_reader) := goodIn_app (goodIn_of _ (by decide +kernel)) ggX7_holdOf_X3_reader
set_option maxRecDepth 20000 in
theorem ggX7_holdOf_X3_title : GoodIn wsX7_holdOf wsX3_title := goodIn_r _ [30, 14, 15, 16, 17, 18, 19, 20, 21, 22, 122, 123, 124, 125, 126, 127] (by decide +kernel) (by decide +kernel)
set_option maxRecDepth 20000 in
theorem gX7_holdOf_X3_title : GoodIn wsX7_holdOf (wsV RX7 206 RX3 yX3_title wsX3_title) := goodIn_app (goodIn_of _ (by decide +kernel)) ggX7_holdOf_X3_title
set_option maxRecDepth 20000 in
theorem ggX7_holdOf_X3_branch : GoodIn wsX7_holdOf wsX3_branch := goodIn_r _ [34, 14, 15, 16, 17, 18, 19, 20, 21, 22, 122, 123, 124, 125, 126, 127] (by decide +kernel) (by decide +kernel)
set_option maxRecDepth 20000 in
theorem gX7_holdOf_X3_branch : GoodIn wsX7_holdOf (wsV RX7 207 RX3 yX3_branch wsX3_branch) := goodIn_app (goodIn_of _ (by decide +kernel)) ggX7_holdOf_X3_branch
set_option maxRecDepth 20000 in
theorem ggX7_holdOf_X3_need : GoodIn wsX7_holdOf wsX3_need := goodIn_r _ [38, 14, 15, 16, 17, 18, 19, 20, 21, 22, 122, 123, 124, 125, 126, 127] (by decide +kernel) (by decide +kernel)
set_option maxRecDepth 20000 in
theorem gX7_holdOf_X3_need : GoodIn wsX7_holdOf (wsV RX7 208 RX3 yX3_need wsX3_need) := goodIn_app (goodIn_of _ (by decide +kernel)) ggX7_holdOf_X3_need
theorem dX7_holdOf_0 : decode cX7_holdOf 0 = .ok (.aload_n 0, 1) := by decide +kernel
theorem dX7_holdOf_1 : decode cX7_holdOf 1 = .ok (.getfield 10, 3) := by decide +kernel
theorem dX7_holdOf_4 : decode cX7_holdOf 4 = .ok (.getfield 78, 3) := by decide +kernel
theorem dX7_holdOf_7 : decode cX7_holdOf 7 = .ok (.iload_n 1, 1) := by decide +kernel
theorem dX7_holdOf_8 : decode cX7_holdOf 8 = .ok (.invokevirtual 104, 3) := by decide +kernel
theorem dX7_holdOf_11 : decode cX7_holdOf 11 = .ok (.istore_n 3, 1) := by decide +kernel
theorem dX7_holdOf_12 : decode cX7_holdOf 12 = .ok (.iload_n 3, 1) := by decide +kernel
theorem dX7_holdOf_13 : decode cX7_holdOf 13 = .ok (.iconst (-1), 1) := by decide +kernel
theorem dX7_holdOf_14 : decode cX7_holdOf 14 = .ok (.if_icmp .ne 6, 3) := by decide +kernel
theorem dX7_holdOf_17 : decode cX7_holdOf 17 = .ok (.ldc 39, 2) := by decide +kernel
theorem dX7_holdOf_19 : decode cX7_holdOf 19 = .ok (.ireturn, 1) := by decide +kernel
theorem dX7_holdOf_20 : decode cX7_holdOf 20 = .ok (.iload_n 2, 1) := by decide +kernel
theorem dX7_holdOf_21 : decode cX7_holdOf 21 = .ok (.tableswitch 153 0 8 #[51, 63, 75, 87, 99, 111, 120, 132, 144], 51) := by decide +kernel
theorem dX7_holdOf_72 : decode cX7_holdOf 72 = .ok (.aload_n 0, 1) := by decide +kernel
theorem dX7_holdOf_73 : decode cX7_holdOf 73 = .ok (.getfield 10, 3) := by decide +kernel
theorem dX7_holdOf_76 : decode cX7_holdOf 76 = .ok (.getfield 78, 3) := by decide +kernel
theorem dX7_holdOf_79 : decode cX7_holdOf 79 = .ok (.iload_n 3, 1) := by decide +kernel
theorem dX7_holdOf_80 : decode cX7_holdOf 80 = .ok (.invokevirtual 203, 3) := by decide +kernel
theorem dX7_holdOf_83 : decode cX7_holdOf 83 = .ok (.ireturn, 1) := by decide +kernel
theorem dX7_holdOf_84 : decode cX7_holdOf 84 = .ok (.aload_n 0, 1) := by decide +kernel
theorem dX7_holdOf_85 : decode cX7_holdOf 85 = .ok (.getfield 10, 3) := by decide +kernel
theorem dX7_holdOf_88 : decode cX7_holdOf 88 = .ok (.getfield 78, 3) := by decide +kernel
theorem dX7_holdOf_91 : decode cX7_holdOf 91 = .ok (.iload_n 3, 1) := by decide +kernel
theorem dX7_holdOf_92 : decode cX7_holdOf 92 = .ok (.invokevirtual 206, 3) := by decide +kernel
theorem dX7_holdOf_95 : decode cX7_holdOf 95 = .ok (.ireturn, 1) := by decide +kernel
theorem dX7_holdOf_96 : decode cX7_holdOf 96 = .ok (.aload_n 0, 1) := by decide +kernel
theorem dX7_holdOf_97 : decode cX7_holdOf 97 = .ok (.getfield 10, 3) := by decide +kernel
theorem dX7_holdOf_100 : decode cX7_holdOf 100 = .ok (.getfield 78, 3) := by decide +kernel
theorem dX7_holdOf_103 : decode cX7_holdOf 103 = .ok (.iload_n 3, 1) := by decide +kernel
theorem dX7_holdOf_104 : decode cX7_holdOf 104 = .ok (.invokevirtual 207, 3) := by decide +kernel
theorem dX7_holdOf_107 : decode cX7_holdOf 107 = .ok (.ireturn, 1) := by decide +kernel
theorem dX7_holdOf_108 : decode cX7_holdOf 108 = .ok (.aload_n 0, 1) := by decide +kernel
theorem dX7_holdOf_109 : decode cX7_holdOf 109 = .ok (.getfield 10, 3) := by decide +kernel
theorem dX7_holdOf_112 : decode cX7_holdOf 112 = .ok (.getfield 78, 3) := by decide +kernel
theorem dX7_holdOf_115 : decode cX7_holdOf 115 = .ok (.iload_n 3, 1) := by decide +kernel
theorem dX7_holdOf_116 : decode cX7_holdOf 116 = .ok (.invokevirtual 208, 3) := by decide +kernel
theorem dX7_holdOf_119 : decode cX7_holdOf 119 = .ok (.ireturn, 1) := by decide +kernel
theorem dX7_holdOf_120 : decode cX7_holdOf 120 = .ok (.aload_n 0, 1) := by decide +kernel
theorem dX7_holdOf_121 : decode cX7_holdOf 121 = .ok (.getfield 10, 3) := by decide +kernel
theorem dX7_holdOf_124 : decode cX7_holdOf 124 = .ok (.getfield 78, 3) := by decide +kernel
theorem dX7_holdOf_127 : decode cX7_holdOf 127 = .ok (.iload_n 3, 1) := by decide +kernel
theorem dX7_holdOf_128 : decode cX7_holdOf 128 = .ok (.invokevirtual 211, 3) := by decide +kernel
theorem dX7_holdOf_131 : decode cX7_holdOf 131 = .ok (.ireturn, 1) := by decide +kernel
theorem dX7_holdOf_132 : decode cX7_holdOf 132 = .ok (.aload_n 0, 1) := by decide +kernel
theorem dX7_holdOf_133 : decode cX7_holdOf 133 = .ok (.getfield 10, 3) := by decide +kernel
theorem dX7_holdOf_136 : decode cX7_holdOf 136 = .ok (.iload_n 3, 1) := by decide +kernel
theorem dX7_holdOf_137 : decode cX7_holdOf 137 = .ok (.invokevirtual 214, 3) := by decide +kernel
theorem dX7_holdOf_140 : decode cX7_holdOf 140 = .ok (.ireturn, 1) := by decide +kernel
theorem dX7_holdOf_141 : decode cX7_holdOf 141 = .ok (.aload_n 0, 1) := by decide +kernel
theorem dX7_holdOf_142 : decode cX7_holdOf 142 = .ok (.getfield 10, 3) := by decide +kernel
theorem dX7_holdOf_145 : decode cX7_holdOf 145 = .ok (.getfield 78, 3) := by decide +kernel
theorem dX7_holdOf_148 : decode cX7_holdOf 148 = .ok (.iload_n 3, 1) := by decide +kernel
theorem dX7_holdOf_149 : decode cX7_holdOf 149 = .ok (.invokevirtual 217, 3) := by decide +kernel
theorem dX7_holdOf_152 : decode cX7_holdOf 152 = .ok (.ireturn, 1) := by decide +kernel
theorem dX7_holdOf_153 : decode cX7_holdOf 153 = .ok (.aload_n 0, 1) := by decide +kernel
theorem dX7_holdOf_154 : decode cX7_holdOf 154 = .ok (.getfield 10, 3) := by decide +kernel
theorem dX7_holdOf_157 : decode cX7_holdOf 157 = .ok (.getfield 78, 3) := by decide +kernel
theorem dX7_holdOf_160 : decode cX7_holdOf 160 = .ok (.iload_n 3, 1) := by decide +kernel
theorem dX7_holdOf_161 : decode cX7_holdOf 161 = .ok (.invokevirtual 220, 3) := by decide +kernel
theorem dX7_holdOf_164 : decode cX7_holdOf 164 = .ok (.ireturn, 1) := by decide +kernel
theorem dX7_holdOf_165 : decode cX7_holdOf 165 = .ok (.aload_n 0, 1) := by decide +kernel
theorem dX7_holdOf_166 : decode cX7_holdOf 166 = .ok (.getfield 10, 3) := by decide +kernel
theorem dX7_holdOf_169 : decode cX7_holdOf 169 = .ok (.iload_n 3, 1) := by decide +kernel
theorem dX7_holdOf_170 : decode cX7_holdOf 170 = .ok (.invokevirtual 223, 3) := by decide +kernel
theorem dX7_holdOf_173 : decode cX7_holdOf 173 = .ok (.ireturn, 1) := by decide +kernel
theorem dX7_holdOf_174 : decode cX7_holdOf 174 = .ok (.ldc 110, 2) := by decide +kernel
theorem dX7_holdOf_176 : decode cX7_holdOf 176 = .ok (.ireturn, 1) := by decide +kernel
set_option maxRecDepth 20000 in
theorem ggX7_titleOf_X7_isBelow : GoodIn wsX7_titleOf wsX7_isBelow := goodIn_r _ [7] (by decide +kernel) (by decide +kernel)
set_option maxRecDepth 20000 in
theorem gX7_titleOf_X7_isBelow : GoodIn wsX7_titleOf (va_wsS RX7 35 yX7_isBelow wsX7_isBelow) := goodIn_app (goodIn_of _ (by decide +kernel)) ggX7_titleOf_X7_isBelow
set_option maxRecDepth 20000 in
theorem ggX7_titleOf_X1_ofTitle : GoodIn wsX7_titleOf wsX1_ofTitle := goodIn_r _ [12, 13, 14, 15, 16, 11, 17, 18, 19, 20, 21, 22, 23, 24, 25, 26, 85, 86, 87, 88, 89] (by decide +kernel) (by decide +kernel)
set_option maxRecDepth 20000 in
theorem gX7_titleOf_X1_ofTitle : GoodIn wsX7_titleOf (wsV RX7 226 RX1 yX1_ofTitle wsX1_ofTitle) := goodIn_app (goodIn_of _ (by decide +kernel)) ggX7_titleOf_X1_ofTitle
set_option maxRecDepth 20000 in
theorem ggX7_titleOf_X1_thatAre : GoodIn wsX7_titleOf wsX1_thatAre := goodIn_r _ [30, 13, 31, 32, 33, 11, 34, 18, 19, 20, 21, 22, 23, 24, 25, 26, 85, 86, 87, 88, 89] (by decide +kernel) (by decide +kernel)
set_option maxRecDepth 20000 in
theorem gX7_titleOf_X1_thatAre : GoodIn wsX7_titleOf (wsV RX7 169 RX1 yX1_thatAre wsX1_thatAre) := goodIn_app (goodIn_of _ (by decide +kernel)) ggX7_titleOf_X1_thatAre
set_option maxRecDepth 20000 in
theorem ggX7_titleOf_X3_rowLength : GoodIn wsX7_titleOf wsX3_rowLength := goodIn_r _ [39, 40, 41, 42, 43, 38, 44, 45, 46, 20, 21, 22, 23, 24, 25, 26, 90, 91, 92, 87, 88, 89] (by decide +kernel) (by decide +kernel)
set_option maxRecDepth 20000 in
theorem gX7_titleOf_X3_rowLength : GoodIn wsX7_titleOf (wsV RX7 85 RX3 yX3_rowLength wsX3_rowLength) := goodIn_app (goodIn_of _ (by decide +kernel)) ggX7_titleOf_X3_rowLength
set_option maxRecDepth 20000 in
theorem ggX7_titleOf_X3_firstOfRow : GoodIn wsX7_titleOf wsX3_firstOfRow := goodIn_r _ [50, 40, 41, 42, 43, 38, 44, 45, 46, 20, 21, 22, 23, 24, 25, 26, 51, 52, 53, 54, 90, 91, 92, 87, 88, 89] (by decide +kernel) (by decide +kernel)
set_option maxRecDepth 20000 in
theorem gX7_titleOf_X3_firstOfRow : GoodIn wsX7_titleOf (wsV RX7 229 RX3 yX3_firstOfRow wsX3_firstOfRow) := goodIn_app (goodIn_of _ (by decide +kernel)) ggX7_titleOf_X3_firstOfRow
set_option maxRecDepth 20000 in
theorem ggX7_titleOf_X3_number : GoodIn wsX7_titleOf wsX3_number := goodIn_r _ [58, 45, 46, 20, 21, 22, 23, 24, 25, 26, 90, 91, 92, 87, 88, 89] (by decide +kernel) (by decide +kernel)
set_option maxRecDepth 20000 in
theorem gX7_titleOf_X3_number : GoodIn wsX7_titleOf (wsV RX7 232 RX3 yX3_number wsX3_number) := goodIn_app (goodIn_of _ (by decide +kernel)) ggX7_titleOf_X3_number
set_option maxRecDepth 20000 in
theorem ggX7_titleOf_X3_longestWait : GoodIn wsX7_titleOf wsX3_longestWait := goodIn_r _ [62, 40, 63, 64, 65, 66, 41, 42, 43, 38, 44, 45, 46, 20, 21, 22, 23, 24, 25, 26, 67, 68, 69, 70, 90, 91, 92, 87, 88, 89] (by decide +kernel) (by decide +kernel)
set_option maxRecDepth 20000 in
theorem gX7_titleOf_X3_longestWait : GoodIn wsX7_titleOf (wsV RX7 235 RX3 yX3_longestWait wsX3_longestWait) := goodIn_app (goodIn_of _ (by decide +kernel)) ggX7_titleOf_X3_longestWait
theorem dX7_titleOf_0 : decode cX7_titleOf 0 = .ok (.iload_n 1, 1) := by decide +kernel
theorem dX7_titleOf_1 : decode cX7_titleOf 1 = .ok (.bipush 6, 2) := by decide +kernel
theorem dX7_titleOf_3 : decode cX7_titleOf 3 = .ok (.invokestatic 35, 3) := by decide +kernel
theorem dX7_titleOf_6 : decode cX7_titleOf 6 = .ok (.ifCond .ne 6, 3) := by decide +kernel
theorem dX7_titleOf_9 : decode cX7_titleOf 9 = .ok (.ldc 39, 2) := by decide +kernel
theorem dX7_titleOf_11 : decode cX7_titleOf 11 = .ok (.ireturn, 1) := by decide +kernel
theorem dX7_titleOf_12 : decode cX7_titleOf 12 = .ok (.iload_n 2, 1) := by decide +kernel
theorem dX7_titleOf_13 : decode cX7_titleOf 13 = .ok (.tableswitch 127 0 4 #[35, 47, 71, 83, 105], 35) := by decide +kernel
theorem dX7_titleOf_48 : decode cX7_titleOf 48 = .ok (.aload_n 0, 1) := by decide +kernel
theorem dX7_titleOf_49 : decode cX7_titleOf 49 = .ok (.getfield 10, 3) := by decide +kernel
theorem dX7_titleOf_52 : decode cX7_titleOf 52 = .ok (.getfield 40, 3) := by decide +kernel
theorem dX7_titleOf_55 : decode cX7_titleOf 55 = .ok (.iload_n 1, 1) := by decide +kernel
theorem dX7_titleOf_56 : decode cX7_titleOf 56 = .ok (.invokevirtual 226, 3) := by decide +kernel
theorem dX7_titleOf_59 : decode cX7_titleOf 59 = .ok (.ireturn, 1) := by decide +kernel
theorem dX7_titleOf_60 : decode cX7_titleOf 60 = .ok (.aload_n 0, 1) := by decide +kernel
theorem dX7_titleOf_61 : decode cX7_titleOf 61 = .ok (.getfield 10, 3) := by decide +kernel
theorem dX7_titleOf_64 : decode cX7_titleOf 64 = .ok (.getfield 40, 3) := by decide +kernel
theorem dX7_titleOf_67 : decode cX7_titleOf 67 = .ok (.iload_n 1, 1) := by decide +kernel
theorem dX7_titleOf_68 : decode cX7_titleOf 68 = .ok (.invokevirtual 226, 3) := by decide +kernel
theorem dX7_titleOf_71 : decode cX7_titleOf 71 = .ok (.aload_n 0, 1) := by decide +kernel
theorem dX7_titleOf_72 : decode cX7_titleOf 72 = .ok (.getfield 10, 3) := by decide +kernel
theorem dX7_titleOf_75 : decode cX7_titleOf 75 = .ok (.getfield 40, 3) := by decide +kernel
theorem dX7_titleOf_78 : decode cX7_titleOf 78 = .ok (.iconst 0, 1) := by decide +kernel
theorem dX7_titleOf_79 : decode cX7_titleOf 79 = .ok (.invokevirtual 169, 3) := by decide +kernel
theorem dX7_titleOf_82 : decode cX7_titleOf 82 = .ok (.iand, 1) := by decide +kernel
theorem dX7_titleOf_83 : decode cX7_titleOf 83 = .ok (.ireturn, 1) := by decide +kernel
theorem dX7_titleOf_84 : decode cX7_titleOf 84 = .ok (.aload_n 0, 1) := by decide +kernel
theorem dX7_titleOf_85 : decode cX7_titleOf 85 = .ok (.getfield 10, 3) := by decide +kernel
theorem dX7_titleOf_88 : decode cX7_titleOf 88 = .ok (.getfield 78, 3) := by decide +kernel
theorem dX7_titleOf_91 : decode cX7_titleOf 91 = .ok (.iload_n 1, 1) := by decide +kernel
theorem dX7_titleOf_92 : decode cX7_titleOf 92 = .ok (.invokevirtual 85, 3) := by decide +kernel
theorem dX7_titleOf_95 : decode cX7_titleOf 95 = .ok (.ireturn, 1) := by decide +kernel
theorem dX7_titleOf_96 : decode cX7_titleOf 96 = .ok (.aload_n 0, 1) := by decide +kernel
theorem dX7_titleOf_97 : decode cX7_titleOf 97 = .ok (.getfield 10, 3) := by decide +kernel
theorem dX7_titleOf_100 : decode cX7_titleOf 100 = .ok (.getfield 78, 3) := by decide +kernel
theorem dX7_titleOf_103 : decode cX7_titleOf 103 = .ok (.aload_n 0, 1) := by decide +kernel
theorem dX7_titleOf_104 : decode cX7_titleOf 104 = .ok (.getfield 10, 3) := by decide +kernel
theorem dX7_titleOf_107 : decode cX7_titleOf 107 = .ok (.getfield 78, 3) := by decide +kernel
theorem dX7_titleOf_110 : decode cX7_titleOf 110 = .ok (.iload_n 1, 1) := by decide +kernel
theorem dX7_titleOf_111 : decode cX7_titleOf 111 = .ok (.invokevirtual 229, 3) := by decide +kernel
theorem dX7_titleOf_114 : decode cX7_titleOf 114 = .ok (.invokevirtual 232, 3) := by decide +kernel
theorem dX7_titleOf_117 : decode cX7_titleOf 117 = .ok (.ireturn, 1) := by decide +kernel
theorem dX7_titleOf_118 : decode cX7_titleOf 118 = .ok (.aload_n 0, 1) := by decide +kernel
theorem dX7_titleOf_119 : decode cX7_titleOf 119 = .ok (.getfield 10, 3) := by decide +kernel
theorem dX7_titleOf_122 : decode cX7_titleOf 122 = .ok (.getfield 78, 3) := by decide +kernel
theorem dX7_titleOf_125 : decode cX7_titleOf 125 = .ok (.iload_n 1, 1) := by decide +kernel
theorem dX7_titleOf_126 : decode cX7_titleOf 126 = .ok (.aload_n 0, 1) := by decide +kernel
theorem dX7_titleOf_127 : decode cX7_titleOf 127 = .ok (.getfield 10, 3) := by decide +kernel
theorem dX7_titleOf_130 : decode cX7_titleOf 130 = .ok (.getfield 111, 3) := by decide +kernel
theorem dX7_titleOf_133 : decode cX7_titleOf 133 = .ok (.getfield 115, 3) := by decide +kernel
theorem dX7_titleOf_136 : decode cX7_titleOf 136 = .ok (.invokevirtual 235, 3) := by decide +kernel
theorem dX7_titleOf_139 : decode cX7_titleOf 139 = .ok (.ireturn, 1) := by decide +kernel
theorem dX7_titleOf_140 : decode cX7_titleOf 140 = .ok (.ldc 110, 2) := by decide +kernel
theorem dX7_titleOf_142 : decode cX7_titleOf 142 = .ok (.ireturn, 1) := by decide +kernel
set_option maxRecDepth 20000 in
theorem ggX7_readerOf_X7_isBelow : GoodIn wsX7_readerOf wsX7_isBelow := goodIn_r _ [7] (by decide +kernel) (by decide +kernel)
set_option maxRecDepth 20000 in
theorem gX7_readerOf_X7_isBelow : GoodIn wsX7_readerOf (va_wsS RX7 35 yX7_isBelow wsX7_isBelow) := goodIn_app (goodIn_of _ (by decide +kernel)) ggX7_readerOf_X7_isBelow
set_option maxRecDepth 20000 in
theorem ggX7_readerOf_X1_outTo : GoodIn wsX7_readerOf wsX1_outTo := goodIn_r _ [12, 13, 14, 15, 16, 11, 17, 18, 19, 20, 21, 22, 23, 24, 25, 26, 27, 28, 29, 30, 31, 32, 33, 34, 84, 85, 86, 87, 88] (by decide +kernel) (by decide +kernel)
set_option maxRecDepth 20000 in
theorem gX7_readerOf_X1_outTo : GoodIn wsX7_readerOf (wsV RX7 238 RX1 yX1_outTo wsX1_outTo) := goodIn_app (goodIn_of _ (by decide +kernel)) ggX7_readerOf_X1_outTo
set_option maxRecDepth 20000 in
theorem ggX7_readerOf_X3_ofReader : GoodIn wsX7_readerOf wsX3_ofReader := goodIn_r _ [39, 40, 41, 42, 43, 38, 44, 45, 46, 24, 25, 26, 27, 28, 29, 30, 89, 90, 91, 86, 87, 88] (by decide +kernel) (by decide +kernel)
set_option maxRecDepth 20000 in
theorem gX7_readerOf_X3_ofReader : GoodIn wsX7_readerOf (wsV RX7 241 RX3 yX3_ofReader wsX3_ofReader) := goodIn_app (goodIn_of _ (by decide +kernel)) ggX7_readerOf_X3_ofReader
set_option maxRecDepth 20000 in
theorem ggX7_readerOf_X1_owedBy : GoodIn wsX7_readerOf wsX1_owedBy := goodIn_r _ [50, 13, 51, 52, 53, 54, 14, 15, 16, 11, 17, 18, 19, 20, 21, 22, 23, 24, 25, 26, 27, 28, 29, 30, 31, 32, 33, 34, 55, 56, 57, 58, 84, 85, 86, 87, 88] (by decide +kernel) (by decide +kernel)
set_option maxRecDepth 20000 in
theorem gX7_readerOf_X1_owedBy : GoodIn wsX7_readerOf (wsV RX7 244 RX1 yX1_owedBy wsX1_owedBy) := goodIn_app (goodIn_of _ (by decide +kernel)) ggX7_readerOf_X1_owedBy
set_option maxRecDepth 20000 in
theorem ggX7_readerOf_X1_greatestStep : GoodIn wsX7_readerOf wsX1_greatestStep := goodIn_r _ [62, 13, 51, 52, 53, 54, 14, 15, 16, 11, 17, 18, 19, 20, 21, 22, 23, 24, 25, 26, 27, 28, 29, 30, 31, 32, 33, 34, 63, 64, 65, 66, 67, 68, 69, 55, 56, 57, 58, 84, 85, 86, 87, 88] (by decide +kernel) (by decide +kernel)
set_option maxRecDepth 20000 in
theorem gX7_readerOf_X1_greatestStep : GoodIn wsX7_readerOf (wsV RX7 247 RX1 yX1_greatestStep wsX1_greatestStep) := goodIn_app (goodIn_of _ (by decide +kernel)) ggX7_readerOf_X1_greatestStep
theorem dX7_readerOf_0 : decode cX7_readerOf 0 = .ok (.iload_n 1, 1) := by decide +kernel
theorem dX7_readerOf_1 : decode cX7_readerOf 1 = .ok (.bipush 10, 2) := by decide +kernel
theorem dX7_readerOf_3 : decode cX7_readerOf 3 = .ok (.invokestatic 35, 3) := by decide +kernel
theorem dX7_readerOf_6 : decode cX7_readerOf 6 = .ok (.ifCond .ne 6, 3) := by decide +kernel
theorem dX7_readerOf_9 : decode cX7_readerOf 9 = .ok (.ldc 39, 2) := by decide +kernel
theorem dX7_readerOf_11 : decode cX7_readerOf 11 = .ok (.ireturn, 1) := by decide +kernel
theorem dX7_readerOf_12 : decode cX7_readerOf 12 = .ok (.iload_n 2, 1) := by decide +kernel
theorem dX7_readerOf_13 : decode cX7_readerOf 13 = .ok (.tableswitch 107 0 4 #[35, 47, 59, 81, 103], 35) := by decide +kernel
theorem dX7_readerOf_48 : decode cX7_readerOf 48 = .ok (.aload_n 0, 1) := by decide +kernel
theorem dX7_readerOf_49 : decode cX7_readerOf 49 = .ok (.getfield 10, 3) := by decide +kernel
theorem dX7_readerOf_52 : decode cX7_readerOf 52 = .ok (.getfield 40, 3) := by decide +kernel
theorem dX7_readerOf_55 : decode cX7_readerOf 55 = .ok (.iload_n 1, 1) := by decide +kernel
theorem dX7_readerOf_56 : decode cX7_readerOf 56 = .ok (.invokevirtual 238, 3) := by decide +kernel
theorem dX7_readerOf_59 : decode cX7_readerOf 59 = .ok (.ireturn, 1) := by decide +kernel
theorem dX7_readerOf_60 : decode cX7_readerOf 60 = .ok (.aload_n 0, 1) := by decide +kernel
theorem dX7_readerOf_61 : decode cX7_readerOf 61 = .ok (.getfield 10, 3) := by decide +kernel
theorem dX7_readerOf_64 : decode cX7_readerOf 64 = .ok (.getfield 78, 3) := by decide +kernel
theorem dX7_readerOf_67 : decode cX7_readerOf 67 = .ok (.iload_n 1, 1) := by decide +kernel
theorem dX7_readerOf_68 : decode cX7_readerOf 68 = .ok (.invokevirtual 241, 3) := by decide +kernel
theorem dX7_readerOf_71 : decode cX7_readerOf 71 = .ok (.ireturn, 1) := by decide +kernel
theorem dX7_readerOf_72 : decode cX7_readerOf 72 = .ok (.aload_n 0, 1) := by decide +kernel
theorem dX7_readerOf_73 : decode cX7_readerOf 73 = .ok (.getfield 10, 3) := by decide +kernel
theorem dX7_readerOf_76 : decode cX7_readerOf 76 = .ok (.getfield 40, 3) := by decide +kernel
theorem dX7_readerOf_79 : decode cX7_readerOf 79 = .ok (.iload_n 1, 1) := by decide +kernel
theorem dX7_readerOf_80 : decode cX7_readerOf 80 = .ok (.aload_n 0, 1) := by decide +kernel
theorem dX7_readerOf_81 : decode cX7_readerOf 81 = .ok (.getfield 10, 3) := by decide +kernel
theorem dX7_readerOf_84 : decode cX7_readerOf 84 = .ok (.getfield 111, 3) := by decide +kernel
theorem dX7_readerOf_87 : decode cX7_readerOf 87 = .ok (.getfield 115, 3) := by decide +kernel
theorem dX7_readerOf_90 : decode cX7_readerOf 90 = .ok (.invokevirtual 244, 3) := by decide +kernel
theorem dX7_readerOf_93 : decode cX7_readerOf 93 = .ok (.ireturn, 1) := by decide +kernel
theorem dX7_readerOf_94 : decode cX7_readerOf 94 = .ok (.aload_n 0, 1) := by decide +kernel
theorem dX7_readerOf_95 : decode cX7_readerOf 95 = .ok (.getfield 10, 3) := by decide +kernel
theorem dX7_readerOf_98 : decode cX7_readerOf 98 = .ok (.getfield 40, 3) := by decide +kernel
theorem dX7_readerOf_101 : decode cX7_readerOf 101 = .ok (.iload_n 1, 1) := by decide +kernel
theorem dX7_readerOf_102 : decode cX7_readerOf 102 = .ok (.aload_n 0, 1) := by decide +kernel
theorem dX7_readerOf_103 : decode cX7_readerOf 103 = .ok (.getfield 10, 3) := by decide +kernel
theorem dX7_readerOf_106 : decode cX7_readerOf 106 = .ok (.getfield 111, 3) := by decide +kernel
theorem dX7_readerOf_109 : decode cX7_readerOf 109 = .ok (.getfield 115, 3) := by decide +kernel
theorem dX7_readerOf_112 : decode cX7_readerOf 112 = .ok (.invokevirtual 247, 3) := by decide +kernel
theorem dX7_readerOf_115 : decode cX7_readerOf 115 = .ok (.ireturn, 1) := by decide +kernel
theorem dX7_readerOf_116 : decode cX7_readerOf 116 = .ok (.iload_n 1, 1) := by decide +kernel
theorem dX7_readerOf_117 : decode cX7_readerOf 117 = .ok (.iconst 4, 1) := by decide +kernel
theorem dX7_readerOf_118 : decode cX7_readerOf 118 = .ok (.irem, 1) := by decide +kernel
theorem dX7_readerOf_119 : decode cX7_readerOf 119 = .ok (.ireturn, 1) := by decide +kernel
theorem dX7_readerOf_120 : decode cX7_readerOf 120 = .ok (.ldc 110, 2) := by decide +kernel
theorem dX7_readerOf_122 : decode cX7_readerOf 122 = .ok (.ireturn, 1) := by decide +kernel
set_option maxRecDepth 20000 in
theorem ggX7_keep_X7_isBelow : GoodIn wsX7_keep wsX7_isBelow := goodIn_r _ [8] (by decide +kernel) (by decide +kernel)
set_option maxRecDepth 20000 in
theorem gX7_keep_X7_isBelow : GoodIn wsX7_keep (va_wsS RX7 35 yX7_isBelow wsX7_isBelow) := goodIn_app (goodIn_of _ (by decide +kernel)) ggX7_keep_X7_isBelow
set_option maxRecDepth 20000 in
theorem ggX7_keep_X6_take : GoodIn wsX7_keep wsX6_take := goodIn_r _ [13, 14, 15, 16, 17, 6, 7, 8, 18, 19, 20, 21, 22, 23, 24, 25, 26, 27, 28, 29, 30, 31, 32, 33, 34, 35, 36, 37, 38, 39, 40, 41, 42, 43, 44, 45, 46, 47, 48, 49, 50, 51, 52, 53, 54, 55, 56, 57, 58, 59, 60, 61, 62, 63, 64, 65, 66, 67, 68, 69, 70, 71, 72, 73, 74, 75, 76, 77, 78, 79, 80, 81, 82, 83, 84, 85, 86, 87, 88, 89, 90, 91, 92, 93, 94, 95, 96, 97, 98, 113, 105, 106, 107, 108, 109, 110, 111, 112, 114, 115, 116, 117, 118, 119, 120, 121] (by decide +kernel) (by decide +kernel)
set_option maxRecDepth 20000 in
theorem gX7_keep_X6_take : GoodIn wsX7_keep (wsV RX7 250 RX6 yX6_take wsX6_take) := goodIn_app (goodIn_of _ (by decide +kernel)) ggX7_keep_X6_take
theorem dX7_keep_0 : decode cX7_keep 0 = .ok (.iload_n 1, 1) := by decide +kernel
theorem dX7_keep_1 : decode cX7_keep 1 = .ok (.iconst 2, 1) := by decide +kernel
theorem dX7_keep_2 : decode cX7_keep 2 = .ok (.invokestatic 35, 3) := by decide +kernel
theorem dX7_keep_5 : decode cX7_keep 5 = .ok (.ifCond .ne 6, 3) := by decide +kernel
theorem dX7_keep_8 : decode cX7_keep 8 = .ok (.ldc 39, 2) := by decide +kernel
theorem dX7_keep_10 : decode cX7_keep 10 = .ok (.ireturn, 1) := by decide +kernel
theorem dX7_keep_11 : decode cX7_keep 11 = .ok (.aload_n 0, 1) := by decide +kernel
theorem dX7_keep_12 : decode cX7_keep 12 = .ok (.getfield 25, 3) := by decide +kernel
theorem dX7_keep_15 : decode cX7_keep 15 = .ok (.iload_n 1, 1) := by decide +kernel
theorem dX7_keep_16 : decode cX7_keep 16 = .ok (.aload_n 0, 1) := by decide +kernel
theorem dX7_keep_17 : decode cX7_keep 17 = .ok (.getfield 10, 3) := by decide +kernel
theorem dX7_keep_20 : decode cX7_keep 20 = .ok (.invokevirtual 250, 3) := by decide +kernel
theorem dX7_keep_23 : decode cX7_keep 23 = .ok (.aload_n 0, 1) := by decide +kernel
theorem dX7_keep_24 : decode cX7_keep 24 = .ok (.iconst 0, 1) := by decide +kernel
theorem dX7_keep_25 : decode cX7_keep 25 = .ok (.putfield 145, 3) := by decide +kernel
theorem dX7_keep_28 : decode cX7_keep 28 = .ok (.aload_n 0, 1) := by decide +kernel
theorem dX7_keep_29 : decode cX7_keep 29 = .ok (.getfield 10, 3) := by decide +kernel
theorem dX7_keep_32 : decode cX7_keep 32 = .ok (.getfield 111, 3) := by decide +kernel
theorem dX7_keep_35 : decode cX7_keep 35 = .ok (.getfield 115, 3) := by decide +kernel
theorem dX7_keep_38 : decode cX7_keep 38 = .ok (.ireturn, 1) := by decide +kernel
set_option maxRecDepth 20000 in
theorem ggX7_goBack_X7_isBelow : GoodIn wsX7_goBack wsX7_isBelow := goodIn_r _ [9] (by decide +kernel) (by decide +kernel)
set_option maxRecDepth 20000 in
theorem gX7_goBack_X7_isBelow : GoodIn wsX7_goBack (va_wsS RX7 35 yX7_isBelow wsX7_isBelow) := goodIn_app (goodIn_of _ (by decide +kernel)) ggX7_goBack_X7_isBelow
set_option maxRecDepth 20000 in
theorem ggX7_goBack_X6_has : GoodIn wsX7_goBack wsX6_has := goodIn_r _ [14, 15, 7, 8, 9, 82] (by decide +kernel) (by decide +kernel)
set_option maxRecDepth 20000 in
theorem gX7_goBack_X6_has : GoodIn wsX7_goBack (wsV RX7 253 RX6 yX6_has wsX6_has) := goodIn_app (goodIn_of _ (by decide +kernel)) ggX7_goBack_X6_has
theorem dX7_goBack_0 : decode cX7_goBack 0 = .ok (.iload_n 1, 1) := by decide +kernel
theorem dX7_goBack_1 : decode cX7_goBack 1 = .ok (.iconst 2, 1) := by decide +kernel
theorem dX7_goBack_2 : decode cX7_goBack 2 = .ok (.invokestatic 35, 3) := by decide +kernel
theorem dX7_goBack_5 : decode cX7_goBack 5 = .ok (.ifCond .ne 6, 3) := by decide +kernel
theorem dX7_goBack_8 : decode cX7_goBack 8 = .ok (.ldc 39, 2) := by decide +kernel
theorem dX7_goBack_10 : decode cX7_goBack 10 = .ok (.ireturn, 1) := by decide +kernel
theorem dX7_goBack_11 : decode cX7_goBack 11 = .ok (.aload_n 0, 1) := by decide +kernel
theorem dX7_goBack_12 : decode cX7_goBack 12 = .ok (.getfield 25, 3) := by decide +kernel
theorem dX7_goBack_15 : decode cX7_goBack 15 = .ok (.iload_n 1, 1) := by decide +kernel
theorem dX7_goBack_16 : decode cX7_goBack 16 = .ok (.invokevirtual 253, 3) := by decide +kernel
theorem dX7_goBack_19 : decode cX7_goBack 19 = .ok (.ifCond .ne 6, 3) := by decide +kernel
theorem dX7_goBack_22 : decode cX7_goBack 22 = .ok (.ldc 90, 2) := by decide +kernel
theorem dX7_goBack_24 : decode cX7_goBack 24 = .ok (.ireturn, 1) := by decide +kernel
theorem dX7_goBack_25 : decode cX7_goBack 25 = .ok (.aload_n 0, 1) := by decide +kernel
theorem dX7_goBack_26 : decode cX7_goBack 26 = .ok (.getfield 25, 3) := by decide +kernel
theorem dX7_goBack_29 : decode cX7_goBack 29 = .ok (.iload_n 1, 1) := by decide +kernel
theorem dX7_goBack_30 : decode cX7_goBack 30 = .ok (.aload_n 0, 1) := by decide +kernel
theorem dX7_goBack_31 : decode cX7_goBack 31 = .ok (.getfield 10, 3) := by decide +kernel
theorem dX7_goBack_34 : decode cX7_goBack 34 = .ok (.invokevirtual 156, 3) := by decide +kernel
theorem dX7_goBack_37 : decode cX7_goBack 37 = .ok (.aload_n 0, 1) := by decide +kernel
theorem dX7_goBack_38 : decode cX7_goBack 38 = .ok (.iconst 0, 1) := by decide +kernel
theorem dX7_goBack_39 : decode cX7_goBack 39 = .ok (.putfield 145, 3) := by decide +kernel
theorem dX7_goBack_42 : decode cX7_goBack 42 = .ok (.aload_n 0, 1) := by decide +kernel
theorem dX7_goBack_43 : decode cX7_goBack 43 = .ok (.getfield 10, 3) := by decide +kernel
theorem dX7_goBack_46 : decode cX7_goBack 46 = .ok (.getfield 111, 3) := by decide +kernel
theorem dX7_goBack_49 : decode cX7_goBack 49 = .ok (.getfield 115, 3) := by decide +kernel
theorem dX7_goBack_52 : decode cX7_goBack 52 = .ok (.ireturn, 1) := by decide +kernel
set_option maxRecDepth 20000 in
theorem ggX7_remember_X6_take : GoodIn wsX7_remember wsX6_take := goodIn_r _ [13, 14, 15, 16, 17, 18, 19, 20, 21, 22, 23, 24, 25, 26, 27, 28, 29, 30, 31, 32, 33, 34, 35, 36, 37, 38, 39, 40, 41, 42, 43, 44, 45, 46, 47, 48, 49, 50, 51, 52, 53, 54, 55, 56, 7, 57, 58, 59, 60, 61, 62, 63, 64, 65, 66, 67, 68, 69, 70, 71, 72, 73, 74, 75, 76, 77, 78, 79, 80, 81, 82, 83, 84, 85, 86, 87, 6, 8, 88, 89, 90, 91, 92, 93, 94, 95, 96, 97, 98, 109, 110, 111, 112, 113, 114, 115, 116, 117, 118, 119, 120, 121, 122, 123, 124, 125] (by decide +kernel) (by decide +kernel)
set_option maxRecDepth 20000 in
theorem gX7_remember_X6_take : GoodIn wsX7_remember (wsV RX7 250 RX6 yX6_take wsX6_take) := goodIn_app (goodIn_of _ (by decide +kernel)) ggX7_remember_X6_take
set_option maxRecDepth 20000 in
theorem ggX7_remember_J9_floorMod_7cf53 : GoodIn wsX7_remember wsJ9_floorMod_7cf53 := goodIn_r _ [102] (by decide +kernel) (by decide +kernel)
set_option maxRecDepth 20000 in
theorem gX7_remember_J9_floorMod_7cf53 : GoodIn wsX7_remember (va_wsS RX7 151 yJ9_floorMod_7cf53 wsJ9_floorMod_7cf53) := goodIn_app (goodIn_of _ (by decide +kernel)) ggX7_remember_J9_floorMod_7cf53
theorem dX7_remember_0 : decode cX7_remember 0 = .ok (.aload_n 0, 1) := by decide +kernel
theorem dX7_remember_1 : decode cX7_remember 1 = .ok (.getfield 21, 3) := by decide +kernel
theorem dX7_remember_4 : decode cX7_remember 4 = .ok (.aload_n 0, 1) := by decide +kernel
theorem dX7_remember_5 : decode cX7_remember 5 = .ok (.getfield 148, 3) := by decide +kernel
theorem dX7_remember_8 : decode cX7_remember 8 = .ok (.aload_n 0, 1) := by decide +kernel
theorem dX7_remember_9 : decode cX7_remember 9 = .ok (.getfield 10, 3) := by decide +kernel
theorem dX7_remember_12 : decode cX7_remember 12 = .ok (.invokevirtual 250, 3) := by decide +kernel
theorem dX7_remember_15 : decode cX7_remember 15 = .ok (.aload_n 0, 1) := by decide +kernel
theorem dX7_remember_16 : decode cX7_remember 16 = .ok (.aload_n 0, 1) := by decide +kernel
theorem dX7_remember_17 : decode cX7_remember 17 = .ok (.getfield 148, 3) := by decide +kernel
theorem dX7_remember_20 : decode cX7_remember 20 = .ok (.iconst 1, 1) := by decide +kernel
theorem dX7_remember_21 : decode cX7_remember 21 = .ok (.iadd, 1) := by decide +kernel
theorem dX7_remember_22 : decode cX7_remember 22 = .ok (.bipush 8, 2) := by decide +kernel
theorem dX7_remember_24 : decode cX7_remember 24 = .ok (.invokestatic 151, 3) := by decide +kernel
theorem dX7_remember_27 : decode cX7_remember 27 = .ok (.putfield 148, 3) := by decide +kernel
theorem dX7_remember_30 : decode cX7_remember 30 = .ok (.aload_n 0, 1) := by decide +kernel
theorem dX7_remember_31 : decode cX7_remember 31 = .ok (.aload_n 0, 1) := by decide +kernel
theorem dX7_remember_32 : decode cX7_remember 32 = .ok (.getfield 145, 3) := by decide +kernel
theorem dX7_remember_35 : decode cX7_remember 35 = .ok (.iconst 1, 1) := by decide +kernel
theorem dX7_remember_36 : decode cX7_remember 36 = .ok (.iadd, 1) := by decide +kernel
theorem dX7_remember_37 : decode cX7_remember 37 = .ok (.bipush 8, 2) := by decide +kernel
theorem dX7_remember_39 : decode cX7_remember 39 = .ok (.invokestatic 256, 3) := by decide +kernel
theorem dX7_remember_42 : decode cX7_remember 42 = .ok (.putfield 145, 3) := by decide +kernel
theorem dX7_remember_45 : decode cX7_remember 45 = .ok (.return_, 1) := by decide +kernel
set_option maxRecDepth 20000 in
theorem ggX7_isCopy_X7_isBelow : GoodIn wsX7_isCopy wsX7_isBelow := goodIn_r _ [5] (by decide +kernel) (by decide +kernel)
set_option maxRecDepth 20000 in
theorem gX7_isCopy_X7_isBelow : GoodIn wsX7_isCopy (va_wsS RX7 35 yX7_isBelow wsX7_isBelow) := goodIn_app (goodIn_of _ (by decide +kernel)) ggX7_isCopy_X7_isBelow
theorem dX7_isCopy_0 : decode cX7_isCopy 0 = .ok (.iload_n 1, 1) := by decide +kernel
theorem dX7_isCopy_1 : decode cX7_isCopy 1 = .ok (.aload_n 0, 1) := by decide +kernel
theorem dX7_isCopy_2 : decode cX7_isCopy 2 = .ok (.getfield 10, 3) := by decide +kernel
theorem dX7_isCopy_5 : decode cX7_isCopy 5 = .ok (.getfield 40, 3) := by decide +kernel
theorem dX7_isCopy_8 : decode cX7_isCopy 8 = .ok (.getfield 44, 3) := by decide +kernel
theorem dX7_isCopy_11 : decode cX7_isCopy 11 = .ok (.invokestatic 35, 3) := by decide +kernel
theorem dX7_isCopy_14 : decode cX7_isCopy 14 = .ok (.ireturn, 1) := by decide +kernel
set_option maxRecDepth 20000 in
theorem ggX7_refusalToLend_X7_isCopy : GoodIn wsX7_refusalToLend wsX7_isCopy := goodIn_r _ [8, 2, 9, 10, 7, 11, 71, 72, 73, 74, 75, 76, 77, 78, 79, 80, 81, 82] (by decide +kernel) (by decide +kernel)
set_option maxRecDepth 20000 in
theorem gX7_refusalToLend_X7_isCopy : GoodIn wsX7_refusalToLend (wsV RX7 70 RX7 yX7_isCopy wsX7_isCopy) := goodIn_app (goodIn_of _ (by decide +kernel)) ggX7_refusalToLend_X7_isCopy
set_option maxRecDepth 20000 in
theorem ggX7_refusalToLend_X7_isBelow : GoodIn wsX7_refusalToLend wsX7_isBelow := goodIn_r _ [11] (by decide +kernel) (by decide +kernel)
set_option maxRecDepth 20000 in
theorem gX7_refusalToLend_X7_isBelow : GoodIn wsX7_refusalToLend (va_wsS RX7 35 yX7_isBelow wsX7_isBelow) := goodIn_app (goodIn_of _ (by decide +kernel)) ggX7_refusalToLend_X7_isBelow
set_option maxRecDepth 20000 in
theorem ggX7_refusalToLend_X1_outTo : GoodIn wsX7_refusalToLend wsX1_outTo := goodIn_r _ [56, 57, 58, 59, 60, 22, 61, 62, 20, 21, 23, 24, 25, 26, 27, 28, 29, 30, 31, 32, 63, 34, 35, 36, 81, 82, 83, 84, 85] (by decide +kernel) (by decide +kernel)
set_option maxRecDepth 20000 in
theorem gX7_refusalToLend_X1_outTo : GoodIn wsX7_refusalToLend (wsV RX7 238 RX1 yX1_outTo wsX1_outTo) := goodIn_app (goodIn_of _ (by decide +kernel)) ggX7_refusalToLend_X1_outTo
set_option maxRecDepth 20000 in
theorem ggX7_refusalToLend_J6_bitCount_0f7a4 : GoodIn wsX7_refusalToLend wsJ6_bitCount_0f7a4 := goodIn_r _ [67, 68, 69, 70] (by decide +kernel) (by decide +kernel)
set_option maxRecDepth 20000 in
theorem gX7_refusalToLend_J6_bitCount_0f7a4 : GoodIn wsX7_refusalToLend (va_wsS RX7 180 yJ6_bitCount_0f7a4 wsJ6_bitCount_0f7a4) := goodIn_app (goodIn_of _ (by decide +kernel)) ggX7_refusalToLend_J6_bitCount_0f7a4
theorem dX7_refusalToLend_0 : decode cX7_refusalToLend 0 = .ok (.aload_n 0, 1) := by decide +kernel
theorem dX7_refusalToLend_1 : decode cX7_refusalToLend 1 = .ok (.iload_n 1, 1) := by decide +kernel
theorem dX7_refusalToLend_2 : decode cX7_refusalToLend 2 = .ok (.invokevirtual 70, 3) := by decide +kernel
theorem dX7_refusalToLend_5 : decode cX7_refusalToLend 5 = .ok (.ifCond .eq 12, 3) := by decide +kernel
theorem dX7_refusalToLend_8 : decode cX7_refusalToLend 8 = .ok (.iload_n 2, 1) := by decide +kernel
theorem dX7_refusalToLend_9 : decode cX7_refusalToLend 9 = .ok (.bipush 10, 2) := by decide +kernel
theorem dX7_refusalToLend_11 : decode cX7_refusalToLend 11 = .ok (.invokestatic 35, 3) := by decide +kernel
theorem dX7_refusalToLend_14 : decode cX7_refusalToLend 14 = .ok (.ifCond .ne 6, 3) := by decide +kernel
theorem dX7_refusalToLend_17 : decode cX7_refusalToLend 17 = .ok (.ldc 39, 2) := by decide +kernel
theorem dX7_refusalToLend_19 : decode cX7_refusalToLend 19 = .ok (.ireturn, 1) := by decide +kernel
theorem dX7_refusalToLend_20 : decode cX7_refusalToLend 20 = .ok (.aload_n 0, 1) := by decide +kernel
theorem dX7_refusalToLend_21 : decode cX7_refusalToLend 21 = .ok (.getfield 10, 3) := by decide +kernel
theorem dX7_refusalToLend_24 : decode cX7_refusalToLend 24 = .ok (.iload_n 1, 1) := by decide +kernel
theorem dX7_refusalToLend_25 : decode cX7_refusalToLend 25 = .ok (.iload_n 2, 1) := by decide +kernel
theorem dX7_refusalToLend_26 : decode cX7_refusalToLend 26 = .ok (.invokevirtual 259, 3) := by decide +kernel
theorem dX7_refusalToLend_29 : decode cX7_refusalToLend 29 = .ok (.ifCond .eq 21, 3) := by decide +kernel
theorem dX7_refusalToLend_32 : decode cX7_refusalToLend 32 = .ok (.aload_n 0, 1) := by decide +kernel
theorem dX7_refusalToLend_33 : decode cX7_refusalToLend 33 = .ok (.getfield 10, 3) := by decide +kernel
theorem dX7_refusalToLend_36 : decode cX7_refusalToLend 36 = .ok (.getfield 40, 3) := by decide +kernel
theorem dX7_refusalToLend_39 : decode cX7_refusalToLend 39 = .ok (.iload_n 2, 1) := by decide +kernel
theorem dX7_refusalToLend_40 : decode cX7_refusalToLend 40 = .ok (.invokevirtual 238, 3) := by decide +kernel
theorem dX7_refusalToLend_43 : decode cX7_refusalToLend 43 = .ok (.invokestatic 180, 3) := by decide +kernel
theorem dX7_refusalToLend_46 : decode cX7_refusalToLend 46 = .ok (.iconst 3, 1) := by decide +kernel
theorem dX7_refusalToLend_47 : decode cX7_refusalToLend 47 = .ok (.if_icmp .lt 6, 3) := by decide +kernel
theorem dX7_refusalToLend_50 : decode cX7_refusalToLend 50 = .ok (.ldc 90, 2) := by decide +kernel
theorem dX7_refusalToLend_52 : decode cX7_refusalToLend 52 = .ok (.ireturn, 1) := by decide +kernel
theorem dX7_refusalToLend_53 : decode cX7_refusalToLend 53 = .ok (.iconst 0, 1) := by decide +kernel
theorem dX7_refusalToLend_54 : decode cX7_refusalToLend 54 = .ok (.ireturn, 1) := by decide +kernel
set_option maxRecDepth 20000 in
theorem ggX7_refusalToTakeBack_X7_isCopy : GoodIn wsX7_refusalToTakeBack wsX7_isCopy := goodIn_r _ [8, 2, 9, 10, 7, 11, 26, 27, 28, 29, 30, 31, 32, 33, 34, 35, 36, 37] (by decide +kernel) (by decide +kernel)
set_option maxRecDepth 20000 in
theorem gX7_refusalToTakeBack_X7_isCopy : GoodIn wsX7_refusalToTakeBack (wsV RX7 70 RX7 yX7_isCopy wsX7_isCopy) := goodIn_app (goodIn_of _ (by decide +kernel)) ggX7_refusalToTakeBack_X7_isCopy
set_option maxRecDepth 20000 in
theorem ggX7_refusalToTakeBack_X7_isBelow : GoodIn wsX7_refusalToTakeBack wsX7_isBelow := goodIn_r _ [11] (by decide +kernel) (by decide +kernel)
set_option maxRecDepth 20000 in
theorem gX7_refusalToTakeBack_X7_isBelow : GoodIn wsX7_refusalToTakeBack (va_wsS RX7 35 yX7_isBelow wsX7_isBelow) := goodIn_app (goodIn_of _ (by decide +kernel)) ggX7_refusalToTakeBack_X7_isBelow
theorem dX7_refusalToTakeBack_0 : decode cX7_refusalToTakeBack 0 = .ok (.aload_n 0, 1) := by decide +kernel
theorem dX7_refusalToTakeBack_1 : decode cX7_refusalToTakeBack 1 = .ok (.iload_n 1, 1) := by decide +kernel
theorem dX7_refusalToTakeBack_2 : decode cX7_refusalToTakeBack 2 = .ok (.invokevirtual 70, 3) := by decide +kernel
theorem dX7_refusalToTakeBack_5 : decode cX7_refusalToTakeBack 5 = .ok (.ifCond .eq 11, 3) := by decide +kernel
theorem dX7_refusalToTakeBack_8 : decode cX7_refusalToTakeBack 8 = .ok (.iload_n 2, 1) := by decide +kernel
theorem dX7_refusalToTakeBack_9 : decode cX7_refusalToTakeBack 9 = .ok (.iconst 4, 1) := by decide +kernel
theorem dX7_refusalToTakeBack_10 : decode cX7_refusalToTakeBack 10 = .ok (.invokestatic 35, 3) := by decide +kernel
theorem dX7_refusalToTakeBack_13 : decode cX7_refusalToTakeBack 13 = .ok (.ifCond .ne 6, 3) := by decide +kernel
theorem dX7_refusalToTakeBack_16 : decode cX7_refusalToTakeBack 16 = .ok (.ldc 39, 2) := by decide +kernel
theorem dX7_refusalToTakeBack_18 : decode cX7_refusalToTakeBack 18 = .ok (.ireturn, 1) := by decide +kernel
theorem dX7_refusalToTakeBack_19 : decode cX7_refusalToTakeBack 19 = .ok (.aload_n 0, 1) := by decide +kernel
theorem dX7_refusalToTakeBack_20 : decode cX7_refusalToTakeBack 20 = .ok (.getfield 10, 3) := by decide +kernel
theorem dX7_refusalToTakeBack_23 : decode cX7_refusalToTakeBack 23 = .ok (.getfield 40, 3) := by decide +kernel
theorem dX7_refusalToTakeBack_26 : decode cX7_refusalToTakeBack 26 = .ok (.iload_n 1, 1) := by decide +kernel
theorem dX7_refusalToTakeBack_27 : decode cX7_refusalToTakeBack 27 = .ok (.invokevirtual 74, 3) := by decide +kernel
theorem dX7_refusalToTakeBack_30 : decode cX7_refusalToTakeBack 30 = .ok (.istore_n 3, 1) := by decide +kernel
theorem dX7_refusalToTakeBack_31 : decode cX7_refusalToTakeBack 31 = .ok (.iload_n 3, 1) := by decide +kernel
theorem dX7_refusalToTakeBack_32 : decode cX7_refusalToTakeBack 32 = .ok (.iconst 1, 1) := by decide +kernel
theorem dX7_refusalToTakeBack_33 : decode cX7_refusalToTakeBack 33 = .ok (.if_icmp .eq 8, 3) := by decide +kernel
theorem dX7_refusalToTakeBack_36 : decode cX7_refusalToTakeBack 36 = .ok (.iload_n 3, 1) := by decide +kernel
theorem dX7_refusalToTakeBack_37 : decode cX7_refusalToTakeBack 37 = .ok (.iconst 4, 1) := by decide +kernel
theorem dX7_refusalToTakeBack_38 : decode cX7_refusalToTakeBack 38 = .ok (.if_icmp .ne 7, 3) := by decide +kernel
theorem dX7_refusalToTakeBack_41 : decode cX7_refusalToTakeBack 41 = .ok (.iconst 0, 1) := by decide +kernel
theorem dX7_refusalToTakeBack_42 : decode cX7_refusalToTakeBack 42 = .ok (.goto 5, 3) := by decide +kernel
theorem dX7_refusalToTakeBack_45 : decode cX7_refusalToTakeBack 45 = .ok (.ldc 90, 2) := by decide +kernel
theorem dX7_refusalToTakeBack_47 : decode cX7_refusalToTakeBack 47 = .ok (.ireturn, 1) := by decide +kernel
set_option maxRecDepth 20000 in
theorem ggX7_refusalToHold_X7_isBelow : GoodIn wsX7_refusalToHold wsX7_isBelow := goodIn_r _ [9] (by decide +kernel) (by decide +kernel)
set_option maxRecDepth 20000 in
theorem gX7_refusalToHold_X7_isBelow : GoodIn wsX7_refusalToHold (va_wsS RX7 35 yX7_isBelow wsX7_isBelow) := goodIn_app (goodIn_of _ (by decide +kernel)) ggX7_refusalToHold_X7_isBelow
set_option maxRecDepth 20000 in
theorem ggX7_refusalToHold_X1_outTo : GoodIn wsX7_refusalToHold wsX1_outTo := goodIn_r _ [14, 15, 16, 17, 18, 13, 19, 20, 21, 22, 23, 24, 25, 26, 27, 28, 29, 30, 31, 32, 33, 34, 35, 36, 74, 75, 76, 77, 78] (by decide +kernel) (by decide +kernel)
set_option maxRecDepth 20000 in
theorem gX7_refusalToHold_X1_outTo : GoodIn wsX7_refusalToHold (wsV RX7 238 RX1 yX1_outTo wsX1_outTo) := goodIn_app (goodIn_of _ (by decide +kernel)) ggX7_refusalToHold_X1_outTo
set_option maxRecDepth 20000 in
theorem ggX7_refusalToHold_X1_ofTitle : GoodIn wsX7_refusalToHold wsX1_ofTitle := goodIn_r _ [40, 15, 41, 42, 43, 13, 44, 24, 25, 26, 27, 28, 29, 30, 31, 32, 74, 75, 76, 77, 78] (by decide +kernel) (by decide +kernel)
set_option maxRecDepth 20000 in
theorem gX7_refusalToHold_X1_ofTitle : GoodIn wsX7_refusalToHold (wsV RX7 226 RX1 yX1_ofTitle wsX1_ofTitle) := goodIn_app (goodIn_of _ (by decide +kernel)) ggX7_refusalToHold_X1_ofTitle
set_option maxRecDepth 20000 in
theorem ggX7_refusalToHold_X3_has : GoodIn wsX7_refusalToHold wsX3_has := goodIn_r _ [49, 50, 51, 52, 53, 48, 54, 55, 56, 26, 27, 28, 29, 30, 31, 32, 57, 58, 59, 60, 71, 72, 73, 76, 77, 78] (by decide +kernel) (by decide +kernel)
set_option maxRecDepth 20000 in
theorem gX7_refusalToHold_X3_has : GoodIn wsX7_refusalToHold (wsV RX7 262 RX3 yX3_has wsX3_has) := goodIn_app (goodIn_of _ (by decide +kernel)) ggX7_refusalToHold_X3_has
end
section
theorem dX7_refusalToHold_0 : decode cX7_refusalToHold 0 = .ok (.iload_n 1, 1) := by decide +kernel
theorem dX7_refusalToHold_1 : decode cX7_refusalToHold 1 = .ok (.bipush 10, 2) := by decide +kernel
theorem dX7_refusalToHold_3 : decode cX7_refusalToHold 3 = .ok (.invokestatic 35, 3) := by decide +kernel
theorem dX7_refusalToHold_6 : decode cX7_refusalToHold 6 = .ok (.ifCond .eq 20, 3) := by decide +kernel
theorem dX7_refusalToHold_9 : decode cX7_refusalToHold 9 = .ok (.iload_n 2, 1) := by decide +kernel
theorem dX7_refusalToHold_10 : decode cX7_refusalToHold 10 = .ok (.bipush 6, 2) := by decide +kernel
theorem dX7_refusalToHold_12 : decode cX7_refusalToHold 12 = .ok (.invokestatic 35, 3) := by decide +kernel
theorem dX7_refusalToHold_15 : decode cX7_refusalToHold 15 = .ok (.ifCond .eq 11, 3) := by decide +kernel
theorem dX7_refusalToHold_18 : decode cX7_refusalToHold 18 = .ok (.iload_n 3, 1) := by decide +kernel
theorem dX7_refusalToHold_19 : decode cX7_refusalToHold 19 = .ok (.iconst 4, 1) := by decide +kernel
theorem dX7_refusalToHold_20 : decode cX7_refusalToHold 20 = .ok (.invokestatic 35, 3) := by decide +kernel
theorem dX7_refusalToHold_23 : decode cX7_refusalToHold 23 = .ok (.ifCond .ne 6, 3) := by decide +kernel
theorem dX7_refusalToHold_26 : decode cX7_refusalToHold 26 = .ok (.ldc 39, 2) := by decide +kernel
theorem dX7_refusalToHold_28 : decode cX7_refusalToHold 28 = .ok (.ireturn, 1) := by decide +kernel
theorem dX7_refusalToHold_29 : decode cX7_refusalToHold 29 = .ok (.iload 4, 2) := by decide +kernel
theorem dX7_refusalToHold_31 : decode cX7_refusalToHold 31 = .ok (.iconst 4, 1) := by decide +kernel
theorem dX7_refusalToHold_32 : decode cX7_refusalToHold 32 = .ok (.invokestatic 35, 3) := by decide +kernel
theorem dX7_refusalToHold_35 : decode cX7_refusalToHold 35 = .ok (.ifCond .ne 6, 3) := by decide +kernel
theorem dX7_refusalToHold_38 : decode cX7_refusalToHold 38 = .ok (.ldc 110, 2) := by decide +kernel
theorem dX7_refusalToHold_40 : decode cX7_refusalToHold 40 = .ok (.ireturn, 1) := by decide +kernel
theorem dX7_refusalToHold_41 : decode cX7_refusalToHold 41 = .ok (.aload_n 0, 1) := by decide +kernel
theorem dX7_refusalToHold_42 : decode cX7_refusalToHold 42 = .ok (.getfield 10, 3) := by decide +kernel
theorem dX7_refusalToHold_45 : decode cX7_refusalToHold 45 = .ok (.getfield 40, 3) := by decide +kernel
theorem dX7_refusalToHold_48 : decode cX7_refusalToHold 48 = .ok (.iload_n 1, 1) := by decide +kernel
theorem dX7_refusalToHold_49 : decode cX7_refusalToHold 49 = .ok (.invokevirtual 238, 3) := by decide +kernel
theorem dX7_refusalToHold_52 : decode cX7_refusalToHold 52 = .ok (.aload_n 0, 1) := by decide +kernel
theorem dX7_refusalToHold_53 : decode cX7_refusalToHold 53 = .ok (.getfield 10, 3) := by decide +kernel
theorem dX7_refusalToHold_56 : decode cX7_refusalToHold 56 = .ok (.getfield 40, 3) := by decide +kernel
theorem dX7_refusalToHold_59 : decode cX7_refusalToHold 59 = .ok (.iload_n 2, 1) := by decide +kernel
theorem dX7_refusalToHold_60 : decode cX7_refusalToHold 60 = .ok (.invokevirtual 226, 3) := by decide +kernel
theorem dX7_refusalToHold_63 : decode cX7_refusalToHold 63 = .ok (.iand, 1) := by decide +kernel
theorem dX7_refusalToHold_64 : decode cX7_refusalToHold 64 = .ok (.ifCond .eq 7, 3) := by decide +kernel
theorem dX7_refusalToHold_67 : decode cX7_refusalToHold 67 = .ok (.iconst 1, 1) := by decide +kernel
theorem dX7_refusalToHold_68 : decode cX7_refusalToHold 68 = .ok (.goto 4, 3) := by decide +kernel
theorem dX7_refusalToHold_71 : decode cX7_refusalToHold 71 = .ok (.iconst 0, 1) := by decide +kernel
theorem dX7_refusalToHold_72 : decode cX7_refusalToHold 72 = .ok (.istore 5, 2) := by decide +kernel
theorem dX7_refusalToHold_74 : decode cX7_refusalToHold 74 = .ok (.iload 5, 2) := by decide +kernel
theorem dX7_refusalToHold_76 : decode cX7_refusalToHold 76 = .ok (.ifCond .ne 18, 3) := by decide +kernel
theorem dX7_refusalToHold_79 : decode cX7_refusalToHold 79 = .ok (.aload_n 0, 1) := by decide +kernel
theorem dX7_refusalToHold_80 : decode cX7_refusalToHold 80 = .ok (.getfield 10, 3) := by decide +kernel
theorem dX7_refusalToHold_83 : decode cX7_refusalToHold 83 = .ok (.getfield 78, 3) := by decide +kernel
theorem dX7_refusalToHold_86 : decode cX7_refusalToHold 86 = .ok (.iload_n 1, 1) := by decide +kernel
theorem dX7_refusalToHold_87 : decode cX7_refusalToHold 87 = .ok (.iload_n 2, 1) := by decide +kernel
theorem dX7_refusalToHold_88 : decode cX7_refusalToHold 88 = .ok (.invokevirtual 262, 3) := by decide +kernel
theorem dX7_refusalToHold_91 : decode cX7_refusalToHold 91 = .ok (.ifCond .eq 6, 3) := by decide +kernel
theorem dX7_refusalToHold_94 : decode cX7_refusalToHold 94 = .ok (.ldc 90, 2) := by decide +kernel
theorem dX7_refusalToHold_96 : decode cX7_refusalToHold 96 = .ok (.ireturn, 1) := by decide +kernel
theorem dX7_refusalToHold_97 : decode cX7_refusalToHold 97 = .ok (.aload_n 0, 1) := by decide +kernel
theorem dX7_refusalToHold_98 : decode cX7_refusalToHold 98 = .ok (.getfield 10, 3) := by decide +kernel
theorem dX7_refusalToHold_101 : decode cX7_refusalToHold 101 = .ok (.getfield 78, 3) := by decide +kernel
theorem dX7_refusalToHold_104 : decode cX7_refusalToHold 104 = .ok (.getfield 172, 3) := by decide +kernel
theorem dX7_refusalToHold_107 : decode cX7_refusalToHold 107 = .ok (.bipush 12, 2) := by decide +kernel
theorem dX7_refusalToHold_109 : decode cX7_refusalToHold 109 = .ok (.if_icmp .lt 8, 3) := by decide +kernel
theorem dX7_refusalToHold_112 : decode cX7_refusalToHold 112 = .ok (.ldc 50, 2) := by decide +kernel
theorem dX7_refusalToHold_114 : decode cX7_refusalToHold 114 = .ok (.goto 4, 3) := by decide +kernel
theorem dX7_refusalToHold_117 : decode cX7_refusalToHold 117 = .ok (.iconst 0, 1) := by decide +kernel
theorem dX7_refusalToHold_118 : decode cX7_refusalToHold 118 = .ok (.ireturn, 1) := by decide +kernel
set_option maxRecDepth 20000 in
theorem ggX7_drawHold_X5_below : GoodIn wsX7_drawHold wsX5_below := goodIn_r _ [7, 8, 9, 10, 160] (by decide +kernel) (by decide +kernel)
set_option maxRecDepth 20000 in
theorem gX7_drawHold_X5_below : GoodIn wsX7_drawHold (wsV RX7 133 RX5 yX5_below wsX5_below) := goodIn_app (goodIn_of _ (by decide +kernel)) ggX7_drawHold_X5_below
set_option maxRecDepth 20000 in
theorem ggX7_drawHold_X7_refusalToHold : GoodIn wsX7_drawHold wsX7_refusalToHold := goodIn_r _ [15, 16, 17, 2, 18, 19, 20, 21, 14, 22, 23, 24, 25, 26, 27, 28, 29, 30, 31, 32, 33, 34, 35, 36, 37, 38, 39, 40, 41, 42, 43, 44, 45, 46, 47, 48, 49, 50, 51, 52, 53, 54, 55, 56, 57, 58, 59, 60, 61, 62, 63, 64, 65, 66, 67, 68, 69, 70, 71, 72, 73, 154, 155, 156, 157, 158, 159, 161, 162, 163, 164, 165, 166, 167, 168, 169, 170, 171, 172] (by decide +kernel) (by decide +kernel)
set_option maxRecDepth 20000 in
theorem gX7_drawHold_X7_refusalToHold : GoodIn wsX7_drawHold (wsV RX7 97 RX7 yX7_refusalToHold wsX7_refusalToHold) := goodIn_app (goodIn_of _ (by decide +kernel)) ggX7_drawHold_X7_refusalToHold
set_option maxRecDepth 20000 in
theorem ggX7_drawHold_X4_addHold : GoodIn wsX7_drawHold wsX4_addHold := goodIn_r _ [78, 79, 80, 81, 82, 83, 61, 84, 85, 68, 63, 86, 87, 88, 41, 89, 43, 44, 45, 90, 91, 92, 77, 93, 94, 95, 96, 97, 98, 99, 100, 101, 102, 69, 39, 40, 42, 103, 104, 105, 106, 107, 108, 109, 110, 111, 112, 113, 26, 114, 28, 54, 55, 56, 57, 37, 38, 33, 34, 35, 36, 115, 116, 117, 118, 119, 14, 120, 121, 122, 123, 124, 125, 126, 127, 128, 129, 130, 131, 132, 133, 134, 135, 136, 137, 138, 139, 140, 141, 21, 22, 142, 143, 144, 145, 146, 147, 148, 149, 150, 151, 152, 153, 161, 162, 163, 164, 173, 174, 175, 176, 165, 166, 167, 170, 171, 172, 168, 169] (by decide +kernel) (by decide +kernel)
set_option maxRecDepth 20000 in
theorem gX7_drawHold_X4_addHold : GoodIn wsX7_drawHold (wsV RX7 101 RX4 yX4_addHold wsX4_addHold) := goodIn_app (goodIn_of _ (by decide +kernel)) ggX7_drawHold_X4_addHold
theorem dX7_drawHold_0 : decode cX7_drawHold 0 = .ok (.aload_n 0, 1) := by decide +kernel
theorem dX7_drawHold_1 : decode cX7_drawHold 1 = .ok (.getfield 31, 3) := by decide +kernel
theorem dX7_drawHold_4 : decode cX7_drawHold 4 = .ok (.bipush 10, 2) := by decide +kernel
theorem dX7_drawHold_6 : decode cX7_drawHold 6 = .ok (.invokevirtual 133, 3) := by decide +kernel
theorem dX7_drawHold_9 : decode cX7_drawHold 9 = .ok (.istore_n 1, 1) := by decide +kernel
theorem dX7_drawHold_10 : decode cX7_drawHold 10 = .ok (.aload_n 0, 1) := by decide +kernel
theorem dX7_drawHold_11 : decode cX7_drawHold 11 = .ok (.getfield 31, 3) := by decide +kernel
theorem dX7_drawHold_14 : decode cX7_drawHold 14 = .ok (.bipush 6, 2) := by decide +kernel
theorem dX7_drawHold_16 : decode cX7_drawHold 16 = .ok (.invokevirtual 133, 3) := by decide +kernel
theorem dX7_drawHold_19 : decode cX7_drawHold 19 = .ok (.istore_n 2, 1) := by decide +kernel
theorem dX7_drawHold_20 : decode cX7_drawHold 20 = .ok (.aload_n 0, 1) := by decide +kernel
theorem dX7_drawHold_21 : decode cX7_drawHold 21 = .ok (.getfield 31, 3) := by decide +kernel
theorem dX7_drawHold_24 : decode cX7_drawHold 24 = .ok (.iconst 4, 1) := by decide +kernel
theorem dX7_drawHold_25 : decode cX7_drawHold 25 = .ok (.invokevirtual 133, 3) := by decide +kernel
theorem dX7_drawHold_28 : decode cX7_drawHold 28 = .ok (.istore_n 3, 1) := by decide +kernel
theorem dX7_drawHold_29 : decode cX7_drawHold 29 = .ok (.aload_n 0, 1) := by decide +kernel
theorem dX7_drawHold_30 : decode cX7_drawHold 30 = .ok (.getfield 31, 3) := by decide +kernel
theorem dX7_drawHold_33 : decode cX7_drawHold 33 = .ok (.iconst 4, 1) := by decide +kernel
theorem dX7_drawHold_34 : decode cX7_drawHold 34 = .ok (.invokevirtual 133, 3) := by decide +kernel
theorem dX7_drawHold_37 : decode cX7_drawHold 37 = .ok (.istore 4, 2) := by decide +kernel
theorem dX7_drawHold_39 : decode cX7_drawHold 39 = .ok (.aload_n 0, 1) := by decide +kernel
theorem dX7_drawHold_40 : decode cX7_drawHold 40 = .ok (.iload_n 1, 1) := by decide +kernel
theorem dX7_drawHold_41 : decode cX7_drawHold 41 = .ok (.iload_n 2, 1) := by decide +kernel
theorem dX7_drawHold_42 : decode cX7_drawHold 42 = .ok (.iload_n 3, 1) := by decide +kernel
theorem dX7_drawHold_43 : decode cX7_drawHold 43 = .ok (.iload 4, 2) := by decide +kernel
theorem dX7_drawHold_45 : decode cX7_drawHold 45 = .ok (.invokevirtual 97, 3) := by decide +kernel
theorem dX7_drawHold_48 : decode cX7_drawHold 48 = .ok (.ifCond .ne 16, 3) := by decide +kernel
theorem dX7_drawHold_51 : decode cX7_drawHold 51 = .ok (.aload_n 0, 1) := by decide +kernel
theorem dX7_drawHold_52 : decode cX7_drawHold 52 = .ok (.getfield 10, 3) := by decide +kernel
theorem dX7_drawHold_55 : decode cX7_drawHold 55 = .ok (.iload_n 1, 1) := by decide +kernel
theorem dX7_drawHold_56 : decode cX7_drawHold 56 = .ok (.iload_n 2, 1) := by decide +kernel
theorem dX7_drawHold_57 : decode cX7_drawHold 57 = .ok (.iload_n 3, 1) := by decide +kernel
theorem dX7_drawHold_58 : decode cX7_drawHold 58 = .ok (.iload 4, 2) := by decide +kernel
theorem dX7_drawHold_60 : decode cX7_drawHold 60 = .ok (.invokevirtual 101, 3) := by decide +kernel
theorem dX7_drawHold_63 : decode cX7_drawHold 63 = .ok (.pop, 1) := by decide +kernel
theorem dX7_drawHold_64 : decode cX7_drawHold 64 = .ok (.return_, 1) := by decide +kernel
set_option maxRecDepth 20000 in
theorem ggX7_drawLending_X5_below : GoodIn wsX7_drawLending wsX5_below := goodIn_r _ [7, 8, 9, 10, 141] (by decide +kernel) (by decide +kernel)
set_option maxRecDepth 20000 in
theorem gX7_drawLending_X5_below : GoodIn wsX7_drawLending (wsV RX7 133 RX5 yX5_below wsX5_below) := goodIn_app (goodIn_of _ (by decide +kernel)) ggX7_drawLending_X5_below
set_option maxRecDepth 20000 in
theorem ggX7_drawLending_X7_refusalToLend : GoodIn wsX7_drawLending wsX7_refusalToLend := goodIn_r _ [15, 16, 1, 17, 18, 19, 20, 14, 21, 22, 23, 24, 25, 26, 27, 28, 29, 30, 31, 32, 33, 34, 35, 36, 37, 38, 39, 40, 41, 42, 43, 44, 45, 46, 47, 48, 49, 50, 51, 52, 53, 54, 55, 56, 57, 58, 59, 60, 61, 62, 63, 64, 65, 66, 67, 68, 69, 70, 71, 72, 73, 74, 75, 76, 77, 78, 79, 80, 81, 82, 83, 129, 130, 131, 132, 133, 134, 135, 136, 137, 138, 139, 140, 142, 143, 144, 145, 146, 147] (by decide +kernel) (by decide +kernel)
set_option maxRecDepth 20000 in
theorem gX7_drawLending_X7_refusalToLend : GoodIn wsX7_drawLending (wsV RX7 58 RX7 yX7_refusalToLend wsX7_refusalToLend) := goodIn_app (goodIn_of _ (by decide +kernel)) ggX7_drawLending_X7_refusalToLend
theorem dX7_drawLending_0 : decode cX7_drawLending 0 = .ok (.aload_n 0, 1) := by decide +kernel
theorem dX7_drawLending_1 : decode cX7_drawLending 1 = .ok (.getfield 10, 3) := by decide +kernel
theorem dX7_drawLending_4 : decode cX7_drawLending 4 = .ok (.getfield 40, 3) := by decide +kernel
theorem dX7_drawLending_7 : decode cX7_drawLending 7 = .ok (.getfield 44, 3) := by decide +kernel
theorem dX7_drawLending_10 : decode cX7_drawLending 10 = .ok (.ifCond .ne 4, 3) := by decide +kernel
theorem dX7_drawLending_13 : decode cX7_drawLending 13 = .ok (.return_, 1) := by decide +kernel
theorem dX7_drawLending_14 : decode cX7_drawLending 14 = .ok (.aload_n 0, 1) := by decide +kernel
theorem dX7_drawLending_15 : decode cX7_drawLending 15 = .ok (.getfield 31, 3) := by decide +kernel
theorem dX7_drawLending_18 : decode cX7_drawLending 18 = .ok (.aload_n 0, 1) := by decide +kernel
theorem dX7_drawLending_19 : decode cX7_drawLending 19 = .ok (.getfield 10, 3) := by decide +kernel
theorem dX7_drawLending_22 : decode cX7_drawLending 22 = .ok (.getfield 40, 3) := by decide +kernel
theorem dX7_drawLending_25 : decode cX7_drawLending 25 = .ok (.getfield 44, 3) := by decide +kernel
theorem dX7_drawLending_28 : decode cX7_drawLending 28 = .ok (.invokevirtual 133, 3) := by decide +kernel
theorem dX7_drawLending_31 : decode cX7_drawLending 31 = .ok (.istore_n 1, 1) := by decide +kernel
theorem dX7_drawLending_32 : decode cX7_drawLending 32 = .ok (.aload_n 0, 1) := by decide +kernel
theorem dX7_drawLending_33 : decode cX7_drawLending 33 = .ok (.getfield 31, 3) := by decide +kernel
theorem dX7_drawLending_36 : decode cX7_drawLending 36 = .ok (.bipush 10, 2) := by decide +kernel
theorem dX7_drawLending_38 : decode cX7_drawLending 38 = .ok (.invokevirtual 133, 3) := by decide +kernel
theorem dX7_drawLending_41 : decode cX7_drawLending 41 = .ok (.istore_n 2, 1) := by decide +kernel
theorem dX7_drawLending_42 : decode cX7_drawLending 42 = .ok (.aload_n 0, 1) := by decide +kernel
theorem dX7_drawLending_43 : decode cX7_drawLending 43 = .ok (.iload_n 1, 1) := by decide +kernel
theorem dX7_drawLending_44 : decode cX7_drawLending 44 = .ok (.iload_n 2, 1) := by decide +kernel
theorem dX7_drawLending_45 : decode cX7_drawLending 45 = .ok (.invokevirtual 58, 3) := by decide +kernel
theorem dX7_drawLending_48 : decode cX7_drawLending 48 = .ok (.ifCond .ne 13, 3) := by decide +kernel
theorem dX7_drawLending_51 : decode cX7_drawLending 51 = .ok (.aload_n 0, 1) := by decide +kernel
theorem dX7_drawLending_52 : decode cX7_drawLending 52 = .ok (.getfield 10, 3) := by decide +kernel
theorem dX7_drawLending_55 : decode cX7_drawLending 55 = .ok (.iload_n 1, 1) := by decide +kernel
theorem dX7_drawLending_56 : decode cX7_drawLending 56 = .ok (.iload_n 2, 1) := by decide +kernel
theorem dX7_drawLending_57 : decode cX7_drawLending 57 = .ok (.invokevirtual 61, 3) := by decide +kernel
theorem dX7_drawLending_60 : decode cX7_drawLending 60 = .ok (.pop, 1) := by decide +kernel
theorem dX7_drawLending_61 : decode cX7_drawLending 61 = .ok (.return_, 1) := by decide +kernel
set_option maxRecDepth 20000 in
theorem ggX7_drawGivingBack_X5_below : GoodIn wsX7_drawGivingBack wsX5_below := goodIn_r _ [7, 8, 9, 10, 148] (by decide +kernel) (by decide +kernel)
set_option maxRecDepth 20000 in
theorem gX7_drawGivingBack_X5_below : GoodIn wsX7_drawGivingBack (wsV RX7 133 RX5 yX5_below wsX5_below) := goodIn_app (goodIn_of _ (by decide +kernel)) ggX7_drawGivingBack_X5_below
set_option maxRecDepth 20000 in
theorem ggX7_drawGivingBack_X7_refusalToTakeBack : GoodIn wsX7_drawGivingBack wsX7_refusalToTakeBack := goodIn_r _ [15, 16, 1, 17, 18, 19, 20, 14, 21, 22, 23, 24, 25, 26, 27, 28, 29, 30, 31, 32, 33, 34, 35, 36, 37, 38, 136, 137, 138, 139, 140, 141, 142, 143, 144, 145, 146, 147, 149, 150, 151] (by decide +kernel) (by decide +kernel)
set_option maxRecDepth 20000 in
theorem gX7_drawGivingBack_X7_refusalToTakeBack : GoodIn wsX7_drawGivingBack (wsV RX7 64 RX7 yX7_refusalToTakeBack wsX7_refusalToTakeBack) := goodIn_app (goodIn_of _ (by decide +kernel)) ggX7_drawGivingBack_X7_refusalToTakeBack
theorem dX7_drawGivingBack_0 : decode cX7_drawGivingBack 0 = .ok (.aload_n 0, 1) := by decide +kernel
theorem dX7_drawGivingBack_1 : decode cX7_drawGivingBack 1 = .ok (.getfield 10, 3) := by decide +kernel
theorem dX7_drawGivingBack_4 : decode cX7_drawGivingBack 4 = .ok (.getfield 40, 3) := by decide +kernel
theorem dX7_drawGivingBack_7 : decode cX7_drawGivingBack 7 = .ok (.getfield 44, 3) := by decide +kernel
theorem dX7_drawGivingBack_10 : decode cX7_drawGivingBack 10 = .ok (.ifCond .ne 4, 3) := by decide +kernel
theorem dX7_drawGivingBack_13 : decode cX7_drawGivingBack 13 = .ok (.return_, 1) := by decide +kernel
theorem dX7_drawGivingBack_14 : decode cX7_drawGivingBack 14 = .ok (.aload_n 0, 1) := by decide +kernel
theorem dX7_drawGivingBack_15 : decode cX7_drawGivingBack 15 = .ok (.getfield 31, 3) := by decide +kernel
theorem dX7_drawGivingBack_18 : decode cX7_drawGivingBack 18 = .ok (.aload_n 0, 1) := by decide +kernel
theorem dX7_drawGivingBack_19 : decode cX7_drawGivingBack 19 = .ok (.getfield 10, 3) := by decide +kernel
theorem dX7_drawGivingBack_22 : decode cX7_drawGivingBack 22 = .ok (.getfield 40, 3) := by decide +kernel
theorem dX7_drawGivingBack_25 : decode cX7_drawGivingBack 25 = .ok (.getfield 44, 3) := by decide +kernel
theorem dX7_drawGivingBack_28 : decode cX7_drawGivingBack 28 = .ok (.invokevirtual 133, 3) := by decide +kernel
theorem dX7_drawGivingBack_31 : decode cX7_drawGivingBack 31 = .ok (.istore_n 1, 1) := by decide +kernel
theorem dX7_drawGivingBack_32 : decode cX7_drawGivingBack 32 = .ok (.aload_n 0, 1) := by decide +kernel
theorem dX7_drawGivingBack_33 : decode cX7_drawGivingBack 33 = .ok (.getfield 31, 3) := by decide +kernel
theorem dX7_drawGivingBack_36 : decode cX7_drawGivingBack 36 = .ok (.iconst 4, 1) := by decide +kernel
theorem dX7_drawGivingBack_37 : decode cX7_drawGivingBack 37 = .ok (.invokevirtual 133, 3) := by decide +kernel
theorem dX7_drawGivingBack_40 : decode cX7_drawGivingBack 40 = .ok (.istore_n 2, 1) := by decide +kernel
theorem dX7_drawGivingBack_41 : decode cX7_drawGivingBack 41 = .ok (.aload_n 0, 1) := by decide +kernel
theorem dX7_drawGivingBack_42 : decode cX7_drawGivingBack 42 = .ok (.iload_n 1, 1) := by decide +kernel
theorem dX7_drawGivingBack_43 : decode cX7_drawGivingBack 43 = .ok (.iload_n 2, 1) := by decide +kernel
theorem dX7_drawGivingBack_44 : decode cX7_drawGivingBack 44 = .ok (.invokevirtual 64, 3) := by decide +kernel
theorem dX7_drawGivingBack_47 : decode cX7_drawGivingBack 47 = .ok (.ifCond .ne 13, 3) := by decide +kernel
theorem dX7_drawGivingBack_50 : decode cX7_drawGivingBack 50 = .ok (.aload_n 0, 1) := by decide +kernel
theorem dX7_drawGivingBack_51 : decode cX7_drawGivingBack 51 = .ok (.getfield 10, 3) := by decide +kernel
theorem dX7_drawGivingBack_54 : decode cX7_drawGivingBack 54 = .ok (.iload_n 1, 1) := by decide +kernel
theorem dX7_drawGivingBack_55 : decode cX7_drawGivingBack 55 = .ok (.iload_n 2, 1) := by decide +kernel
theorem dX7_drawGivingBack_56 : decode cX7_drawGivingBack 56 = .ok (.invokevirtual 67, 3) := by decide +kernel
theorem dX7_drawGivingBack_59 : decode cX7_drawGivingBack 59 = .ok (.pop, 1) := by decide +kernel
theorem dX7_drawGivingBack_60 : decode cX7_drawGivingBack 60 = .ok (.return_, 1) := by decide +kernel
theorem dX7_isBelow_0 : decode cX7_isBelow 0 = .ok (.iconst 0, 1) := by decide +kernel
theorem dX7_isBelow_1 : decode cX7_isBelow 1 = .ok (.iload_n 0, 1) := by decide +kernel
theorem dX7_isBelow_2 : decode cX7_isBelow 2 = .ok (.if_icmp .gt 12, 3) := by decide +kernel
theorem dX7_isBelow_5 : decode cX7_isBelow 5 = .ok (.iload_n 0, 1) := by decide +kernel
theorem dX7_isBelow_6 : decode cX7_isBelow 6 = .ok (.iload_n 1, 1) := by decide +kernel
theorem dX7_isBelow_7 : decode cX7_isBelow 7 = .ok (.if_icmp .ge 7, 3) := by decide +kernel
theorem dX7_isBelow_10 : decode cX7_isBelow 10 = .ok (.iconst 1, 1) := by decide +kernel
theorem dX7_isBelow_11 : decode cX7_isBelow 11 = .ok (.goto 4, 3) := by decide +kernel
theorem dX7_isBelow_14 : decode cX7_isBelow 14 = .ok (.iconst 0, 1) := by decide +kernel
theorem dX7_isBelow_15 : decode cX7_isBelow 15 = .ok (.ireturn, 1) := by decide +kernel
end
section
theorem dX8_init_0 : decode cX8_init 0 = .ok (.aload_n 0, 1) := by decide +kernel
theorem dX8_init_1 : decode cX8_init 1 = .ok (.invokespecial 1, 3) := by decide +kernel
theorem dX8_init_4 : decode cX8_init 4 = .ok (.aload_n 0, 1) := by decide +kernel
theorem dX8_init_5 : decode cX8_init 5 = .ok (.sipush 172, 3) := by decide +kernel
theorem dX8_init_8 : decode cX8_init 8 = .ok (.newarray .int, 2) := by decide +kernel
theorem dX8_init_10 : decode cX8_init 10 = .ok (.putfield 7, 3) := by decide +kernel
theorem dX8_init_13 : decode cX8_init 13 = .ok (.aload_n 0, 1) := by decide +kernel
theorem dX8_init_14 : decode cX8_init 14 = .ok (.sipush 1376, 3) := by decide +kernel
theorem dX8_init_17 : decode cX8_init 17 = .ok (.newarray .int, 2) := by decide +kernel
theorem dX8_init_19 : decode cX8_init 19 = .ok (.putfield 13, 3) := by decide +kernel
theorem dX8_init_22 : decode cX8_init 22 = .ok (.aload_n 0, 1) := by decide +kernel
theorem dX8_init_23 : decode cX8_init 23 = .ok (.sipush 344, 3) := by decide +kernel
theorem dX8_init_26 : decode cX8_init 26 = .ok (.newarray .int, 2) := by decide +kernel
theorem dX8_init_28 : decode cX8_init 28 = .ok (.putfield 16, 3) := by decide +kernel
theorem dX8_init_31 : decode cX8_init 31 = .ok (.aload_n 0, 1) := by decide +kernel
theorem dX8_init_32 : decode cX8_init 32 = .ok (.iconst 2, 1) := by decide +kernel
theorem dX8_init_33 : decode cX8_init 33 = .ok (.newarray .boolean, 2) := by decide +kernel
theorem dX8_init_35 : decode cX8_init 35 = .ok (.putfield 19, 3) := by decide +kernel
theorem dX8_init_38 : decode cX8_init 38 = .ok (.aload_n 0, 1) := by decide +kernel
theorem dX8_init_39 : decode cX8_init 39 = .ok (.getfield 7, 3) := by decide +kernel
theorem dX8_init_42 : decode cX8_init 42 = .ok (.iconst 1, 1) := by decide +kernel
theorem dX8_init_43 : decode cX8_init 43 = .ok (.bipush 14, 2) := by decide +kernel
theorem dX8_init_45 : decode cX8_init 45 = .ok (.iastore, 1) := by decide +kernel
theorem dX8_init_46 : decode cX8_init 46 = .ok (.aload_n 0, 1) := by decide +kernel
theorem dX8_init_47 : decode cX8_init 47 = .ok (.getfield 7, 3) := by decide +kernel
theorem dX8_init_50 : decode cX8_init 50 = .ok (.iconst 2, 1) := by decide +kernel
theorem dX8_init_51 : decode cX8_init 51 = .ok (.iconst 3, 1) := by decide +kernel
theorem dX8_init_52 : decode cX8_init 52 = .ok (.iastore, 1) := by decide +kernel
theorem dX8_init_53 : decode cX8_init 53 = .ok (.aload_n 0, 1) := by decide +kernel
theorem dX8_init_54 : decode cX8_init 54 = .ok (.getfield 7, 3) := by decide +kernel
theorem dX8_init_57 : decode cX8_init 57 = .ok (.iconst 3, 1) := by decide +kernel
theorem dX8_init_58 : decode cX8_init 58 = .ok (.bipush 64, 2) := by decide +kernel
theorem dX8_init_60 : decode cX8_init 60 = .ok (.iastore, 1) := by decide +kernel
theorem dX8_init_61 : decode cX8_init 61 = .ok (.return_, 1) := by decide +kernel
theorem dX8_in_0 : decode cX8_in 0 = .ok (.lload_n 0, 1) := by decide +kernel
theorem dX8_in_1 : decode cX8_in 1 = .ok (.lload_n 2, 1) := by decide +kernel
theorem dX8_in_2 : decode cX8_in 2 = .ok (.lcmp, 1) := by decide +kernel
theorem dX8_in_3 : decode cX8_in 3 = .ok (.ifCond .lt 14, 3) := by decide +kernel
theorem dX8_in_6 : decode cX8_in 6 = .ok (.lload_n 0, 1) := by decide +kernel
theorem dX8_in_7 : decode cX8_in 7 = .ok (.lload 4, 2) := by decide +kernel
theorem dX8_in_9 : decode cX8_in 9 = .ok (.lcmp, 1) := by decide +kernel
theorem dX8_in_10 : decode cX8_in 10 = .ok (.ifCond .gt 7, 3) := by decide +kernel
theorem dX8_in_13 : decode cX8_in 13 = .ok (.iconst 1, 1) := by decide +kernel
theorem dX8_in_14 : decode cX8_in 14 = .ok (.goto 4, 3) := by decide +kernel
theorem dX8_in_17 : decode cX8_in 17 = .ok (.iconst 0, 1) := by decide +kernel
theorem dX8_in_18 : decode cX8_in 18 = .ok (.ireturn, 1) := by decide +kernel
theorem dX8_has_0 : decode cX8_has 0 = .ok (.iload_n 0, 1) := by decide +kernel
theorem dX8_has_1 : decode cX8_has 1 = .ok (.iload_n 1, 1) := by decide +kernel
theorem dX8_has_2 : decode cX8_has 2 = .ok (.ishr, 1) := by decide +kernel
theorem dX8_has_3 : decode cX8_has 3 = .ok (.iconst 1, 1) := by decide +kernel
theorem dX8_has_4 : decode cX8_has 4 = .ok (.iand, 1) := by decide +kernel
theorem dX8_has_5 : decode cX8_has 5 = .ok (.iconst 1, 1) := by decide +kernel
theorem dX8_has_6 : decode cX8_has 6 = .ok (.if_icmp .ne 7, 3) := by decide +kernel
theorem dX8_has_9 : decode cX8_has 9 = .ok (.iconst 1, 1) := by decide +kernel
theorem dX8_has_10 : decode cX8_has 10 = .ok (.goto 4, 3) := by decide +kernel
theorem dX8_has_13 : decode cX8_has 13 = .ok (.iconst 0, 1) := by decide +kernel
theorem dX8_has_14 : decode cX8_has 14 = .ok (.ireturn, 1) := by decide +kernel
theorem dX8_holdAt_0 : decode cX8_holdAt 0 = .ok (.aload_n 0, 1) := by decide +kernel
theorem dX8_holdAt_1 : decode cX8_holdAt 1 = .ok (.getfield 7, 3) := by decide +kernel
theorem dX8_holdAt_4 : decode cX8_holdAt 4 = .ok (.bipush 88, 2) := by decide +kernel
theorem dX8_holdAt_6 : decode cX8_holdAt 6 = .ok (.bipush 7, 2) := by decide +kernel
theorem dX8_holdAt_8 : decode cX8_holdAt 8 = .ok (.iload_n 1, 1) := by decide +kernel
theorem dX8_holdAt_9 : decode cX8_holdAt 9 = .ok (.imul, 1) := by decide +kernel
theorem dX8_holdAt_10 : decode cX8_holdAt 10 = .ok (.iadd, 1) := by decide +kernel
theorem dX8_holdAt_11 : decode cX8_holdAt 11 = .ok (.iload_n 2, 1) := by decide +kernel
theorem dX8_holdAt_12 : decode cX8_holdAt 12 = .ok (.iadd, 1) := by decide +kernel
theorem dX8_holdAt_13 : decode cX8_holdAt 13 = .ok (.iaload, 1) := by decide +kernel
theorem dX8_holdAt_14 : decode cX8_holdAt 14 = .ok (.ireturn, 1) := by decide +kernel
theorem dX8_setCopy_0 : decode cX8_setCopy 0 = .ok (.aload_n 0, 1) := by decide +kernel
theorem dX8_setCopy_1 : decode cX8_setCopy 1 = .ok (.getfield 7, 3) := by decide +kernel
theorem dX8_setCopy_4 : decode cX8_setCopy 4 = .ok (.bipush 8, 2) := by decide +kernel
theorem dX8_setCopy_6 : decode cX8_setCopy 6 = .ok (.iconst 5, 1) := by decide +kernel
theorem dX8_setCopy_7 : decode cX8_setCopy 7 = .ok (.iload_n 1, 1) := by decide +kernel
theorem dX8_setCopy_8 : decode cX8_setCopy 8 = .ok (.imul, 1) := by decide +kernel
theorem dX8_setCopy_9 : decode cX8_setCopy 9 = .ok (.iadd, 1) := by decide +kernel
theorem dX8_setCopy_10 : decode cX8_setCopy 10 = .ok (.iconst 2, 1) := by decide +kernel
theorem dX8_setCopy_11 : decode cX8_setCopy 11 = .ok (.iadd, 1) := by decide +kernel
theorem dX8_setCopy_12 : decode cX8_setCopy 12 = .ok (.iload_n 2, 1) := by decide +kernel
theorem dX8_setCopy_13 : decode cX8_setCopy 13 = .ok (.iastore, 1) := by decide +kernel
theorem dX8_setCopy_14 : decode cX8_setCopy 14 = .ok (.aload_n 0, 1) := by decide +kernel
theorem dX8_setCopy_15 : decode cX8_setCopy 15 = .ok (.getfield 7, 3) := by decide +kernel
theorem dX8_setCopy_18 : decode cX8_setCopy 18 = .ok (.bipush 8, 2) := by decide +kernel
theorem dX8_setCopy_20 : decode cX8_setCopy 20 = .ok (.iconst 5, 1) := by decide +kernel
theorem dX8_setCopy_21 : decode cX8_setCopy 21 = .ok (.iload_n 1, 1) := by decide +kernel
theorem dX8_setCopy_22 : decode cX8_setCopy 22 = .ok (.imul, 1) := by decide +kernel
theorem dX8_setCopy_23 : decode cX8_setCopy 23 = .ok (.iadd, 1) := by decide +kernel
theorem dX8_setCopy_24 : decode cX8_setCopy 24 = .ok (.iconst 3, 1) := by decide +kernel
theorem dX8_setCopy_25 : decode cX8_setCopy 25 = .ok (.iadd, 1) := by decide +kernel
theorem dX8_setCopy_26 : decode cX8_setCopy 26 = .ok (.iload_n 3, 1) := by decide +kernel
theorem dX8_setCopy_27 : decode cX8_setCopy 27 = .ok (.iastore, 1) := by decide +kernel
theorem dX8_setCopy_28 : decode cX8_setCopy 28 = .ok (.aload_n 0, 1) := by decide +kernel
theorem dX8_setCopy_29 : decode cX8_setCopy 29 = .ok (.getfield 7, 3) := by decide +kernel
theorem dX8_setCopy_32 : decode cX8_setCopy 32 = .ok (.bipush 8, 2) := by decide +kernel
theorem dX8_setCopy_34 : decode cX8_setCopy 34 = .ok (.iconst 5, 1) := by decide +kernel
theorem dX8_setCopy_35 : decode cX8_setCopy 35 = .ok (.iload_n 1, 1) := by decide +kernel
theorem dX8_setCopy_36 : decode cX8_setCopy 36 = .ok (.imul, 1) := by decide +kernel
theorem dX8_setCopy_37 : decode cX8_setCopy 37 = .ok (.iadd, 1) := by decide +kernel
theorem dX8_setCopy_38 : decode cX8_setCopy 38 = .ok (.iconst 4, 1) := by decide +kernel
theorem dX8_setCopy_39 : decode cX8_setCopy 39 = .ok (.iadd, 1) := by decide +kernel
theorem dX8_setCopy_40 : decode cX8_setCopy 40 = .ok (.iload 4, 2) := by decide +kernel
theorem dX8_setCopy_42 : decode cX8_setCopy 42 = .ok (.iastore, 1) := by decide +kernel
theorem dX8_setCopy_43 : decode cX8_setCopy 43 = .ok (.return_, 1) := by decide +kernel
set_option maxRecDepth 20000 in
theorem ggX8_isCopy_X8_in : GoodIn wsX8_isCopy wsX8_in := goodIn_r _ [5] (by decide +kernel) (by decide +kernel)
set_option maxRecDepth 20000 in
theorem gX8_isCopy_X8_in : GoodIn wsX8_isCopy (va_wsS RX8 23 yX8_in wsX8_in) := goodIn_app (goodIn_of _ (by decide +kernel)) ggX8_isCopy_X8_in
theorem dX8_isCopy_0 : decode cX8_isCopy 0 = .ok (.iload_n 1, 1) := by decide +kernel
theorem dX8_isCopy_1 : decode cX8_isCopy 1 = .ok (.i2l, 1) := by decide +kernel
theorem dX8_isCopy_2 : decode cX8_isCopy 2 = .ok (.lconst 0, 1) := by decide +kernel
theorem dX8_isCopy_3 : decode cX8_isCopy 3 = .ok (.aload_n 0, 1) := by decide +kernel
theorem dX8_isCopy_4 : decode cX8_isCopy 4 = .ok (.getfield 7, 3) := by decide +kernel
theorem dX8_isCopy_7 : decode cX8_isCopy 7 = .ok (.iconst 4, 1) := by decide +kernel
theorem dX8_isCopy_8 : decode cX8_isCopy 8 = .ok (.iaload, 1) := by decide +kernel
theorem dX8_isCopy_9 : decode cX8_isCopy 9 = .ok (.iconst 1, 1) := by decide +kernel
theorem dX8_isCopy_10 : decode cX8_isCopy 10 = .ok (.isub, 1) := by decide +kernel
theorem dX8_isCopy_11 : decode cX8_isCopy 11 = .ok (.i2l, 1) := by decide +kernel
theorem dX8_isCopy_12 : decode cX8_isCopy 12 = .ok (.invokestatic 23, 3) := by decide +kernel
theorem dX8_isCopy_15 : decode cX8_isCopy 15 = .ok (.ireturn, 1) := by decide +kernel
set_option maxRecDepth 20000 in
theorem ggX8_isBranch_X8_in : GoodIn wsX8_isBranch wsX8_in := goodIn_r _ [5] (by decide +kernel) (by decide +kernel)
set_option maxRecDepth 20000 in
theorem gX8_isBranch_X8_in : GoodIn wsX8_isBranch (va_wsS RX8 23 yX8_in wsX8_in) := goodIn_app (goodIn_of _ (by decide +kernel)) ggX8_isBranch_X8_in
theorem dX8_isBranch_0 : decode cX8_isBranch 0 = .ok (.iload_n 0, 1) := by decide +kernel
theorem dX8_isBranch_1 : decode cX8_isBranch 1 = .ok (.i2l, 1) := by decide +kernel
theorem dX8_isBranch_2 : decode cX8_isBranch 2 = .ok (.lconst 0, 1) := by decide +kernel
theorem dX8_isBranch_3 : decode cX8_isBranch 3 = .ok (.ldc2_w 27, 3) := by decide +kernel
theorem dX8_isBranch_6 : decode cX8_isBranch 6 = .ok (.invokestatic 23, 3) := by decide +kernel
theorem dX8_isBranch_9 : decode cX8_isBranch 9 = .ok (.ireturn, 1) := by decide +kernel
set_option maxRecDepth 20000 in
theorem ggX8_isTitle_X8_in : GoodIn wsX8_isTitle wsX8_in := goodIn_r _ [5] (by decide +kernel) (by decide +kernel)
set_option maxRecDepth 20000 in
theorem gX8_isTitle_X8_in : GoodIn wsX8_isTitle (va_wsS RX8 23 yX8_in wsX8_in) := goodIn_app (goodIn_of _ (by decide +kernel)) ggX8_isTitle_X8_in
theorem dX8_isTitle_0 : decode cX8_isTitle 0 = .ok (.iload_n 0, 1) := by decide +kernel
theorem dX8_isTitle_1 : decode cX8_isTitle 1 = .ok (.i2l, 1) := by decide +kernel
theorem dX8_isTitle_2 : decode cX8_isTitle 2 = .ok (.lconst 0, 1) := by decide +kernel
theorem dX8_isTitle_3 : decode cX8_isTitle 3 = .ok (.ldc2_w 29, 3) := by decide +kernel
theorem dX8_isTitle_6 : decode cX8_isTitle 6 = .ok (.invokestatic 23, 3) := by decide +kernel
theorem dX8_isTitle_9 : decode cX8_isTitle 9 = .ok (.ireturn, 1) := by decide +kernel
set_option maxRecDepth 20000 in
theorem ggX8_isReader_X8_in : GoodIn wsX8_isReader wsX8_in := goodIn_r _ [5] (by decide +kernel) (by decide +kernel)
set_option maxRecDepth 20000 in
theorem gX8_isReader_X8_in : GoodIn wsX8_isReader (va_wsS RX8 23 yX8_in wsX8_in) := goodIn_app (goodIn_of _ (by decide +kernel)) ggX8_isReader_X8_in
theorem dX8_isReader_0 : decode cX8_isReader 0 = .ok (.iload_n 0, 1) := by decide +kernel
theorem dX8_isReader_1 : decode cX8_isReader 1 = .ok (.i2l, 1) := by decide +kernel
theorem dX8_isReader_2 : decode cX8_isReader 2 = .ok (.lconst 0, 1) := by decide +kernel
theorem dX8_isReader_3 : decode cX8_isReader 3 = .ok (.ldc2_w 31, 3) := by decide +kernel
theorem dX8_isReader_6 : decode cX8_isReader 6 = .ok (.invokestatic 23, 3) := by decide +kernel
theorem dX8_isReader_9 : decode cX8_isReader 9 = .ok (.ireturn, 1) := by decide +kernel
set_option maxRecDepth 20000 in
theorem ggX8_isClosed_X8_has : GoodIn wsX8_isClosed wsX8_has := goodIn_r _ [5] (by decide +kernel) (by decide +kernel)
set_option maxRecDepth 20000 in
theorem gX8_isClosed_X8_has : GoodIn wsX8_isClosed (va_wsS RX8 33 yX8_has wsX8_has) := goodIn_app (goodIn_of _ (by decide +kernel)) ggX8_isClosed_X8_has
theorem dX8_isClosed_0 : decode cX8_isClosed 0 = .ok (.aload_n 0, 1) := by decide +kernel
theorem dX8_isClosed_1 : decode cX8_isClosed 1 = .ok (.getfield 7, 3) := by decide +kernel
theorem dX8_isClosed_4 : decode cX8_isClosed 4 = .ok (.iconst 3, 1) := by decide +kernel
theorem dX8_isClosed_5 : decode cX8_isClosed 5 = .ok (.iaload, 1) := by decide +kernel
theorem dX8_isClosed_6 : decode cX8_isClosed 6 = .ok (.iload_n 1, 1) := by decide +kernel
theorem dX8_isClosed_7 : decode cX8_isClosed 7 = .ok (.bipush 7, 2) := by decide +kernel
theorem dX8_isClosed_9 : decode cX8_isClosed 9 = .ok (.irem, 1) := by decide +kernel
theorem dX8_isClosed_10 : decode cX8_isClosed 10 = .ok (.invokestatic 33, 3) := by decide +kernel
theorem dX8_isClosed_13 : decode cX8_isClosed 13 = .ok (.ireturn, 1) := by decide +kernel
set_option maxRecDepth 20000 in
theorem ggX8_findHold_X8_holdAt : GoodIn wsX8_findHold wsX8_holdAt := goodIn_r _ [6, 1, 7, 8, 9, 10, 11, 12] (by decide +kernel) (by decide +kernel)
set_option maxRecDepth 20000 in
theorem gX8_findHold_X8_holdAt : GoodIn wsX8_findHold (wsV RX8 41 RX8 yX8_holdAt wsX8_holdAt) := goodIn_app (goodIn_of _ (by decide +kernel)) ggX8_findHold_X8_holdAt
theorem dX8_findHold_0 : decode cX8_findHold 0 = .ok (.iconst (-1), 1) := by decide +kernel
theorem dX8_findHold_1 : decode cX8_findHold 1 = .ok (.istore_n 2, 1) := by decide +kernel
theorem dX8_findHold_2 : decode cX8_findHold 2 = .ok (.iconst 0, 1) := by decide +kernel
theorem dX8_findHold_3 : decode cX8_findHold 3 = .ok (.istore_n 3, 1) := by decide +kernel
theorem dX8_findHold_4 : decode cX8_findHold 4 = .ok (.iload_n 3, 1) := by decide +kernel
theorem dX8_findHold_5 : decode cX8_findHold 5 = .ok (.aload_n 0, 1) := by decide +kernel
theorem dX8_findHold_6 : decode cX8_findHold 6 = .ok (.getfield 7, 3) := by decide +kernel
theorem dX8_findHold_9 : decode cX8_findHold 9 = .ok (.iconst 5, 1) := by decide +kernel
theorem dX8_findHold_10 : decode cX8_findHold 10 = .ok (.iaload, 1) := by decide +kernel
theorem dX8_findHold_11 : decode cX8_findHold 11 = .ok (.if_icmp .ge 25, 3) := by decide +kernel
theorem dX8_findHold_14 : decode cX8_findHold 14 = .ok (.aload_n 0, 1) := by decide +kernel
theorem dX8_findHold_15 : decode cX8_findHold 15 = .ok (.iload_n 3, 1) := by decide +kernel
theorem dX8_findHold_16 : decode cX8_findHold 16 = .ok (.iconst 0, 1) := by decide +kernel
theorem dX8_findHold_17 : decode cX8_findHold 17 = .ok (.invokevirtual 41, 3) := by decide +kernel
theorem dX8_findHold_20 : decode cX8_findHold 20 = .ok (.iload_n 1, 1) := by decide +kernel
theorem dX8_findHold_21 : decode cX8_findHold 21 = .ok (.if_icmp .ne 7, 3) := by decide +kernel
theorem dX8_findHold_24 : decode cX8_findHold 24 = .ok (.iload_n 3, 1) := by decide +kernel
theorem dX8_findHold_25 : decode cX8_findHold 25 = .ok (.goto 4, 3) := by decide +kernel
theorem dX8_findHold_28 : decode cX8_findHold 28 = .ok (.iload_n 2, 1) := by decide +kernel
theorem dX8_findHold_29 : decode cX8_findHold 29 = .ok (.istore_n 2, 1) := by decide +kernel
theorem dX8_findHold_30 : decode cX8_findHold 30 = .ok (.iinc 3 1, 3) := by decide +kernel
theorem dX8_findHold_33 : decode cX8_findHold 33 = .ok (.goto (-29), 3) := by decide +kernel
theorem dX8_findHold_36 : decode cX8_findHold 36 = .ok (.iload_n 2, 1) := by decide +kernel
theorem dX8_findHold_37 : decode cX8_findHold 37 = .ok (.ireturn, 1) := by decide +kernel
set_option maxRecDepth 20000 in
theorem ggX8_isAhead_X8_holdAt : GoodIn wsX8_isAhead wsX8_holdAt := goodIn_r _ [5, 6, 7, 8, 9, 10, 11, 12] (by decide +kernel) (by decide +kernel)
set_option maxRecDepth 20000 in
theorem gX8_isAhead_X8_holdAt : GoodIn wsX8_isAhead (wsV RX8 41 RX8 yX8_holdAt wsX8_holdAt) := goodIn_app (goodIn_of _ (by decide +kernel)) ggX8_isAhead_X8_holdAt
theorem dX8_isAhead_0 : decode cX8_isAhead 0 = .ok (.aload_n 0, 1) := by decide +kernel
theorem dX8_isAhead_1 : decode cX8_isAhead 1 = .ok (.iload_n 1, 1) := by decide +kernel
theorem dX8_isAhead_2 : decode cX8_isAhead 2 = .ok (.iconst 4, 1) := by decide +kernel
theorem dX8_isAhead_3 : decode cX8_isAhead 3 = .ok (.invokevirtual 41, 3) := by decide +kernel
theorem dX8_isAhead_6 : decode cX8_isAhead 6 = .ok (.aload_n 0, 1) := by decide +kernel
theorem dX8_isAhead_7 : decode cX8_isAhead 7 = .ok (.iload_n 2, 1) := by decide +kernel
theorem dX8_isAhead_8 : decode cX8_isAhead 8 = .ok (.iconst 4, 1) := by decide +kernel
theorem dX8_isAhead_9 : decode cX8_isAhead 9 = .ok (.invokevirtual 41, 3) := by decide +kernel
theorem dX8_isAhead_12 : decode cX8_isAhead 12 = .ok (.if_icmp .gt 33, 3) := by decide +kernel
theorem dX8_isAhead_15 : decode cX8_isAhead 15 = .ok (.aload_n 0, 1) := by decide +kernel
theorem dX8_isAhead_16 : decode cX8_isAhead 16 = .ok (.iload_n 1, 1) := by decide +kernel
theorem dX8_isAhead_17 : decode cX8_isAhead 17 = .ok (.iconst 4, 1) := by decide +kernel
theorem dX8_isAhead_18 : decode cX8_isAhead 18 = .ok (.invokevirtual 41, 3) := by decide +kernel
theorem dX8_isAhead_21 : decode cX8_isAhead 21 = .ok (.aload_n 0, 1) := by decide +kernel
theorem dX8_isAhead_22 : decode cX8_isAhead 22 = .ok (.iload_n 2, 1) := by decide +kernel
theorem dX8_isAhead_23 : decode cX8_isAhead 23 = .ok (.iconst 4, 1) := by decide +kernel
theorem dX8_isAhead_24 : decode cX8_isAhead 24 = .ok (.invokevirtual 41, 3) := by decide +kernel
theorem dX8_isAhead_27 : decode cX8_isAhead 27 = .ok (.if_icmp .ne 22, 3) := by decide +kernel
theorem dX8_isAhead_30 : decode cX8_isAhead 30 = .ok (.aload_n 0, 1) := by decide +kernel
theorem dX8_isAhead_31 : decode cX8_isAhead 31 = .ok (.iload_n 1, 1) := by decide +kernel
theorem dX8_isAhead_32 : decode cX8_isAhead 32 = .ok (.iconst 0, 1) := by decide +kernel
theorem dX8_isAhead_33 : decode cX8_isAhead 33 = .ok (.invokevirtual 41, 3) := by decide +kernel
theorem dX8_isAhead_36 : decode cX8_isAhead 36 = .ok (.aload_n 0, 1) := by decide +kernel
theorem dX8_isAhead_37 : decode cX8_isAhead 37 = .ok (.iload_n 2, 1) := by decide +kernel
theorem dX8_isAhead_38 : decode cX8_isAhead 38 = .ok (.iconst 0, 1) := by decide +kernel
theorem dX8_isAhead_39 : decode cX8_isAhead 39 = .ok (.invokevirtual 41, 3) := by decide +kernel
theorem dX8_isAhead_42 : decode cX8_isAhead 42 = .ok (.if_icmp .ge 7, 3) := by decide +kernel
theorem dX8_isAhead_45 : decode cX8_isAhead 45 = .ok (.iconst 1, 1) := by decide +kernel
theorem dX8_isAhead_46 : decode cX8_isAhead 46 = .ok (.goto 4, 3) := by decide +kernel
theorem dX8_isAhead_49 : decode cX8_isAhead 49 = .ok (.iconst 0, 1) := by decide +kernel
theorem dX8_isAhead_50 : decode cX8_isAhead 50 = .ok (.ireturn, 1) := by decide +kernel
set_option maxRecDepth 20000 in
theorem ggX8_waitsFor_X8_holdAt : GoodIn wsX8_waitsFor wsX8_holdAt := goodIn_r _ [5, 6, 7, 8, 9, 10, 11, 12] (by decide +kernel) (by decide +kernel)
set_option maxRecDepth 20000 in
theorem gX8_waitsFor_X8_holdAt : GoodIn wsX8_waitsFor (wsV RX8 41 RX8 yX8_holdAt wsX8_holdAt) := goodIn_app (goodIn_of _ (by decide +kernel)) ggX8_waitsFor_X8_holdAt
theorem dX8_waitsFor_0 : decode cX8_waitsFor 0 = .ok (.aload_n 0, 1) := by decide +kernel
theorem dX8_waitsFor_1 : decode cX8_waitsFor 1 = .ok (.iload_n 1, 1) := by decide +kernel
theorem dX8_waitsFor_2 : decode cX8_waitsFor 2 = .ok (.iconst 2, 1) := by decide +kernel
theorem dX8_waitsFor_3 : decode cX8_waitsFor 3 = .ok (.invokevirtual 41, 3) := by decide +kernel
theorem dX8_waitsFor_6 : decode cX8_waitsFor 6 = .ok (.iload_n 2, 1) := by decide +kernel
theorem dX8_waitsFor_7 : decode cX8_waitsFor 7 = .ok (.if_icmp .ne 17, 3) := by decide +kernel
theorem dX8_waitsFor_10 : decode cX8_waitsFor 10 = .ok (.aload_n 0, 1) := by decide +kernel
theorem dX8_waitsFor_11 : decode cX8_waitsFor 11 = .ok (.iload_n 1, 1) := by decide +kernel
theorem dX8_waitsFor_12 : decode cX8_waitsFor 12 = .ok (.bipush 6, 2) := by decide +kernel
theorem dX8_waitsFor_14 : decode cX8_waitsFor 14 = .ok (.invokevirtual 41, 3) := by decide +kernel
theorem dX8_waitsFor_17 : decode cX8_waitsFor 17 = .ok (.ifCond .ne 7, 3) := by decide +kernel
theorem dX8_waitsFor_20 : decode cX8_waitsFor 20 = .ok (.iconst 1, 1) := by decide +kernel
theorem dX8_waitsFor_21 : decode cX8_waitsFor 21 = .ok (.goto 4, 3) := by decide +kernel
theorem dX8_waitsFor_24 : decode cX8_waitsFor 24 = .ok (.iconst 0, 1) := by decide +kernel
theorem dX8_waitsFor_25 : decode cX8_waitsFor 25 = .ok (.ireturn, 1) := by decide +kernel
set_option maxRecDepth 20000 in
theorem ggX8_firstOf_X8_waitsFor : GoodIn wsX8_firstOf wsX8_waitsFor := goodIn_r _ [6, 7, 8, 9, 5, 10, 1, 15, 16, 17, 18, 19, 20] (by decide +kernel) (by decide +kernel)
set_option maxRecDepth 20000 in
theorem gX8_firstOf_X8_waitsFor : GoodIn wsX8_firstOf (wsV RX8 45 RX8 yX8_waitsFor wsX8_waitsFor) := goodIn_app (goodIn_of _ (by decide +kernel)) ggX8_firstOf_X8_waitsFor
set_option maxRecDepth 20000 in
theorem ggX8_firstOf_X8_isAhead : GoodIn wsX8_firstOf wsX8_isAhead := goodIn_r _ [14, 7, 8, 9, 5, 10, 1, 15, 16, 17, 18, 19, 20] (by decide +kernel) (by decide +kernel)
set_option maxRecDepth 20000 in
theorem gX8_firstOf_X8_isAhead : GoodIn wsX8_firstOf (wsV RX8 48 RX8 yX8_isAhead wsX8_isAhead) := goodIn_app (goodIn_of _ (by decide +kernel)) ggX8_firstOf_X8_isAhead
theorem dX8_firstOf_0 : decode cX8_firstOf 0 = .ok (.iconst (-1), 1) := by decide +kernel
theorem dX8_firstOf_1 : decode cX8_firstOf 1 = .ok (.istore_n 2, 1) := by decide +kernel
theorem dX8_firstOf_2 : decode cX8_firstOf 2 = .ok (.iconst 0, 1) := by decide +kernel
theorem dX8_firstOf_3 : decode cX8_firstOf 3 = .ok (.istore_n 3, 1) := by decide +kernel
theorem dX8_firstOf_4 : decode cX8_firstOf 4 = .ok (.iload_n 3, 1) := by decide +kernel
theorem dX8_firstOf_5 : decode cX8_firstOf 5 = .ok (.aload_n 0, 1) := by decide +kernel
theorem dX8_firstOf_6 : decode cX8_firstOf 6 = .ok (.getfield 7, 3) := by decide +kernel
theorem dX8_firstOf_9 : decode cX8_firstOf 9 = .ok (.iconst 5, 1) := by decide +kernel
theorem dX8_firstOf_10 : decode cX8_firstOf 10 = .ok (.iaload, 1) := by decide +kernel
theorem dX8_firstOf_11 : decode cX8_firstOf 11 = .ok (.if_icmp .ge 37, 3) := by decide +kernel
theorem dX8_firstOf_14 : decode cX8_firstOf 14 = .ok (.aload_n 0, 1) := by decide +kernel
theorem dX8_firstOf_15 : decode cX8_firstOf 15 = .ok (.iload_n 3, 1) := by decide +kernel
theorem dX8_firstOf_16 : decode cX8_firstOf 16 = .ok (.iload_n 1, 1) := by decide +kernel
theorem dX8_firstOf_17 : decode cX8_firstOf 17 = .ok (.invokevirtual 45, 3) := by decide +kernel
theorem dX8_firstOf_20 : decode cX8_firstOf 20 = .ok (.ifCond .eq 20, 3) := by decide +kernel
theorem dX8_firstOf_23 : decode cX8_firstOf 23 = .ok (.iload_n 2, 1) := by decide +kernel
theorem dX8_firstOf_24 : decode cX8_firstOf 24 = .ok (.ifCond .lt 12, 3) := by decide +kernel
theorem dX8_firstOf_27 : decode cX8_firstOf 27 = .ok (.aload_n 0, 1) := by decide +kernel
theorem dX8_firstOf_28 : decode cX8_firstOf 28 = .ok (.iload_n 3, 1) := by decide +kernel
theorem dX8_firstOf_29 : decode cX8_firstOf 29 = .ok (.iload_n 2, 1) := by decide +kernel
theorem dX8_firstOf_30 : decode cX8_firstOf 30 = .ok (.invokevirtual 48, 3) := by decide +kernel
theorem dX8_firstOf_33 : decode cX8_firstOf 33 = .ok (.ifCond .eq 7, 3) := by decide +kernel
theorem dX8_firstOf_36 : decode cX8_firstOf 36 = .ok (.iload_n 3, 1) := by decide +kernel
theorem dX8_firstOf_37 : decode cX8_firstOf 37 = .ok (.goto 4, 3) := by decide +kernel
theorem dX8_firstOf_40 : decode cX8_firstOf 40 = .ok (.iload_n 2, 1) := by decide +kernel
theorem dX8_firstOf_41 : decode cX8_firstOf 41 = .ok (.istore_n 2, 1) := by decide +kernel
theorem dX8_firstOf_42 : decode cX8_firstOf 42 = .ok (.iinc 3 1, 3) := by decide +kernel
theorem dX8_firstOf_45 : decode cX8_firstOf 45 = .ok (.goto (-41), 3) := by decide +kernel
theorem dX8_firstOf_48 : decode cX8_firstOf 48 = .ok (.iload_n 2, 1) := by decide +kernel
theorem dX8_firstOf_49 : decode cX8_firstOf 49 = .ok (.ireturn, 1) := by decide +kernel
set_option maxRecDepth 20000 in
theorem ggX8_rowOf_X8_waitsFor : GoodIn wsX8_rowOf wsX8_waitsFor := goodIn_r _ [6, 7, 8, 9, 5, 10, 1, 11, 12, 13, 14, 15, 16] (by decide +kernel) (by decide +kernel)
set_option maxRecDepth 20000 in
theorem gX8_rowOf_X8_waitsFor : GoodIn wsX8_rowOf (wsV RX8 45 RX8 yX8_waitsFor wsX8_waitsFor) := goodIn_app (goodIn_of _ (by decide +kernel)) ggX8_rowOf_X8_waitsFor
theorem dX8_rowOf_0 : decode cX8_rowOf 0 = .ok (.iconst 0, 1) := by decide +kernel
theorem dX8_rowOf_1 : decode cX8_rowOf 1 = .ok (.istore_n 2, 1) := by decide +kernel
theorem dX8_rowOf_2 : decode cX8_rowOf 2 = .ok (.iconst 0, 1) := by decide +kernel
theorem dX8_rowOf_3 : decode cX8_rowOf 3 = .ok (.istore_n 3, 1) := by decide +kernel
theorem dX8_rowOf_4 : decode cX8_rowOf 4 = .ok (.iload_n 3, 1) := by decide +kernel
theorem dX8_rowOf_5 : decode cX8_rowOf 5 = .ok (.aload_n 0, 1) := by decide +kernel
theorem dX8_rowOf_6 : decode cX8_rowOf 6 = .ok (.getfield 7, 3) := by decide +kernel
theorem dX8_rowOf_9 : decode cX8_rowOf 9 = .ok (.iconst 5, 1) := by decide +kernel
theorem dX8_rowOf_10 : decode cX8_rowOf 10 = .ok (.iaload, 1) := by decide +kernel
theorem dX8_rowOf_11 : decode cX8_rowOf 11 = .ok (.if_icmp .ge 26, 3) := by decide +kernel
theorem dX8_rowOf_14 : decode cX8_rowOf 14 = .ok (.iload_n 2, 1) := by decide +kernel
theorem dX8_rowOf_15 : decode cX8_rowOf 15 = .ok (.aload_n 0, 1) := by decide +kernel
theorem dX8_rowOf_16 : decode cX8_rowOf 16 = .ok (.iload_n 3, 1) := by decide +kernel
theorem dX8_rowOf_17 : decode cX8_rowOf 17 = .ok (.iload_n 1, 1) := by decide +kernel
theorem dX8_rowOf_18 : decode cX8_rowOf 18 = .ok (.invokevirtual 45, 3) := by decide +kernel
theorem dX8_rowOf_21 : decode cX8_rowOf 21 = .ok (.ifCond .eq 7, 3) := by decide +kernel
theorem dX8_rowOf_24 : decode cX8_rowOf 24 = .ok (.iconst 1, 1) := by decide +kernel
theorem dX8_rowOf_25 : decode cX8_rowOf 25 = .ok (.goto 4, 3) := by decide +kernel
theorem dX8_rowOf_28 : decode cX8_rowOf 28 = .ok (.iconst 0, 1) := by decide +kernel
theorem dX8_rowOf_29 : decode cX8_rowOf 29 = .ok (.iadd, 1) := by decide +kernel
theorem dX8_rowOf_30 : decode cX8_rowOf 30 = .ok (.istore_n 2, 1) := by decide +kernel
theorem dX8_rowOf_31 : decode cX8_rowOf 31 = .ok (.iinc 3 1, 3) := by decide +kernel
theorem dX8_rowOf_34 : decode cX8_rowOf 34 = .ok (.goto (-30), 3) := by decide +kernel
theorem dX8_rowOf_37 : decode cX8_rowOf 37 = .ok (.iload_n 2, 1) := by decide +kernel
theorem dX8_rowOf_38 : decode cX8_rowOf 38 = .ok (.ireturn, 1) := by decide +kernel
theorem dX8_nearest_0 : decode cX8_nearest 0 = .ok (.iconst (-1), 1) := by decide +kernel
theorem dX8_nearest_1 : decode cX8_nearest 1 = .ok (.istore_n 3, 1) := by decide +kernel
theorem dX8_nearest_2 : decode cX8_nearest 2 = .ok (.iconst 0, 1) := by decide +kernel
theorem dX8_nearest_3 : decode cX8_nearest 3 = .ok (.istore 4, 2) := by decide +kernel
theorem dX8_nearest_5 : decode cX8_nearest 5 = .ok (.iload 4, 2) := by decide +kernel
theorem dX8_nearest_7 : decode cX8_nearest 7 = .ok (.aload_n 0, 1) := by decide +kernel
theorem dX8_nearest_8 : decode cX8_nearest 8 = .ok (.getfield 7, 3) := by decide +kernel
theorem dX8_nearest_11 : decode cX8_nearest 11 = .ok (.iconst 4, 1) := by decide +kernel
theorem dX8_nearest_12 : decode cX8_nearest 12 = .ok (.iaload, 1) := by decide +kernel
theorem dX8_nearest_13 : decode cX8_nearest 13 = .ok (.if_icmp .ge 89, 3) := by decide +kernel
theorem dX8_nearest_16 : decode cX8_nearest 16 = .ok (.aload_n 0, 1) := by decide +kernel
theorem dX8_nearest_17 : decode cX8_nearest 17 = .ok (.iload 4, 2) := by decide +kernel
theorem dX8_nearest_19 : decode cX8_nearest 19 = .ok (.iconst 0, 1) := by decide +kernel
theorem dX8_nearest_20 : decode cX8_nearest 20 = .ok (.invokevirtual 51, 3) := by decide +kernel
theorem dX8_nearest_23 : decode cX8_nearest 23 = .ok (.iload_n 1, 1) := by decide +kernel
theorem dX8_nearest_24 : decode cX8_nearest 24 = .ok (.if_icmp .ne 17, 3) := by decide +kernel
theorem dX8_nearest_27 : decode cX8_nearest 27 = .ok (.aload_n 0, 1) := by decide +kernel
theorem dX8_nearest_28 : decode cX8_nearest 28 = .ok (.iload 4, 2) := by decide +kernel
theorem dX8_nearest_30 : decode cX8_nearest 30 = .ok (.iconst 2, 1) := by decide +kernel
theorem dX8_nearest_31 : decode cX8_nearest 31 = .ok (.invokevirtual 51, 3) := by decide +kernel
theorem dX8_nearest_34 : decode cX8_nearest 34 = .ok (.ifCond .ne 7, 3) := by decide +kernel
theorem dX8_nearest_37 : decode cX8_nearest 37 = .ok (.iconst 1, 1) := by decide +kernel
theorem dX8_nearest_38 : decode cX8_nearest 38 = .ok (.goto 4, 3) := by decide +kernel
theorem dX8_nearest_41 : decode cX8_nearest 41 = .ok (.iconst 0, 1) := by decide +kernel
theorem dX8_nearest_42 : decode cX8_nearest 42 = .ok (.istore 5, 2) := by decide +kernel
theorem dX8_nearest_44 : decode cX8_nearest 44 = .ok (.iload_n 3, 1) := by decide +kernel
theorem dX8_nearest_45 : decode cX8_nearest 45 = .ok (.ifCond .lt 27, 3) := by decide +kernel
theorem dX8_nearest_48 : decode cX8_nearest 48 = .ok (.aload_n 0, 1) := by decide +kernel
theorem dX8_nearest_49 : decode cX8_nearest 49 = .ok (.iload 4, 2) := by decide +kernel
theorem dX8_nearest_51 : decode cX8_nearest 51 = .ok (.iconst 1, 1) := by decide +kernel
theorem dX8_nearest_52 : decode cX8_nearest 52 = .ok (.invokevirtual 51, 3) := by decide +kernel
theorem dX8_nearest_55 : decode cX8_nearest 55 = .ok (.iload_n 2, 1) := by decide +kernel
theorem dX8_nearest_56 : decode cX8_nearest 56 = .ok (.invokestatic 54, 3) := by decide +kernel
theorem dX8_nearest_59 : decode cX8_nearest 59 = .ok (.aload_n 0, 1) := by decide +kernel
theorem dX8_nearest_60 : decode cX8_nearest 60 = .ok (.iload_n 3, 1) := by decide +kernel
theorem dX8_nearest_61 : decode cX8_nearest 61 = .ok (.iconst 1, 1) := by decide +kernel
theorem dX8_nearest_62 : decode cX8_nearest 62 = .ok (.invokevirtual 51, 3) := by decide +kernel
theorem dX8_nearest_65 : decode cX8_nearest 65 = .ok (.iload_n 2, 1) := by decide +kernel
theorem dX8_nearest_66 : decode cX8_nearest 66 = .ok (.invokestatic 54, 3) := by decide +kernel
theorem dX8_nearest_69 : decode cX8_nearest 69 = .ok (.if_icmp .ge 7, 3) := by decide +kernel
theorem dX8_nearest_72 : decode cX8_nearest 72 = .ok (.iconst 1, 1) := by decide +kernel
theorem dX8_nearest_73 : decode cX8_nearest 73 = .ok (.goto 4, 3) := by decide +kernel
theorem dX8_nearest_76 : decode cX8_nearest 76 = .ok (.iconst 0, 1) := by decide +kernel
theorem dX8_nearest_77 : decode cX8_nearest 77 = .ok (.istore 6, 2) := by decide +kernel
theorem dX8_nearest_79 : decode cX8_nearest 79 = .ok (.iload 5, 2) := by decide +kernel
theorem dX8_nearest_81 : decode cX8_nearest 81 = .ok (.ifCond .eq 13, 3) := by decide +kernel
theorem dX8_nearest_84 : decode cX8_nearest 84 = .ok (.iload 6, 2) := by decide +kernel
theorem dX8_nearest_86 : decode cX8_nearest 86 = .ok (.ifCond .eq 8, 3) := by decide +kernel
theorem dX8_nearest_89 : decode cX8_nearest 89 = .ok (.iload 4, 2) := by decide +kernel
theorem dX8_nearest_91 : decode cX8_nearest 91 = .ok (.goto 4, 3) := by decide +kernel
theorem dX8_nearest_94 : decode cX8_nearest 94 = .ok (.iload_n 3, 1) := by decide +kernel
theorem dX8_nearest_95 : decode cX8_nearest 95 = .ok (.istore_n 3, 1) := by decide +kernel
theorem dX8_nearest_96 : decode cX8_nearest 96 = .ok (.iinc 4 1, 3) := by decide +kernel
theorem dX8_nearest_99 : decode cX8_nearest 99 = .ok (.goto (-94), 3) := by decide +kernel
theorem dX8_nearest_102 : decode cX8_nearest 102 = .ok (.iload_n 3, 1) := by decide +kernel
theorem dX8_nearest_103 : decode cX8_nearest 103 = .ok (.ireturn, 1) := by decide +kernel
set_option maxRecDepth 20000 in
theorem ggX8_serve_X8_firstOf : GoodIn wsX8_serve wsX8_firstOf := goodIn_r _ [5, 6, 7, 8, 9, 4, 10, 11, 12, 13, 14, 15, 16, 17, 18, 38, 39, 40, 41, 42, 43] (by decide +kernel) (by decide +kernel)
set_option maxRecDepth 20000 in
theorem gX8_serve_X8_firstOf : GoodIn wsX8_serve (wsV RX8 61 RX8 yX8_firstOf wsX8_firstOf) := goodIn_app (goodIn_of _ (by decide +kernel)) ggX8_serve_X8_firstOf
set_option maxRecDepth 20000 in
theorem ggX8_serve_X8_holdAt : GoodIn wsX8_serve wsX8_holdAt := goodIn_r _ [14, 6, 38, 39, 40, 41, 42, 43] (by decide +kernel) (by decide +kernel)
set_option maxRecDepth 20000 in
theorem gX8_serve_X8_holdAt : GoodIn wsX8_serve (wsV RX8 41 RX8 yX8_holdAt wsX8_holdAt) := goodIn_app (goodIn_of _ (by decide +kernel)) ggX8_serve_X8_holdAt
set_option maxRecDepth 20000 in
theorem ggX8_serve_X8_nearest : GoodIn wsX8_serve wsX8_nearest := goodIn_r _ [22, 6, 23, 24, 25, 4, 26, 27, 28, 29, 38, 39, 40, 41, 42, 43] (by decide +kernel) (by decide +kernel)
set_option maxRecDepth 20000 in
theorem gX8_serve_X8_nearest : GoodIn wsX8_serve (wsV RX8 65 RX8 yX8_nearest wsX8_nearest) := goodIn_app (goodIn_of _ (by decide +kernel)) ggX8_serve_X8_nearest
theorem dX8_serve_0 : decode cX8_serve 0 = .ok (.iconst 0, 1) := by decide +kernel
theorem dX8_serve_1 : decode cX8_serve 1 = .ok (.istore_n 1, 1) := by decide +kernel
theorem dX8_serve_2 : decode cX8_serve 2 = .ok (.iload_n 1, 1) := by decide +kernel
theorem dX8_serve_3 : decode cX8_serve 3 = .ok (.bipush 6, 2) := by decide +kernel
theorem dX8_serve_5 : decode cX8_serve 5 = .ok (.if_icmp .ge 67, 3) := by decide +kernel
theorem dX8_serve_8 : decode cX8_serve 8 = .ok (.iconst 1, 1) := by decide +kernel
theorem dX8_serve_9 : decode cX8_serve 9 = .ok (.istore_n 2, 1) := by decide +kernel
theorem dX8_serve_10 : decode cX8_serve 10 = .ok (.iload_n 2, 1) := by decide +kernel
theorem dX8_serve_11 : decode cX8_serve 11 = .ok (.ifCond .eq 55, 3) := by decide +kernel
theorem dX8_serve_14 : decode cX8_serve 14 = .ok (.aload_n 0, 1) := by decide +kernel
theorem dX8_serve_15 : decode cX8_serve 15 = .ok (.iload_n 1, 1) := by decide +kernel
theorem dX8_serve_16 : decode cX8_serve 16 = .ok (.invokevirtual 61, 3) := by decide +kernel
theorem dX8_serve_19 : decode cX8_serve 19 = .ok (.istore_n 3, 1) := by decide +kernel
theorem dX8_serve_20 : decode cX8_serve 20 = .ok (.iload_n 3, 1) := by decide +kernel
theorem dX8_serve_21 : decode cX8_serve 21 = .ok (.ifCond .ge 7, 3) := by decide +kernel
theorem dX8_serve_24 : decode cX8_serve 24 = .ok (.iconst (-1), 1) := by decide +kernel
theorem dX8_serve_25 : decode cX8_serve 25 = .ok (.goto 14, 3) := by decide +kernel
theorem dX8_serve_28 : decode cX8_serve 28 = .ok (.aload_n 0, 1) := by decide +kernel
theorem dX8_serve_29 : decode cX8_serve 29 = .ok (.iload_n 1, 1) := by decide +kernel
theorem dX8_serve_30 : decode cX8_serve 30 = .ok (.aload_n 0, 1) := by decide +kernel
theorem dX8_serve_31 : decode cX8_serve 31 = .ok (.iload_n 3, 1) := by decide +kernel
theorem dX8_serve_32 : decode cX8_serve 32 = .ok (.iconst 3, 1) := by decide +kernel
theorem dX8_serve_33 : decode cX8_serve 33 = .ok (.invokevirtual 41, 3) := by decide +kernel
theorem dX8_serve_36 : decode cX8_serve 36 = .ok (.invokevirtual 65, 3) := by decide +kernel
theorem dX8_serve_39 : decode cX8_serve 39 = .ok (.istore 4, 2) := by decide +kernel
theorem dX8_serve_41 : decode cX8_serve 41 = .ok (.iload 4, 2) := by decide +kernel
theorem dX8_serve_43 : decode cX8_serve 43 = .ok (.ifCond .lt 7, 3) := by decide +kernel
theorem dX8_serve_46 : decode cX8_serve 46 = .ok (.iconst 1, 1) := by decide +kernel
theorem dX8_serve_47 : decode cX8_serve 47 = .ok (.goto 4, 3) := by decide +kernel
theorem dX8_serve_50 : decode cX8_serve 50 = .ok (.iconst 0, 1) := by decide +kernel
theorem dX8_serve_51 : decode cX8_serve 51 = .ok (.istore_n 2, 1) := by decide +kernel
theorem dX8_serve_52 : decode cX8_serve 52 = .ok (.iload_n 2, 1) := by decide +kernel
theorem dX8_serve_53 : decode cX8_serve 53 = .ok (.ifCond .eq 10, 3) := by decide +kernel
theorem dX8_serve_56 : decode cX8_serve 56 = .ok (.aload_n 0, 1) := by decide +kernel
theorem dX8_serve_57 : decode cX8_serve 57 = .ok (.iload_n 3, 1) := by decide +kernel
theorem dX8_serve_58 : decode cX8_serve 58 = .ok (.iload 4, 2) := by decide +kernel
theorem dX8_serve_60 : decode cX8_serve 60 = .ok (.invokevirtual 68, 3) := by decide +kernel
theorem dX8_serve_63 : decode cX8_serve 63 = .ok (.goto (-53), 3) := by decide +kernel
theorem dX8_serve_66 : decode cX8_serve 66 = .ok (.iinc 1 1, 3) := by decide +kernel
theorem dX8_serve_69 : decode cX8_serve 69 = .ok (.goto (-67), 3) := by decide +kernel
theorem dX8_serve_72 : decode cX8_serve 72 = .ok (.return_, 1) := by decide +kernel
set_option maxRecDepth 20000 in
theorem ggX8_passDay_X8_findHold : GoodIn wsX8_passDay wsX8_findHold := goodIn_r _ [10, 1, 11, 12, 13, 5, 14, 50, 51, 52, 53, 54, 55] (by decide +kernel) (by decide +kernel)
set_option maxRecDepth 20000 in
theorem gX8_passDay_X8_findHold : GoodIn wsX8_passDay (wsV RX8 72 RX8 yX8_findHold wsX8_findHold) := goodIn_app (goodIn_of _ (by decide +kernel)) ggX8_passDay_X8_findHold
set_option maxRecDepth 20000 in
theorem ggX8_passDay_X8_setCopy : GoodIn wsX8_passDay wsX8_setCopy := goodIn_r _ [18, 1, 50, 51, 52, 53, 54, 55] (by decide +kernel) (by decide +kernel)
set_option maxRecDepth 20000 in
theorem gX8_passDay_X8_setCopy : GoodIn wsX8_passDay (wsV RX8 57 RX8 yX8_setCopy wsX8_setCopy) := goodIn_app (goodIn_of _ (by decide +kernel)) ggX8_passDay_X8_setCopy
set_option maxRecDepth 20000 in
theorem ggX8_passDay_X8_serve : GoodIn wsX8_passDay wsX8_serve := goodIn_r _ [26, 27, 28, 29, 5, 30, 1, 31, 32, 33, 34, 11, 12, 13, 14, 35, 36, 37, 38, 39, 40, 41, 42, 2, 3, 4, 6, 43, 44, 45, 46, 47, 48, 49, 15, 16, 17, 18, 50, 51, 52, 53, 54, 55] (by decide +kernel) (by decide +kernel)
set_option maxRecDepth 20000 in
theorem gX8_passDay_X8_serve : GoodIn wsX8_passDay (wsV RX8 79 RX8 yX8_serve wsX8_serve) := goodIn_app (goodIn_of _ (by decide +kernel)) ggX8_passDay_X8_serve
theorem dX8_passDay_0 : decode cX8_passDay 0 = .ok (.aload_n 0, 1) := by decide +kernel
theorem dX8_passDay_1 : decode cX8_passDay 1 = .ok (.getfield 7, 3) := by decide +kernel
theorem dX8_passDay_4 : decode cX8_passDay 4 = .ok (.iconst 0, 1) := by decide +kernel
theorem dX8_passDay_5 : decode cX8_passDay 5 = .ok (.dup2, 1) := by decide +kernel
theorem dX8_passDay_6 : decode cX8_passDay 6 = .ok (.iaload, 1) := by decide +kernel
theorem dX8_passDay_7 : decode cX8_passDay 7 = .ok (.iconst 1, 1) := by decide +kernel
theorem dX8_passDay_8 : decode cX8_passDay 8 = .ok (.iadd, 1) := by decide +kernel
theorem dX8_passDay_9 : decode cX8_passDay 9 = .ok (.iastore, 1) := by decide +kernel
theorem dX8_passDay_10 : decode cX8_passDay 10 = .ok (.aload_n 0, 1) := by decide +kernel
theorem dX8_passDay_11 : decode cX8_passDay 11 = .ok (.getfield 7, 3) := by decide +kernel
theorem dX8_passDay_14 : decode cX8_passDay 14 = .ok (.bipush 7, 2) := by decide +kernel
theorem dX8_passDay_16 : decode cX8_passDay 16 = .ok (.iconst 0, 1) := by decide +kernel
theorem dX8_passDay_17 : decode cX8_passDay 17 = .ok (.iastore, 1) := by decide +kernel
theorem dX8_passDay_18 : decode cX8_passDay 18 = .ok (.iconst 0, 1) := by decide +kernel
theorem dX8_passDay_19 : decode cX8_passDay 19 = .ok (.istore_n 1, 1) := by decide +kernel
theorem dX8_passDay_20 : decode cX8_passDay 20 = .ok (.iload_n 1, 1) := by decide +kernel
theorem dX8_passDay_21 : decode cX8_passDay 21 = .ok (.aload_n 0, 1) := by decide +kernel
theorem dX8_passDay_22 : decode cX8_passDay 22 = .ok (.getfield 7, 3) := by decide +kernel
theorem dX8_passDay_25 : decode cX8_passDay 25 = .ok (.iconst 4, 1) := by decide +kernel
theorem dX8_passDay_26 : decode cX8_passDay 26 = .ok (.iaload, 1) := by decide +kernel
theorem dX8_passDay_27 : decode cX8_passDay 27 = .ok (.if_icmp .ge 134, 3) := by decide +kernel
theorem dX8_passDay_30 : decode cX8_passDay 30 = .ok (.aload_n 0, 1) := by decide +kernel
theorem dX8_passDay_31 : decode cX8_passDay 31 = .ok (.iload_n 1, 1) := by decide +kernel
theorem dX8_passDay_32 : decode cX8_passDay 32 = .ok (.iconst 2, 1) := by decide +kernel
theorem dX8_passDay_33 : decode cX8_passDay 33 = .ok (.invokevirtual 51, 3) := by decide +kernel
theorem dX8_passDay_36 : decode cX8_passDay 36 = .ok (.iconst 3, 1) := by decide +kernel
theorem dX8_passDay_37 : decode cX8_passDay 37 = .ok (.if_icmp .ne 71, 3) := by decide +kernel
theorem dX8_passDay_40 : decode cX8_passDay 40 = .ok (.aload_n 0, 1) := by decide +kernel
theorem dX8_passDay_41 : decode cX8_passDay 41 = .ok (.iload_n 1, 1) := by decide +kernel
theorem dX8_passDay_42 : decode cX8_passDay 42 = .ok (.iconst 4, 1) := by decide +kernel
theorem dX8_passDay_43 : decode cX8_passDay 43 = .ok (.invokevirtual 51, 3) := by decide +kernel
theorem dX8_passDay_46 : decode cX8_passDay 46 = .ok (.aload_n 0, 1) := by decide +kernel
theorem dX8_passDay_47 : decode cX8_passDay 47 = .ok (.getfield 7, 3) := by decide +kernel
theorem dX8_passDay_50 : decode cX8_passDay 50 = .ok (.iconst 0, 1) := by decide +kernel
theorem dX8_passDay_51 : decode cX8_passDay 51 = .ok (.iaload, 1) := by decide +kernel
theorem dX8_passDay_52 : decode cX8_passDay 52 = .ok (.if_icmp .gt 56, 3) := by decide +kernel
theorem dX8_passDay_55 : decode cX8_passDay 55 = .ok (.aload_n 0, 1) := by decide +kernel
theorem dX8_passDay_56 : decode cX8_passDay 56 = .ok (.getfield 7, 3) := by decide +kernel
theorem dX8_passDay_59 : decode cX8_passDay 59 = .ok (.bipush 88, 2) := by decide +kernel
theorem dX8_passDay_61 : decode cX8_passDay 61 = .ok (.bipush 7, 2) := by decide +kernel
theorem dX8_passDay_63 : decode cX8_passDay 63 = .ok (.aload_n 0, 1) := by decide +kernel
theorem dX8_passDay_64 : decode cX8_passDay 64 = .ok (.aload_n 0, 1) := by decide +kernel
theorem dX8_passDay_65 : decode cX8_passDay 65 = .ok (.iload_n 1, 1) := by decide +kernel
theorem dX8_passDay_66 : decode cX8_passDay 66 = .ok (.iconst 3, 1) := by decide +kernel
theorem dX8_passDay_67 : decode cX8_passDay 67 = .ok (.invokevirtual 51, 3) := by decide +kernel
theorem dX8_passDay_70 : decode cX8_passDay 70 = .ok (.invokevirtual 72, 3) := by decide +kernel
theorem dX8_passDay_73 : decode cX8_passDay 73 = .ok (.imul, 1) := by decide +kernel
theorem dX8_passDay_74 : decode cX8_passDay 74 = .ok (.iadd, 1) := by decide +kernel
theorem dX8_passDay_75 : decode cX8_passDay 75 = .ok (.bipush 6, 2) := by decide +kernel
theorem dX8_passDay_77 : decode cX8_passDay 77 = .ok (.iadd, 1) := by decide +kernel
theorem dX8_passDay_78 : decode cX8_passDay 78 = .ok (.iconst 2, 1) := by decide +kernel
theorem dX8_passDay_79 : decode cX8_passDay 79 = .ok (.iastore, 1) := by decide +kernel
theorem dX8_passDay_80 : decode cX8_passDay 80 = .ok (.aload_n 0, 1) := by decide +kernel
end
section
theorem dX8_passDay_81 : decode cX8_passDay 81 = .ok (.iload_n 1, 1) := by decide +kernel
theorem dX8_passDay_82 : decode cX8_passDay 82 = .ok (.iconst 2, 1) := by decide +kernel
theorem dX8_passDay_83 : decode cX8_passDay 83 = .ok (.aload_n 0, 1) := by decide +kernel
theorem dX8_passDay_84 : decode cX8_passDay 84 = .ok (.iload_n 1, 1) := by decide +kernel
theorem dX8_passDay_85 : decode cX8_passDay 85 = .ok (.iconst 3, 1) := by decide +kernel
theorem dX8_passDay_86 : decode cX8_passDay 86 = .ok (.invokevirtual 51, 3) := by decide +kernel
theorem dX8_passDay_89 : decode cX8_passDay 89 = .ok (.aload_n 0, 1) := by decide +kernel
theorem dX8_passDay_90 : decode cX8_passDay 90 = .ok (.getfield 7, 3) := by decide +kernel
theorem dX8_passDay_93 : decode cX8_passDay 93 = .ok (.iconst 0, 1) := by decide +kernel
theorem dX8_passDay_94 : decode cX8_passDay 94 = .ok (.iaload, 1) := by decide +kernel
theorem dX8_passDay_95 : decode cX8_passDay 95 = .ok (.aload_n 0, 1) := by decide +kernel
theorem dX8_passDay_96 : decode cX8_passDay 96 = .ok (.getfield 7, 3) := by decide +kernel
theorem dX8_passDay_99 : decode cX8_passDay 99 = .ok (.iconst 2, 1) := by decide +kernel
theorem dX8_passDay_100 : decode cX8_passDay 100 = .ok (.iaload, 1) := by decide +kernel
theorem dX8_passDay_101 : decode cX8_passDay 101 = .ok (.iadd, 1) := by decide +kernel
theorem dX8_passDay_102 : decode cX8_passDay 102 = .ok (.invokevirtual 57, 3) := by decide +kernel
theorem dX8_passDay_105 : decode cX8_passDay 105 = .ok (.goto 50, 3) := by decide +kernel
theorem dX8_passDay_108 : decode cX8_passDay 108 = .ok (.aload_n 0, 1) := by decide +kernel
theorem dX8_passDay_109 : decode cX8_passDay 109 = .ok (.iload_n 1, 1) := by decide +kernel
theorem dX8_passDay_110 : decode cX8_passDay 110 = .ok (.iconst 2, 1) := by decide +kernel
theorem dX8_passDay_111 : decode cX8_passDay 111 = .ok (.invokevirtual 51, 3) := by decide +kernel
theorem dX8_passDay_114 : decode cX8_passDay 114 = .ok (.iconst 2, 1) := by decide +kernel
theorem dX8_passDay_115 : decode cX8_passDay 115 = .ok (.if_icmp .ne 40, 3) := by decide +kernel
theorem dX8_passDay_118 : decode cX8_passDay 118 = .ok (.aload_n 0, 1) := by decide +kernel
theorem dX8_passDay_119 : decode cX8_passDay 119 = .ok (.iload_n 1, 1) := by decide +kernel
theorem dX8_passDay_120 : decode cX8_passDay 120 = .ok (.iconst 4, 1) := by decide +kernel
theorem dX8_passDay_121 : decode cX8_passDay 121 = .ok (.invokevirtual 51, 3) := by decide +kernel
theorem dX8_passDay_124 : decode cX8_passDay 124 = .ok (.aload_n 0, 1) := by decide +kernel
theorem dX8_passDay_125 : decode cX8_passDay 125 = .ok (.getfield 7, 3) := by decide +kernel
theorem dX8_passDay_128 : decode cX8_passDay 128 = .ok (.iconst 0, 1) := by decide +kernel
theorem dX8_passDay_129 : decode cX8_passDay 129 = .ok (.iaload, 1) := by decide +kernel
theorem dX8_passDay_130 : decode cX8_passDay 130 = .ok (.if_icmp .ge 25, 3) := by decide +kernel
theorem dX8_passDay_133 : decode cX8_passDay 133 = .ok (.aload_n 0, 1) := by decide +kernel
theorem dX8_passDay_134 : decode cX8_passDay 134 = .ok (.aload_n 0, 1) := by decide +kernel
theorem dX8_passDay_135 : decode cX8_passDay 135 = .ok (.aload_n 0, 1) := by decide +kernel
theorem dX8_passDay_136 : decode cX8_passDay 136 = .ok (.iload_n 1, 1) := by decide +kernel
theorem dX8_passDay_137 : decode cX8_passDay 137 = .ok (.iconst 3, 1) := by decide +kernel
theorem dX8_passDay_138 : decode cX8_passDay 138 = .ok (.invokevirtual 51, 3) := by decide +kernel
theorem dX8_passDay_141 : decode cX8_passDay 141 = .ok (.invokevirtual 72, 3) := by decide +kernel
theorem dX8_passDay_144 : decode cX8_passDay 144 = .ok (.invokevirtual 75, 3) := by decide +kernel
theorem dX8_passDay_147 : decode cX8_passDay 147 = .ok (.aload_n 0, 1) := by decide +kernel
theorem dX8_passDay_148 : decode cX8_passDay 148 = .ok (.iload_n 1, 1) := by decide +kernel
theorem dX8_passDay_149 : decode cX8_passDay 149 = .ok (.iconst 0, 1) := by decide +kernel
theorem dX8_passDay_150 : decode cX8_passDay 150 = .ok (.iconst 0, 1) := by decide +kernel
theorem dX8_passDay_151 : decode cX8_passDay 151 = .ok (.iconst 0, 1) := by decide +kernel
theorem dX8_passDay_152 : decode cX8_passDay 152 = .ok (.invokevirtual 57, 3) := by decide +kernel
theorem dX8_passDay_155 : decode cX8_passDay 155 = .ok (.iinc 1 1, 3) := by decide +kernel
theorem dX8_passDay_158 : decode cX8_passDay 158 = .ok (.goto (-138), 3) := by decide +kernel
theorem dX8_passDay_161 : decode cX8_passDay 161 = .ok (.aload_n 0, 1) := by decide +kernel
theorem dX8_passDay_162 : decode cX8_passDay 162 = .ok (.invokevirtual 79, 3) := by decide +kernel
theorem dX8_passDay_165 : decode cX8_passDay 165 = .ok (.return_, 1) := by decide +kernel
theorem dX8_note_0 : decode cX8_note 0 = .ok (.aload_n 0, 1) := by decide +kernel
theorem dX8_note_1 : decode cX8_note 1 = .ok (.getfield 82, 3) := by decide +kernel
theorem dX8_note_4 : decode cX8_note 4 = .ok (.bipush 8, 2) := by decide +kernel
theorem dX8_note_6 : decode cX8_note 6 = .ok (.if_icmp .ne 44, 3) := by decide +kernel
theorem dX8_note_9 : decode cX8_note 9 = .ok (.iconst 0, 1) := by decide +kernel
theorem dX8_note_10 : decode cX8_note 10 = .ok (.istore_n 1, 1) := by decide +kernel
theorem dX8_note_11 : decode cX8_note 11 = .ok (.iload_n 1, 1) := by decide +kernel
theorem dX8_note_12 : decode cX8_note 12 = .ok (.sipush 1204, 3) := by decide +kernel
theorem dX8_note_15 : decode cX8_note 15 = .ok (.if_icmp .ge 25, 3) := by decide +kernel
theorem dX8_note_18 : decode cX8_note 18 = .ok (.aload_n 0, 1) := by decide +kernel
theorem dX8_note_19 : decode cX8_note 19 = .ok (.getfield 13, 3) := by decide +kernel
theorem dX8_note_22 : decode cX8_note 22 = .ok (.iload_n 1, 1) := by decide +kernel
theorem dX8_note_23 : decode cX8_note 23 = .ok (.aload_n 0, 1) := by decide +kernel
theorem dX8_note_24 : decode cX8_note 24 = .ok (.getfield 13, 3) := by decide +kernel
theorem dX8_note_27 : decode cX8_note 27 = .ok (.iload_n 1, 1) := by decide +kernel
theorem dX8_note_28 : decode cX8_note 28 = .ok (.sipush 172, 3) := by decide +kernel
theorem dX8_note_31 : decode cX8_note 31 = .ok (.iadd, 1) := by decide +kernel
theorem dX8_note_32 : decode cX8_note 32 = .ok (.iaload, 1) := by decide +kernel
theorem dX8_note_33 : decode cX8_note 33 = .ok (.iastore, 1) := by decide +kernel
theorem dX8_note_34 : decode cX8_note 34 = .ok (.iinc 1 1, 3) := by decide +kernel
theorem dX8_note_37 : decode cX8_note 37 = .ok (.goto (-26), 3) := by decide +kernel
theorem dX8_note_40 : decode cX8_note 40 = .ok (.aload_n 0, 1) := by decide +kernel
theorem dX8_note_41 : decode cX8_note 41 = .ok (.dup, 1) := by decide +kernel
theorem dX8_note_42 : decode cX8_note 42 = .ok (.getfield 82, 3) := by decide +kernel
theorem dX8_note_45 : decode cX8_note 45 = .ok (.iconst 1, 1) := by decide +kernel
theorem dX8_note_46 : decode cX8_note 46 = .ok (.isub, 1) := by decide +kernel
theorem dX8_note_47 : decode cX8_note 47 = .ok (.putfield 82, 3) := by decide +kernel
theorem dX8_note_50 : decode cX8_note 50 = .ok (.iconst 0, 1) := by decide +kernel
theorem dX8_note_51 : decode cX8_note 51 = .ok (.istore_n 1, 1) := by decide +kernel
theorem dX8_note_52 : decode cX8_note 52 = .ok (.iload_n 1, 1) := by decide +kernel
theorem dX8_note_53 : decode cX8_note 53 = .ok (.sipush 172, 3) := by decide +kernel
theorem dX8_note_56 : decode cX8_note 56 = .ok (.if_icmp .ge 30, 3) := by decide +kernel
theorem dX8_note_59 : decode cX8_note 59 = .ok (.aload_n 0, 1) := by decide +kernel
theorem dX8_note_60 : decode cX8_note 60 = .ok (.getfield 13, 3) := by decide +kernel
theorem dX8_note_63 : decode cX8_note 63 = .ok (.sipush 172, 3) := by decide +kernel
theorem dX8_note_66 : decode cX8_note 66 = .ok (.aload_n 0, 1) := by decide +kernel
theorem dX8_note_67 : decode cX8_note 67 = .ok (.getfield 82, 3) := by decide +kernel
theorem dX8_note_70 : decode cX8_note 70 = .ok (.imul, 1) := by decide +kernel
theorem dX8_note_71 : decode cX8_note 71 = .ok (.iload_n 1, 1) := by decide +kernel
theorem dX8_note_72 : decode cX8_note 72 = .ok (.iadd, 1) := by decide +kernel
theorem dX8_note_73 : decode cX8_note 73 = .ok (.aload_n 0, 1) := by decide +kernel
theorem dX8_note_74 : decode cX8_note 74 = .ok (.getfield 7, 3) := by decide +kernel
theorem dX8_note_77 : decode cX8_note 77 = .ok (.iload_n 1, 1) := by decide +kernel
theorem dX8_note_78 : decode cX8_note 78 = .ok (.iaload, 1) := by decide +kernel
theorem dX8_note_79 : decode cX8_note 79 = .ok (.iastore, 1) := by decide +kernel
theorem dX8_note_80 : decode cX8_note 80 = .ok (.iinc 1 1, 3) := by decide +kernel
theorem dX8_note_83 : decode cX8_note 83 = .ok (.goto (-31), 3) := by decide +kernel
theorem dX8_note_86 : decode cX8_note 86 = .ok (.aload_n 0, 1) := by decide +kernel
theorem dX8_note_87 : decode cX8_note 87 = .ok (.dup, 1) := by decide +kernel
theorem dX8_note_88 : decode cX8_note 88 = .ok (.getfield 82, 3) := by decide +kernel
theorem dX8_note_91 : decode cX8_note 91 = .ok (.iconst 1, 1) := by decide +kernel
theorem dX8_note_92 : decode cX8_note 92 = .ok (.iadd, 1) := by decide +kernel
theorem dX8_note_93 : decode cX8_note 93 = .ok (.putfield 82, 3) := by decide +kernel
theorem dX8_note_96 : decode cX8_note 96 = .ok (.return_, 1) := by decide +kernel
set_option maxRecDepth 20000 in
theorem ggX8_copy_X8_isTitle : GoodIn wsX8_copy wsX8_isTitle := goodIn_r _ [7, 8, 9, 10, 6, 11] (by decide +kernel) (by decide +kernel)
set_option maxRecDepth 20000 in
theorem gX8_copy_X8_isTitle : GoodIn wsX8_copy (va_wsS RX8 86 yX8_isTitle wsX8_isTitle) := goodIn_app (goodIn_of _ (by decide +kernel)) ggX8_copy_X8_isTitle
set_option maxRecDepth 20000 in
theorem ggX8_copy_X8_isBranch : GoodIn wsX8_copy wsX8_isBranch := goodIn_r _ [14, 15, 9, 10, 6, 11] (by decide +kernel) (by decide +kernel)
set_option maxRecDepth 20000 in
theorem gX8_copy_X8_isBranch : GoodIn wsX8_copy (va_wsS RX8 89 yX8_isBranch wsX8_isBranch) := goodIn_app (goodIn_of _ (by decide +kernel)) ggX8_copy_X8_isBranch
set_option maxRecDepth 20000 in
theorem ggX8_copy_X8_note : GoodIn wsX8_copy wsX8_note := goodIn_r _ [19, 20, 21, 2, 61, 62, 63, 64, 65, 66] (by decide +kernel) (by decide +kernel)
set_option maxRecDepth 20000 in
theorem gX8_copy_X8_note : GoodIn wsX8_copy (wsV RX8 94 RX8 yX8_note wsX8_note) := goodIn_app (goodIn_of _ (by decide +kernel)) ggX8_copy_X8_note
set_option maxRecDepth 20000 in
theorem ggX8_copy_X8_setCopy : GoodIn wsX8_copy wsX8_setCopy := goodIn_r _ [25, 2, 61, 62, 63, 64, 65, 66] (by decide +kernel) (by decide +kernel)
set_option maxRecDepth 20000 in
theorem gX8_copy_X8_setCopy : GoodIn wsX8_copy (wsV RX8 57 RX8 yX8_setCopy wsX8_setCopy) := goodIn_app (goodIn_of _ (by decide +kernel)) ggX8_copy_X8_setCopy
set_option maxRecDepth 20000 in
theorem ggX8_copy_X8_serve : GoodIn wsX8_copy wsX8_serve := goodIn_r _ [29, 30, 31, 32, 6, 33, 2, 34, 35, 36, 37, 38, 39, 40, 41, 42, 43, 44, 45, 46, 47, 48, 49, 50, 51, 52, 53, 54, 55, 56, 57, 58, 59, 60, 22, 23, 24, 25, 61, 62, 63, 64, 65, 66] (by decide +kernel) (by decide +kernel)
set_option maxRecDepth 20000 in
theorem gX8_copy_X8_serve : GoodIn wsX8_copy (wsV RX8 79 RX8 yX8_serve wsX8_serve) := goodIn_app (goodIn_of _ (by decide +kernel)) ggX8_copy_X8_serve
theorem dX8_copy_0 : decode cX8_copy 0 = .ok (.iload_n 1, 1) := by decide +kernel
theorem dX8_copy_1 : decode cX8_copy 1 = .ok (.invokestatic 86, 3) := by decide +kernel
theorem dX8_copy_4 : decode cX8_copy 4 = .ok (.ifCond .eq 10, 3) := by decide +kernel
theorem dX8_copy_7 : decode cX8_copy 7 = .ok (.iload_n 2, 1) := by decide +kernel
theorem dX8_copy_8 : decode cX8_copy 8 = .ok (.invokestatic 89, 3) := by decide +kernel
theorem dX8_copy_11 : decode cX8_copy 11 = .ok (.ifCond .ne 6, 3) := by decide +kernel
theorem dX8_copy_14 : decode cX8_copy 14 = .ok (.ldc 92, 2) := by decide +kernel
theorem dX8_copy_16 : decode cX8_copy 16 = .ok (.ireturn, 1) := by decide +kernel
theorem dX8_copy_17 : decode cX8_copy 17 = .ok (.aload_n 0, 1) := by decide +kernel
theorem dX8_copy_18 : decode cX8_copy 18 = .ok (.getfield 7, 3) := by decide +kernel
theorem dX8_copy_21 : decode cX8_copy 21 = .ok (.iconst 4, 1) := by decide +kernel
theorem dX8_copy_22 : decode cX8_copy 22 = .ok (.iaload, 1) := by decide +kernel
theorem dX8_copy_23 : decode cX8_copy 23 = .ok (.bipush 16, 2) := by decide +kernel
theorem dX8_copy_25 : decode cX8_copy 25 = .ok (.if_icmp .ne 6, 3) := by decide +kernel
theorem dX8_copy_28 : decode cX8_copy 28 = .ok (.ldc 93, 2) := by decide +kernel
theorem dX8_copy_30 : decode cX8_copy 30 = .ok (.ireturn, 1) := by decide +kernel
theorem dX8_copy_31 : decode cX8_copy 31 = .ok (.aload_n 0, 1) := by decide +kernel
theorem dX8_copy_32 : decode cX8_copy 32 = .ok (.invokevirtual 94, 3) := by decide +kernel
theorem dX8_copy_35 : decode cX8_copy 35 = .ok (.aload_n 0, 1) := by decide +kernel
theorem dX8_copy_36 : decode cX8_copy 36 = .ok (.getfield 7, 3) := by decide +kernel
theorem dX8_copy_39 : decode cX8_copy 39 = .ok (.iconst 4, 1) := by decide +kernel
theorem dX8_copy_40 : decode cX8_copy 40 = .ok (.iaload, 1) := by decide +kernel
theorem dX8_copy_41 : decode cX8_copy 41 = .ok (.istore_n 3, 1) := by decide +kernel
theorem dX8_copy_42 : decode cX8_copy 42 = .ok (.aload_n 0, 1) := by decide +kernel
theorem dX8_copy_43 : decode cX8_copy 43 = .ok (.getfield 7, 3) := by decide +kernel
theorem dX8_copy_46 : decode cX8_copy 46 = .ok (.iconst 4, 1) := by decide +kernel
theorem dX8_copy_47 : decode cX8_copy 47 = .ok (.dup2, 1) := by decide +kernel
theorem dX8_copy_48 : decode cX8_copy 48 = .ok (.iaload, 1) := by decide +kernel
theorem dX8_copy_49 : decode cX8_copy 49 = .ok (.iconst 1, 1) := by decide +kernel
theorem dX8_copy_50 : decode cX8_copy 50 = .ok (.iadd, 1) := by decide +kernel
theorem dX8_copy_51 : decode cX8_copy 51 = .ok (.iastore, 1) := by decide +kernel
theorem dX8_copy_52 : decode cX8_copy 52 = .ok (.aload_n 0, 1) := by decide +kernel
theorem dX8_copy_53 : decode cX8_copy 53 = .ok (.getfield 7, 3) := by decide +kernel
theorem dX8_copy_56 : decode cX8_copy 56 = .ok (.bipush 8, 2) := by decide +kernel
theorem dX8_copy_58 : decode cX8_copy 58 = .ok (.iconst 5, 1) := by decide +kernel
theorem dX8_copy_59 : decode cX8_copy 59 = .ok (.iload_n 3, 1) := by decide +kernel
theorem dX8_copy_60 : decode cX8_copy 60 = .ok (.imul, 1) := by decide +kernel
theorem dX8_copy_61 : decode cX8_copy 61 = .ok (.iadd, 1) := by decide +kernel
theorem dX8_copy_62 : decode cX8_copy 62 = .ok (.iconst 0, 1) := by decide +kernel
theorem dX8_copy_63 : decode cX8_copy 63 = .ok (.iadd, 1) := by decide +kernel
theorem dX8_copy_64 : decode cX8_copy 64 = .ok (.iload_n 1, 1) := by decide +kernel
theorem dX8_copy_65 : decode cX8_copy 65 = .ok (.iastore, 1) := by decide +kernel
theorem dX8_copy_66 : decode cX8_copy 66 = .ok (.aload_n 0, 1) := by decide +kernel
theorem dX8_copy_67 : decode cX8_copy 67 = .ok (.getfield 7, 3) := by decide +kernel
theorem dX8_copy_70 : decode cX8_copy 70 = .ok (.bipush 8, 2) := by decide +kernel
theorem dX8_copy_72 : decode cX8_copy 72 = .ok (.iconst 5, 1) := by decide +kernel
theorem dX8_copy_73 : decode cX8_copy 73 = .ok (.iload_n 3, 1) := by decide +kernel
theorem dX8_copy_74 : decode cX8_copy 74 = .ok (.imul, 1) := by decide +kernel
theorem dX8_copy_75 : decode cX8_copy 75 = .ok (.iadd, 1) := by decide +kernel
theorem dX8_copy_76 : decode cX8_copy 76 = .ok (.iconst 1, 1) := by decide +kernel
theorem dX8_copy_77 : decode cX8_copy 77 = .ok (.iadd, 1) := by decide +kernel
theorem dX8_copy_78 : decode cX8_copy 78 = .ok (.iload_n 2, 1) := by decide +kernel
theorem dX8_copy_79 : decode cX8_copy 79 = .ok (.iastore, 1) := by decide +kernel
theorem dX8_copy_80 : decode cX8_copy 80 = .ok (.aload_n 0, 1) := by decide +kernel
theorem dX8_copy_81 : decode cX8_copy 81 = .ok (.iload_n 3, 1) := by decide +kernel
theorem dX8_copy_82 : decode cX8_copy 82 = .ok (.iconst 0, 1) := by decide +kernel
theorem dX8_copy_83 : decode cX8_copy 83 = .ok (.iconst 0, 1) := by decide +kernel
theorem dX8_copy_84 : decode cX8_copy 84 = .ok (.iconst 0, 1) := by decide +kernel
theorem dX8_copy_85 : decode cX8_copy 85 = .ok (.invokevirtual 57, 3) := by decide +kernel
theorem dX8_copy_88 : decode cX8_copy 88 = .ok (.aload_n 0, 1) := by decide +kernel
theorem dX8_copy_89 : decode cX8_copy 89 = .ok (.invokevirtual 79, 3) := by decide +kernel
theorem dX8_copy_92 : decode cX8_copy 92 = .ok (.iload_n 3, 1) := by decide +kernel
theorem dX8_copy_93 : decode cX8_copy 93 = .ok (.ireturn, 1) := by decide +kernel
theorem dX8_outsOf_0 : decode cX8_outsOf 0 = .ok (.iconst 0, 1) := by decide +kernel
theorem dX8_outsOf_1 : decode cX8_outsOf 1 = .ok (.istore_n 2, 1) := by decide +kernel
theorem dX8_outsOf_2 : decode cX8_outsOf 2 = .ok (.iconst 0, 1) := by decide +kernel
theorem dX8_outsOf_3 : decode cX8_outsOf 3 = .ok (.istore_n 3, 1) := by decide +kernel
theorem dX8_outsOf_4 : decode cX8_outsOf 4 = .ok (.iload_n 3, 1) := by decide +kernel
theorem dX8_outsOf_5 : decode cX8_outsOf 5 = .ok (.aload_n 0, 1) := by decide +kernel
theorem dX8_outsOf_6 : decode cX8_outsOf 6 = .ok (.getfield 7, 3) := by decide +kernel
theorem dX8_outsOf_9 : decode cX8_outsOf 9 = .ok (.iconst 4, 1) := by decide +kernel
theorem dX8_outsOf_10 : decode cX8_outsOf 10 = .ok (.iaload, 1) := by decide +kernel
theorem dX8_outsOf_11 : decode cX8_outsOf 11 = .ok (.if_icmp .ge 39, 3) := by decide +kernel
theorem dX8_outsOf_14 : decode cX8_outsOf 14 = .ok (.iload_n 2, 1) := by decide +kernel
theorem dX8_outsOf_15 : decode cX8_outsOf 15 = .ok (.aload_n 0, 1) := by decide +kernel
theorem dX8_outsOf_16 : decode cX8_outsOf 16 = .ok (.iload_n 3, 1) := by decide +kernel
theorem dX8_outsOf_17 : decode cX8_outsOf 17 = .ok (.iconst 2, 1) := by decide +kernel
theorem dX8_outsOf_18 : decode cX8_outsOf 18 = .ok (.invokevirtual 51, 3) := by decide +kernel
theorem dX8_outsOf_21 : decode cX8_outsOf 21 = .ok (.iconst 1, 1) := by decide +kernel
theorem dX8_outsOf_22 : decode cX8_outsOf 22 = .ok (.if_icmp .ne 19, 3) := by decide +kernel
theorem dX8_outsOf_25 : decode cX8_outsOf 25 = .ok (.aload_n 0, 1) := by decide +kernel
theorem dX8_outsOf_26 : decode cX8_outsOf 26 = .ok (.iload_n 3, 1) := by decide +kernel
theorem dX8_outsOf_27 : decode cX8_outsOf 27 = .ok (.iconst 3, 1) := by decide +kernel
theorem dX8_outsOf_28 : decode cX8_outsOf 28 = .ok (.invokevirtual 51, 3) := by decide +kernel
theorem dX8_outsOf_31 : decode cX8_outsOf 31 = .ok (.iload_n 1, 1) := by decide +kernel
theorem dX8_outsOf_32 : decode cX8_outsOf 32 = .ok (.if_icmp .ne 9, 3) := by decide +kernel
theorem dX8_outsOf_35 : decode cX8_outsOf 35 = .ok (.iconst 1, 1) := by decide +kernel
theorem dX8_outsOf_36 : decode cX8_outsOf 36 = .ok (.iload_n 3, 1) := by decide +kernel
theorem dX8_outsOf_37 : decode cX8_outsOf 37 = .ok (.ishl, 1) := by decide +kernel
theorem dX8_outsOf_38 : decode cX8_outsOf 38 = .ok (.goto 4, 3) := by decide +kernel
theorem dX8_outsOf_41 : decode cX8_outsOf 41 = .ok (.iconst 0, 1) := by decide +kernel
theorem dX8_outsOf_42 : decode cX8_outsOf 42 = .ok (.ior, 1) := by decide +kernel
theorem dX8_outsOf_43 : decode cX8_outsOf 43 = .ok (.istore_n 2, 1) := by decide +kernel
theorem dX8_outsOf_44 : decode cX8_outsOf 44 = .ok (.iinc 3 1, 3) := by decide +kernel
theorem dX8_outsOf_47 : decode cX8_outsOf 47 = .ok (.goto (-43), 3) := by decide +kernel
theorem dX8_outsOf_50 : decode cX8_outsOf 50 = .ok (.iload_n 2, 1) := by decide +kernel
theorem dX8_outsOf_51 : decode cX8_outsOf 51 = .ok (.ireturn, 1) := by decide +kernel
theorem dX8_ones_0 : decode cX8_ones 0 = .ok (.iconst 0, 1) := by decide +kernel
theorem dX8_ones_1 : decode cX8_ones 1 = .ok (.istore_n 1, 1) := by decide +kernel
theorem dX8_ones_2 : decode cX8_ones 2 = .ok (.iload_n 0, 1) := by decide +kernel
theorem dX8_ones_3 : decode cX8_ones 3 = .ok (.istore_n 2, 1) := by decide +kernel
theorem dX8_ones_4 : decode cX8_ones 4 = .ok (.iload_n 2, 1) := by decide +kernel
theorem dX8_ones_5 : decode cX8_ones 5 = .ok (.ifCond .eq 15, 3) := by decide +kernel
theorem dX8_ones_8 : decode cX8_ones 8 = .ok (.iinc 1 1, 3) := by decide +kernel
theorem dX8_ones_11 : decode cX8_ones 11 = .ok (.iload_n 2, 1) := by decide +kernel
theorem dX8_ones_12 : decode cX8_ones 12 = .ok (.iload_n 2, 1) := by decide +kernel
theorem dX8_ones_13 : decode cX8_ones 13 = .ok (.iconst 1, 1) := by decide +kernel
theorem dX8_ones_14 : decode cX8_ones 14 = .ok (.isub, 1) := by decide +kernel
theorem dX8_ones_15 : decode cX8_ones 15 = .ok (.iand, 1) := by decide +kernel
theorem dX8_ones_16 : decode cX8_ones 16 = .ok (.istore_n 2, 1) := by decide +kernel
theorem dX8_ones_17 : decode cX8_ones 17 = .ok (.goto (-13), 3) := by decide +kernel
theorem dX8_ones_20 : decode cX8_ones 20 = .ok (.iload_n 1, 1) := by decide +kernel
theorem dX8_ones_21 : decode cX8_ones 21 = .ok (.ireturn, 1) := by decide +kernel
set_option maxRecDepth 20000 in
theorem ggX8_lend_X8_isCopy : GoodIn wsX8_lend wsX8_isCopy := goodIn_r _ [7, 8, 9, 10, 6, 11, 95, 96, 97, 98, 99, 100] (by decide +kernel) (by decide +kernel)
set_option maxRecDepth 20000 in
theorem gX8_lend_X8_isCopy : GoodIn wsX8_lend (wsV RX8 106 RX8 yX8_isCopy wsX8_isCopy) := goodIn_app (goodIn_of _ (by decide +kernel)) ggX8_lend_X8_isCopy
set_option maxRecDepth 20000 in
theorem ggX8_lend_X8_isReader : GoodIn wsX8_lend wsX8_isReader := goodIn_r _ [14, 15, 9, 10, 6, 11] (by decide +kernel) (by decide +kernel)
set_option maxRecDepth 20000 in
theorem gX8_lend_X8_isReader : GoodIn wsX8_lend (va_wsS RX8 109 yX8_isReader wsX8_isReader) := goodIn_app (goodIn_of _ (by decide +kernel)) ggX8_lend_X8_isReader
set_option maxRecDepth 20000 in
theorem ggX8_lend_X8_note : GoodIn wsX8_lend wsX8_note := goodIn_r _ [42, 43, 44, 8, 95, 96, 97, 98, 99, 100] (by decide +kernel) (by decide +kernel)
set_option maxRecDepth 20000 in
theorem gX8_lend_X8_note : GoodIn wsX8_lend (wsV RX8 94 RX8 yX8_note wsX8_note) := goodIn_app (goodIn_of _ (by decide +kernel)) ggX8_lend_X8_note
theorem dX8_lend_0 : decode cX8_lend 0 = .ok (.aload_n 0, 1) := by decide +kernel
theorem dX8_lend_1 : decode cX8_lend 1 = .ok (.iload_n 1, 1) := by decide +kernel
theorem dX8_lend_2 : decode cX8_lend 2 = .ok (.invokevirtual 106, 3) := by decide +kernel
theorem dX8_lend_5 : decode cX8_lend 5 = .ok (.ifCond .eq 10, 3) := by decide +kernel
theorem dX8_lend_8 : decode cX8_lend 8 = .ok (.iload_n 2, 1) := by decide +kernel
theorem dX8_lend_9 : decode cX8_lend 9 = .ok (.invokestatic 109, 3) := by decide +kernel
theorem dX8_lend_12 : decode cX8_lend 12 = .ok (.ifCond .ne 6, 3) := by decide +kernel
theorem dX8_lend_15 : decode cX8_lend 15 = .ok (.ldc 92, 2) := by decide +kernel
theorem dX8_lend_17 : decode cX8_lend 17 = .ok (.ireturn, 1) := by decide +kernel
theorem dX8_lend_18 : decode cX8_lend 18 = .ok (.aload_n 0, 1) := by decide +kernel
theorem dX8_lend_19 : decode cX8_lend 19 = .ok (.iload_n 1, 1) := by decide +kernel
theorem dX8_lend_20 : decode cX8_lend 20 = .ok (.iload_n 2, 1) := by decide +kernel
theorem dX8_lend_21 : decode cX8_lend 21 = .ok (.invokevirtual 112, 3) := by decide +kernel
theorem dX8_lend_24 : decode cX8_lend 24 = .ok (.ifCond .ne 6, 3) := by decide +kernel
theorem dX8_lend_27 : decode cX8_lend 27 = .ok (.ldc 115, 2) := by decide +kernel
theorem dX8_lend_29 : decode cX8_lend 29 = .ok (.ireturn, 1) := by decide +kernel
theorem dX8_lend_30 : decode cX8_lend 30 = .ok (.aload_n 0, 1) := by decide +kernel
theorem dX8_lend_31 : decode cX8_lend 31 = .ok (.invokevirtual 94, 3) := by decide +kernel
theorem dX8_lend_34 : decode cX8_lend 34 = .ok (.aload_n 0, 1) := by decide +kernel
theorem dX8_lend_35 : decode cX8_lend 35 = .ok (.iload_n 1, 1) := by decide +kernel
theorem dX8_lend_36 : decode cX8_lend 36 = .ok (.iload_n 2, 1) := by decide +kernel
theorem dX8_lend_37 : decode cX8_lend 37 = .ok (.invokevirtual 116, 3) := by decide +kernel
theorem dX8_lend_40 : decode cX8_lend 40 = .ok (.aload_n 0, 1) := by decide +kernel
theorem dX8_lend_41 : decode cX8_lend 41 = .ok (.iload_n 1, 1) := by decide +kernel
theorem dX8_lend_42 : decode cX8_lend 42 = .ok (.iconst 4, 1) := by decide +kernel
theorem dX8_lend_43 : decode cX8_lend 43 = .ok (.invokevirtual 51, 3) := by decide +kernel
theorem dX8_lend_46 : decode cX8_lend 46 = .ok (.ireturn, 1) := by decide +kernel
set_option maxRecDepth 20000 in
theorem ggX8_giveBack_X8_isCopy : GoodIn wsX8_giveBack wsX8_isCopy := goodIn_r _ [7, 8, 9, 10, 6, 11, 73, 74, 75, 76, 77, 78] (by decide +kernel) (by decide +kernel)
set_option maxRecDepth 20000 in
theorem gX8_giveBack_X8_isCopy : GoodIn wsX8_giveBack (wsV RX8 106 RX8 yX8_isCopy wsX8_isCopy) := goodIn_app (goodIn_of _ (by decide +kernel)) ggX8_giveBack_X8_isCopy
set_option maxRecDepth 20000 in
theorem ggX8_giveBack_X8_isBranch : GoodIn wsX8_giveBack wsX8_isBranch := goodIn_r _ [14, 15, 9, 10, 6, 11] (by decide +kernel) (by decide +kernel)
set_option maxRecDepth 20000 in
theorem gX8_giveBack_X8_isBranch : GoodIn wsX8_giveBack (va_wsS RX8 89 yX8_isBranch wsX8_isBranch) := goodIn_app (goodIn_of _ (by decide +kernel)) ggX8_giveBack_X8_isBranch
set_option maxRecDepth 20000 in
theorem ggX8_giveBack_X8_note : GoodIn wsX8_giveBack wsX8_note := goodIn_r _ [27, 28, 29, 8, 73, 74, 75, 76, 77, 78] (by decide +kernel) (by decide +kernel)
set_option maxRecDepth 20000 in
theorem gX8_giveBack_X8_note : GoodIn wsX8_giveBack (wsV RX8 94 RX8 yX8_note wsX8_note) := goodIn_app (goodIn_of _ (by decide +kernel)) ggX8_giveBack_X8_note
theorem dX8_giveBack_0 : decode cX8_giveBack 0 = .ok (.aload_n 0, 1) := by decide +kernel
theorem dX8_giveBack_1 : decode cX8_giveBack 1 = .ok (.iload_n 1, 1) := by decide +kernel
theorem dX8_giveBack_2 : decode cX8_giveBack 2 = .ok (.invokevirtual 106, 3) := by decide +kernel
theorem dX8_giveBack_5 : decode cX8_giveBack 5 = .ok (.ifCond .eq 10, 3) := by decide +kernel
theorem dX8_giveBack_8 : decode cX8_giveBack 8 = .ok (.iload_n 2, 1) := by decide +kernel
theorem dX8_giveBack_9 : decode cX8_giveBack 9 = .ok (.invokestatic 89, 3) := by decide +kernel
theorem dX8_giveBack_12 : decode cX8_giveBack 12 = .ok (.ifCond .ne 6, 3) := by decide +kernel
theorem dX8_giveBack_15 : decode cX8_giveBack 15 = .ok (.ldc 92, 2) := by decide +kernel
theorem dX8_giveBack_17 : decode cX8_giveBack 17 = .ok (.ireturn, 1) := by decide +kernel
theorem dX8_giveBack_18 : decode cX8_giveBack 18 = .ok (.aload_n 0, 1) := by decide +kernel
theorem dX8_giveBack_19 : decode cX8_giveBack 19 = .ok (.iload_n 1, 1) := by decide +kernel
theorem dX8_giveBack_20 : decode cX8_giveBack 20 = .ok (.invokevirtual 119, 3) := by decide +kernel
theorem dX8_giveBack_23 : decode cX8_giveBack 23 = .ok (.ifCond .ne 6, 3) := by decide +kernel
theorem dX8_giveBack_26 : decode cX8_giveBack 26 = .ok (.ldc 115, 2) := by decide +kernel
theorem dX8_giveBack_28 : decode cX8_giveBack 28 = .ok (.ireturn, 1) := by decide +kernel
theorem dX8_giveBack_29 : decode cX8_giveBack 29 = .ok (.aload_n 0, 1) := by decide +kernel
theorem dX8_giveBack_30 : decode cX8_giveBack 30 = .ok (.invokevirtual 94, 3) := by decide +kernel
theorem dX8_giveBack_33 : decode cX8_giveBack 33 = .ok (.aload_n 0, 1) := by decide +kernel
theorem dX8_giveBack_34 : decode cX8_giveBack 34 = .ok (.iload_n 1, 1) := by decide +kernel
theorem dX8_giveBack_35 : decode cX8_giveBack 35 = .ok (.invokevirtual 122, 3) := by decide +kernel
theorem dX8_giveBack_38 : decode cX8_giveBack 38 = .ok (.istore_n 3, 1) := by decide +kernel
theorem dX8_giveBack_39 : decode cX8_giveBack 39 = .ok (.aload_n 0, 1) := by decide +kernel
theorem dX8_giveBack_40 : decode cX8_giveBack 40 = .ok (.iload_n 1, 1) := by decide +kernel
theorem dX8_giveBack_41 : decode cX8_giveBack 41 = .ok (.iload_n 2, 1) := by decide +kernel
theorem dX8_giveBack_42 : decode cX8_giveBack 42 = .ok (.invokevirtual 125, 3) := by decide +kernel
theorem dX8_giveBack_45 : decode cX8_giveBack 45 = .ok (.iload_n 3, 1) := by decide +kernel
theorem dX8_giveBack_46 : decode cX8_giveBack 46 = .ok (.ifCond .ge 7, 3) := by decide +kernel
theorem dX8_giveBack_49 : decode cX8_giveBack 49 = .ok (.iconst 0, 1) := by decide +kernel
theorem dX8_giveBack_50 : decode cX8_giveBack 50 = .ok (.goto 4, 3) := by decide +kernel
theorem dX8_giveBack_53 : decode cX8_giveBack 53 = .ok (.iload_n 3, 1) := by decide +kernel
theorem dX8_giveBack_54 : decode cX8_giveBack 54 = .ok (.ireturn, 1) := by decide +kernel
set_option maxRecDepth 20000 in
theorem ggX8_renew_X8_isCopy : GoodIn wsX8_renew wsX8_isCopy := goodIn_r _ [8, 3, 9, 10, 7, 11, 49, 50, 51, 52, 53, 54] (by decide +kernel) (by decide +kernel)
set_option maxRecDepth 20000 in
theorem gX8_renew_X8_isCopy : GoodIn wsX8_renew (wsV RX8 106 RX8 yX8_isCopy wsX8_isCopy) := goodIn_app (goodIn_of _ (by decide +kernel)) ggX8_renew_X8_isCopy
set_option maxRecDepth 20000 in
theorem ggX8_renew_X8_rowOf : GoodIn wsX8_renew wsX8_rowOf := goodIn_r _ [19, 3, 20, 21, 22, 7, 23, 24, 25, 26, 27, 49, 50, 51, 52, 53, 54] (by decide +kernel) (by decide +kernel)
set_option maxRecDepth 20000 in
theorem gX8_renew_X8_rowOf : GoodIn wsX8_renew (wsV RX8 128 RX8 yX8_rowOf wsX8_rowOf) := goodIn_app (goodIn_of _ (by decide +kernel)) ggX8_renew_X8_rowOf
set_option maxRecDepth 20000 in
theorem ggX8_renew_X8_note : GoodIn wsX8_renew wsX8_note := goodIn_r _ [31, 32, 33, 3, 49, 50, 51, 52, 53, 54] (by decide +kernel) (by decide +kernel)
set_option maxRecDepth 20000 in
theorem gX8_renew_X8_note : GoodIn wsX8_renew (wsV RX8 94 RX8 yX8_note wsX8_note) := goodIn_app (goodIn_of _ (by decide +kernel)) ggX8_renew_X8_note
set_option maxRecDepth 20000 in
theorem ggX8_renew_X8_setCopy : GoodIn wsX8_renew wsX8_setCopy := goodIn_r _ [48, 3, 49, 50, 51, 52, 53, 54] (by decide +kernel) (by decide +kernel)
set_option maxRecDepth 20000 in
theorem gX8_renew_X8_setCopy : GoodIn wsX8_renew (wsV RX8 57 RX8 yX8_setCopy wsX8_setCopy) := goodIn_app (goodIn_of _ (by decide +kernel)) ggX8_renew_X8_setCopy
theorem dX8_renew_0 : decode cX8_renew 0 = .ok (.aload_n 0, 1) := by decide +kernel
theorem dX8_renew_1 : decode cX8_renew 1 = .ok (.iload_n 1, 1) := by decide +kernel
theorem dX8_renew_2 : decode cX8_renew 2 = .ok (.invokevirtual 106, 3) := by decide +kernel
theorem dX8_renew_5 : decode cX8_renew 5 = .ok (.ifCond .ne 6, 3) := by decide +kernel
theorem dX8_renew_8 : decode cX8_renew 8 = .ok (.ldc 92, 2) := by decide +kernel
theorem dX8_renew_10 : decode cX8_renew 10 = .ok (.ireturn, 1) := by decide +kernel
theorem dX8_renew_11 : decode cX8_renew 11 = .ok (.aload_n 0, 1) := by decide +kernel
theorem dX8_renew_12 : decode cX8_renew 12 = .ok (.iload_n 1, 1) := by decide +kernel
theorem dX8_renew_13 : decode cX8_renew 13 = .ok (.iconst 2, 1) := by decide +kernel
theorem dX8_renew_14 : decode cX8_renew 14 = .ok (.invokevirtual 51, 3) := by decide +kernel
theorem dX8_renew_17 : decode cX8_renew 17 = .ok (.iconst 1, 1) := by decide +kernel
theorem dX8_renew_18 : decode cX8_renew 18 = .ok (.if_icmp .ne 16, 3) := by decide +kernel
theorem dX8_renew_21 : decode cX8_renew 21 = .ok (.aload_n 0, 1) := by decide +kernel
theorem dX8_renew_22 : decode cX8_renew 22 = .ok (.aload_n 0, 1) := by decide +kernel
theorem dX8_renew_23 : decode cX8_renew 23 = .ok (.iload_n 1, 1) := by decide +kernel
theorem dX8_renew_24 : decode cX8_renew 24 = .ok (.iconst 0, 1) := by decide +kernel
theorem dX8_renew_25 : decode cX8_renew 25 = .ok (.invokevirtual 51, 3) := by decide +kernel
theorem dX8_renew_28 : decode cX8_renew 28 = .ok (.invokevirtual 128, 3) := by decide +kernel
theorem dX8_renew_31 : decode cX8_renew 31 = .ok (.ifCond .le 6, 3) := by decide +kernel
theorem dX8_renew_34 : decode cX8_renew 34 = .ok (.ldc 115, 2) := by decide +kernel
theorem dX8_renew_36 : decode cX8_renew 36 = .ok (.ireturn, 1) := by decide +kernel
theorem dX8_renew_37 : decode cX8_renew 37 = .ok (.aload_n 0, 1) := by decide +kernel
theorem dX8_renew_38 : decode cX8_renew 38 = .ok (.invokevirtual 94, 3) := by decide +kernel
theorem dX8_renew_41 : decode cX8_renew 41 = .ok (.aload_n 0, 1) := by decide +kernel
theorem dX8_renew_42 : decode cX8_renew 42 = .ok (.aload_n 0, 1) := by decide +kernel
theorem dX8_renew_43 : decode cX8_renew 43 = .ok (.getfield 7, 3) := by decide +kernel
theorem dX8_renew_46 : decode cX8_renew 46 = .ok (.iconst 0, 1) := by decide +kernel
theorem dX8_renew_47 : decode cX8_renew 47 = .ok (.iaload, 1) := by decide +kernel
theorem dX8_renew_48 : decode cX8_renew 48 = .ok (.aload_n 0, 1) := by decide +kernel
theorem dX8_renew_49 : decode cX8_renew 49 = .ok (.getfield 7, 3) := by decide +kernel
theorem dX8_renew_52 : decode cX8_renew 52 = .ok (.iconst 1, 1) := by decide +kernel
theorem dX8_renew_53 : decode cX8_renew 53 = .ok (.iaload, 1) := by decide +kernel
theorem dX8_renew_54 : decode cX8_renew 54 = .ok (.iadd, 1) := by decide +kernel
theorem dX8_renew_55 : decode cX8_renew 55 = .ok (.invokevirtual 103, 3) := by decide +kernel
theorem dX8_renew_58 : decode cX8_renew 58 = .ok (.istore_n 2, 1) := by decide +kernel
theorem dX8_renew_59 : decode cX8_renew 59 = .ok (.aload_n 0, 1) := by decide +kernel
theorem dX8_renew_60 : decode cX8_renew 60 = .ok (.iload_n 1, 1) := by decide +kernel
theorem dX8_renew_61 : decode cX8_renew 61 = .ok (.iconst 1, 1) := by decide +kernel
theorem dX8_renew_62 : decode cX8_renew 62 = .ok (.aload_n 0, 1) := by decide +kernel
theorem dX8_renew_63 : decode cX8_renew 63 = .ok (.iload_n 1, 1) := by decide +kernel
theorem dX8_renew_64 : decode cX8_renew 64 = .ok (.iconst 3, 1) := by decide +kernel
theorem dX8_renew_65 : decode cX8_renew 65 = .ok (.invokevirtual 51, 3) := by decide +kernel
theorem dX8_renew_68 : decode cX8_renew 68 = .ok (.iload_n 2, 1) := by decide +kernel
theorem dX8_renew_69 : decode cX8_renew 69 = .ok (.invokevirtual 57, 3) := by decide +kernel
theorem dX8_renew_72 : decode cX8_renew 72 = .ok (.iload_n 2, 1) := by decide +kernel
theorem dX8_renew_73 : decode cX8_renew 73 = .ok (.ireturn, 1) := by decide +kernel
set_option maxRecDepth 20000 in
theorem ggX8_lose_X8_isCopy : GoodIn wsX8_lose wsX8_isCopy := goodIn_r _ [8, 3, 9, 10, 7, 11, 61, 62, 63, 64, 65, 66] (by decide +kernel) (by decide +kernel)
set_option maxRecDepth 20000 in
theorem gX8_lose_X8_isCopy : GoodIn wsX8_lose (wsV RX8 106 RX8 yX8_isCopy wsX8_isCopy) := goodIn_app (goodIn_of _ (by decide +kernel)) ggX8_lose_X8_isCopy
set_option maxRecDepth 20000 in
theorem ggX8_lose_X8_note : GoodIn wsX8_lose wsX8_note := goodIn_r _ [19, 20, 21, 3, 61, 62, 63, 64, 65, 66] (by decide +kernel) (by decide +kernel)
set_option maxRecDepth 20000 in
theorem gX8_lose_X8_note : GoodIn wsX8_lose (wsV RX8 94 RX8 yX8_note wsX8_note) := goodIn_app (goodIn_of _ (by decide +kernel)) ggX8_lose_X8_note
set_option maxRecDepth 20000 in
theorem ggX8_lose_X8_findHold : GoodIn wsX8_lose wsX8_findHold := goodIn_r _ [25, 3, 26, 27, 28, 7, 29, 61, 62, 63, 64, 65, 66] (by decide +kernel) (by decide +kernel)
set_option maxRecDepth 20000 in
theorem gX8_lose_X8_findHold : GoodIn wsX8_lose (wsV RX8 72 RX8 yX8_findHold wsX8_findHold) := goodIn_app (goodIn_of _ (by decide +kernel)) ggX8_lose_X8_findHold
set_option maxRecDepth 20000 in
theorem ggX8_lose_X8_setCopy : GoodIn wsX8_lose wsX8_setCopy := goodIn_r _ [33, 3, 61, 62, 63, 64, 65, 66] (by decide +kernel) (by decide +kernel)
set_option maxRecDepth 20000 in
theorem gX8_lose_X8_setCopy : GoodIn wsX8_lose (wsV RX8 57 RX8 yX8_setCopy wsX8_setCopy) := goodIn_app (goodIn_of _ (by decide +kernel)) ggX8_lose_X8_setCopy
set_option maxRecDepth 20000 in
theorem ggX8_lose_X8_serve : GoodIn wsX8_lose wsX8_serve := goodIn_r _ [37, 38, 39, 40, 7, 41, 3, 42, 43, 44, 45, 26, 27, 28, 29, 46, 47, 48, 49, 50, 51, 52, 53, 12, 13, 14, 15, 54, 55, 56, 57, 58, 59, 60, 30, 31, 32, 33, 61, 62, 63, 64, 65, 66] (by decide +kernel) (by decide +kernel)
set_option maxRecDepth 20000 in
theorem gX8_lose_X8_serve : GoodIn wsX8_lose (wsV RX8 79 RX8 yX8_serve wsX8_serve) := goodIn_app (goodIn_of _ (by decide +kernel)) ggX8_lose_X8_serve
theorem dX8_lose_0 : decode cX8_lose 0 = .ok (.aload_n 0, 1) := by decide +kernel
theorem dX8_lose_1 : decode cX8_lose 1 = .ok (.iload_n 1, 1) := by decide +kernel
theorem dX8_lose_2 : decode cX8_lose 2 = .ok (.invokevirtual 106, 3) := by decide +kernel
theorem dX8_lose_5 : decode cX8_lose 5 = .ok (.ifCond .ne 6, 3) := by decide +kernel
theorem dX8_lose_8 : decode cX8_lose 8 = .ok (.ldc 92, 2) := by decide +kernel
theorem dX8_lose_10 : decode cX8_lose 10 = .ok (.ireturn, 1) := by decide +kernel
theorem dX8_lose_11 : decode cX8_lose 11 = .ok (.aload_n 0, 1) := by decide +kernel
theorem dX8_lose_12 : decode cX8_lose 12 = .ok (.iload_n 1, 1) := by decide +kernel
theorem dX8_lose_13 : decode cX8_lose 13 = .ok (.iconst 2, 1) := by decide +kernel
theorem dX8_lose_14 : decode cX8_lose 14 = .ok (.invokevirtual 51, 3) := by decide +kernel
theorem dX8_lose_17 : decode cX8_lose 17 = .ok (.istore_n 2, 1) := by decide +kernel
theorem dX8_lose_18 : decode cX8_lose 18 = .ok (.iload_n 2, 1) := by decide +kernel
theorem dX8_lose_19 : decode cX8_lose 19 = .ok (.iconst 4, 1) := by decide +kernel
theorem dX8_lose_20 : decode cX8_lose 20 = .ok (.if_icmp .ne 6, 3) := by decide +kernel
theorem dX8_lose_23 : decode cX8_lose 23 = .ok (.ldc 115, 2) := by decide +kernel
theorem dX8_lose_25 : decode cX8_lose 25 = .ok (.ireturn, 1) := by decide +kernel
theorem dX8_lose_26 : decode cX8_lose 26 = .ok (.aload_n 0, 1) := by decide +kernel
theorem dX8_lose_27 : decode cX8_lose 27 = .ok (.invokevirtual 94, 3) := by decide +kernel
theorem dX8_lose_30 : decode cX8_lose 30 = .ok (.iload_n 2, 1) := by decide +kernel
theorem dX8_lose_31 : decode cX8_lose 31 = .ok (.iconst 2, 1) := by decide +kernel
theorem dX8_lose_32 : decode cX8_lose 32 = .ok (.if_icmp .eq 8, 3) := by decide +kernel
theorem dX8_lose_35 : decode cX8_lose 35 = .ok (.iload_n 2, 1) := by decide +kernel
theorem dX8_lose_36 : decode cX8_lose 36 = .ok (.iconst 3, 1) := by decide +kernel
theorem dX8_lose_37 : decode cX8_lose 37 = .ok (.if_icmp .ne 28, 3) := by decide +kernel
theorem dX8_lose_40 : decode cX8_lose 40 = .ok (.aload_n 0, 1) := by decide +kernel
theorem dX8_lose_41 : decode cX8_lose 41 = .ok (.getfield 7, 3) := by decide +kernel
theorem dX8_lose_44 : decode cX8_lose 44 = .ok (.bipush 88, 2) := by decide +kernel
theorem dX8_lose_46 : decode cX8_lose 46 = .ok (.bipush 7, 2) := by decide +kernel
theorem dX8_lose_48 : decode cX8_lose 48 = .ok (.aload_n 0, 1) := by decide +kernel
theorem dX8_lose_49 : decode cX8_lose 49 = .ok (.aload_n 0, 1) := by decide +kernel
theorem dX8_lose_50 : decode cX8_lose 50 = .ok (.iload_n 1, 1) := by decide +kernel
theorem dX8_lose_51 : decode cX8_lose 51 = .ok (.iconst 3, 1) := by decide +kernel
theorem dX8_lose_52 : decode cX8_lose 52 = .ok (.invokevirtual 51, 3) := by decide +kernel
theorem dX8_lose_55 : decode cX8_lose 55 = .ok (.invokevirtual 72, 3) := by decide +kernel
theorem dX8_lose_58 : decode cX8_lose 58 = .ok (.imul, 1) := by decide +kernel
theorem dX8_lose_59 : decode cX8_lose 59 = .ok (.iadd, 1) := by decide +kernel
theorem dX8_lose_60 : decode cX8_lose 60 = .ok (.bipush 6, 2) := by decide +kernel
theorem dX8_lose_62 : decode cX8_lose 62 = .ok (.iadd, 1) := by decide +kernel
theorem dX8_lose_63 : decode cX8_lose 63 = .ok (.iconst 0, 1) := by decide +kernel
theorem dX8_lose_64 : decode cX8_lose 64 = .ok (.iastore, 1) := by decide +kernel
theorem dX8_lose_65 : decode cX8_lose 65 = .ok (.aload_n 0, 1) := by decide +kernel
theorem dX8_lose_66 : decode cX8_lose 66 = .ok (.iload_n 1, 1) := by decide +kernel
theorem dX8_lose_67 : decode cX8_lose 67 = .ok (.iconst 4, 1) := by decide +kernel
theorem dX8_lose_68 : decode cX8_lose 68 = .ok (.iconst 0, 1) := by decide +kernel
theorem dX8_lose_69 : decode cX8_lose 69 = .ok (.iconst 0, 1) := by decide +kernel
theorem dX8_lose_70 : decode cX8_lose 70 = .ok (.invokevirtual 57, 3) := by decide +kernel
theorem dX8_lose_73 : decode cX8_lose 73 = .ok (.aload_n 0, 1) := by decide +kernel
theorem dX8_lose_74 : decode cX8_lose 74 = .ok (.invokevirtual 79, 3) := by decide +kernel
theorem dX8_lose_77 : decode cX8_lose 77 = .ok (.iload_n 2, 1) := by decide +kernel
theorem dX8_lose_78 : decode cX8_lose 78 = .ok (.ireturn, 1) := by decide +kernel
set_option maxRecDepth 20000 in
theorem ggX8_mayHold_X8_holdAt : GoodIn wsX8_mayHold wsX8_holdAt := goodIn_r _ [6, 1, 18, 19, 20, 21, 22, 23] (by decide +kernel) (by decide +kernel)
set_option maxRecDepth 20000 in
theorem gX8_mayHold_X8_holdAt : GoodIn wsX8_mayHold (wsV RX8 41 RX8 yX8_holdAt wsX8_holdAt) := goodIn_app (goodIn_of _ (by decide +kernel)) ggX8_mayHold_X8_holdAt
set_option maxRecDepth 20000 in
theorem ggX8_mayHold_X8_outsOf : GoodIn wsX8_mayHold wsX8_outsOf := goodIn_r _ [14, 1, 7, 8, 9, 5, 10, 18, 19, 20, 21, 22, 23] (by decide +kernel) (by decide +kernel)
set_option maxRecDepth 20000 in
theorem gX8_mayHold_X8_outsOf : GoodIn wsX8_mayHold (wsV RX8 97 RX8 yX8_outsOf wsX8_outsOf) := goodIn_app (goodIn_of _ (by decide +kernel)) ggX8_mayHold_X8_outsOf
set_option maxRecDepth 20000 in
theorem ggX8_mayHold_X8_has : GoodIn wsX8_mayHold wsX8_has := goodIn_r _ [17] (by decide +kernel) (by decide +kernel)
set_option maxRecDepth 20000 in
theorem gX8_mayHold_X8_has : GoodIn wsX8_mayHold (va_wsS RX8 33 yX8_has wsX8_has) := goodIn_app (goodIn_of _ (by decide +kernel)) ggX8_mayHold_X8_has
theorem dX8_mayHold_0 : decode cX8_mayHold 0 = .ok (.iconst 1, 1) := by decide +kernel
theorem dX8_mayHold_1 : decode cX8_mayHold 1 = .ok (.istore_n 3, 1) := by decide +kernel
theorem dX8_mayHold_2 : decode cX8_mayHold 2 = .ok (.iconst 0, 1) := by decide +kernel
theorem dX8_mayHold_3 : decode cX8_mayHold 3 = .ok (.istore 4, 2) := by decide +kernel
theorem dX8_mayHold_5 : decode cX8_mayHold 5 = .ok (.iload 4, 2) := by decide +kernel
theorem dX8_mayHold_7 : decode cX8_mayHold 7 = .ok (.aload_n 0, 1) := by decide +kernel
theorem dX8_mayHold_8 : decode cX8_mayHold 8 = .ok (.getfield 7, 3) := by decide +kernel
theorem dX8_mayHold_11 : decode cX8_mayHold 11 = .ok (.iconst 5, 1) := by decide +kernel
theorem dX8_mayHold_12 : decode cX8_mayHold 12 = .ok (.iaload, 1) := by decide +kernel
theorem dX8_mayHold_13 : decode cX8_mayHold 13 = .ok (.if_icmp .ge 41, 3) := by decide +kernel
theorem dX8_mayHold_16 : decode cX8_mayHold 16 = .ok (.iload_n 3, 1) := by decide +kernel
theorem dX8_mayHold_17 : decode cX8_mayHold 17 = .ok (.ifCond .eq 29, 3) := by decide +kernel
theorem dX8_mayHold_20 : decode cX8_mayHold 20 = .ok (.aload_n 0, 1) := by decide +kernel
theorem dX8_mayHold_21 : decode cX8_mayHold 21 = .ok (.iload 4, 2) := by decide +kernel
theorem dX8_mayHold_23 : decode cX8_mayHold 23 = .ok (.iconst 1, 1) := by decide +kernel
theorem dX8_mayHold_24 : decode cX8_mayHold 24 = .ok (.invokevirtual 41, 3) := by decide +kernel
theorem dX8_mayHold_27 : decode cX8_mayHold 27 = .ok (.iload_n 1, 1) := by decide +kernel
theorem dX8_mayHold_28 : decode cX8_mayHold 28 = .ok (.if_icmp .ne 14, 3) := by decide +kernel
theorem dX8_mayHold_31 : decode cX8_mayHold 31 = .ok (.aload_n 0, 1) := by decide +kernel
theorem dX8_mayHold_32 : decode cX8_mayHold 32 = .ok (.iload 4, 2) := by decide +kernel
theorem dX8_mayHold_34 : decode cX8_mayHold 34 = .ok (.iconst 2, 1) := by decide +kernel
theorem dX8_mayHold_35 : decode cX8_mayHold 35 = .ok (.invokevirtual 41, 3) := by decide +kernel
theorem dX8_mayHold_38 : decode cX8_mayHold 38 = .ok (.iload_n 2, 1) := by decide +kernel
theorem dX8_mayHold_39 : decode cX8_mayHold 39 = .ok (.if_icmp .eq 7, 3) := by decide +kernel
theorem dX8_mayHold_42 : decode cX8_mayHold 42 = .ok (.iconst 1, 1) := by decide +kernel
theorem dX8_mayHold_43 : decode cX8_mayHold 43 = .ok (.goto 4, 3) := by decide +kernel
theorem dX8_mayHold_46 : decode cX8_mayHold 46 = .ok (.iconst 0, 1) := by decide +kernel
theorem dX8_mayHold_47 : decode cX8_mayHold 47 = .ok (.istore_n 3, 1) := by decide +kernel
theorem dX8_mayHold_48 : decode cX8_mayHold 48 = .ok (.iinc 4 1, 3) := by decide +kernel
theorem dX8_mayHold_51 : decode cX8_mayHold 51 = .ok (.goto (-46), 3) := by decide +kernel
theorem dX8_mayHold_54 : decode cX8_mayHold 54 = .ok (.iconst 0, 1) := by decide +kernel
theorem dX8_mayHold_55 : decode cX8_mayHold 55 = .ok (.istore 4, 2) := by decide +kernel
end
section
theorem dX8_mayHold_57 : decode cX8_mayHold 57 = .ok (.iload 4, 2) := by decide +kernel
theorem dX8_mayHold_59 : decode cX8_mayHold 59 = .ok (.aload_n 0, 1) := by decide +kernel
theorem dX8_mayHold_60 : decode cX8_mayHold 60 = .ok (.getfield 7, 3) := by decide +kernel
theorem dX8_mayHold_63 : decode cX8_mayHold 63 = .ok (.iconst 4, 1) := by decide +kernel
theorem dX8_mayHold_64 : decode cX8_mayHold 64 = .ok (.iaload, 1) := by decide +kernel
theorem dX8_mayHold_65 : decode cX8_mayHold 65 = .ok (.if_icmp .ge 43, 3) := by decide +kernel
theorem dX8_mayHold_68 : decode cX8_mayHold 68 = .ok (.iload_n 3, 1) := by decide +kernel
theorem dX8_mayHold_69 : decode cX8_mayHold 69 = .ok (.ifCond .eq 31, 3) := by decide +kernel
theorem dX8_mayHold_72 : decode cX8_mayHold 72 = .ok (.aload_n 0, 1) := by decide +kernel
theorem dX8_mayHold_73 : decode cX8_mayHold 73 = .ok (.iload 4, 2) := by decide +kernel
theorem dX8_mayHold_75 : decode cX8_mayHold 75 = .ok (.iconst 0, 1) := by decide +kernel
theorem dX8_mayHold_76 : decode cX8_mayHold 76 = .ok (.invokevirtual 51, 3) := by decide +kernel
theorem dX8_mayHold_79 : decode cX8_mayHold 79 = .ok (.iload_n 2, 1) := by decide +kernel
theorem dX8_mayHold_80 : decode cX8_mayHold 80 = .ok (.if_icmp .ne 16, 3) := by decide +kernel
theorem dX8_mayHold_83 : decode cX8_mayHold 83 = .ok (.aload_n 0, 1) := by decide +kernel
theorem dX8_mayHold_84 : decode cX8_mayHold 84 = .ok (.iload_n 1, 1) := by decide +kernel
theorem dX8_mayHold_85 : decode cX8_mayHold 85 = .ok (.invokevirtual 97, 3) := by decide +kernel
theorem dX8_mayHold_88 : decode cX8_mayHold 88 = .ok (.iload 4, 2) := by decide +kernel
theorem dX8_mayHold_90 : decode cX8_mayHold 90 = .ok (.invokestatic 33, 3) := by decide +kernel
theorem dX8_mayHold_93 : decode cX8_mayHold 93 = .ok (.ifCond .ne 7, 3) := by decide +kernel
theorem dX8_mayHold_96 : decode cX8_mayHold 96 = .ok (.iconst 1, 1) := by decide +kernel
theorem dX8_mayHold_97 : decode cX8_mayHold 97 = .ok (.goto 4, 3) := by decide +kernel
theorem dX8_mayHold_100 : decode cX8_mayHold 100 = .ok (.iconst 0, 1) := by decide +kernel
theorem dX8_mayHold_101 : decode cX8_mayHold 101 = .ok (.istore_n 3, 1) := by decide +kernel
theorem dX8_mayHold_102 : decode cX8_mayHold 102 = .ok (.iinc 4 1, 3) := by decide +kernel
theorem dX8_mayHold_105 : decode cX8_mayHold 105 = .ok (.goto (-48), 3) := by decide +kernel
theorem dX8_mayHold_108 : decode cX8_mayHold 108 = .ok (.iload_n 3, 1) := by decide +kernel
theorem dX8_mayHold_109 : decode cX8_mayHold 109 = .ok (.ireturn, 1) := by decide +kernel
set_option maxRecDepth 20000 in
theorem ggX8_doHold_X8_serve : GoodIn wsX8_doHold wsX8_serve := goodIn_r _ [6, 7, 8, 9, 5, 10, 1, 11, 12, 13, 14, 15, 16, 17, 18, 19, 20, 21, 22, 23, 24, 25, 26, 27, 28, 29, 30, 31, 32, 33, 34, 35, 36, 37, 38, 39, 40, 41, 42, 43, 44, 45, 46, 47] (by decide +kernel) (by decide +kernel)
set_option maxRecDepth 20000 in
theorem gX8_doHold_X8_serve : GoodIn wsX8_doHold (wsV RX8 79 RX8 yX8_serve wsX8_serve) := goodIn_app (goodIn_of _ (by decide +kernel)) ggX8_doHold_X8_serve
theorem dX8_doHold_0 : decode cX8_doHold 0 = .ok (.bipush 88, 2) := by decide +kernel
theorem dX8_doHold_2 : decode cX8_doHold 2 = .ok (.bipush 7, 2) := by decide +kernel
theorem dX8_doHold_4 : decode cX8_doHold 4 = .ok (.aload_n 0, 1) := by decide +kernel
theorem dX8_doHold_5 : decode cX8_doHold 5 = .ok (.getfield 7, 3) := by decide +kernel
theorem dX8_doHold_8 : decode cX8_doHold 8 = .ok (.iconst 5, 1) := by decide +kernel
theorem dX8_doHold_9 : decode cX8_doHold 9 = .ok (.iaload, 1) := by decide +kernel
theorem dX8_doHold_10 : decode cX8_doHold 10 = .ok (.imul, 1) := by decide +kernel
theorem dX8_doHold_11 : decode cX8_doHold 11 = .ok (.iadd, 1) := by decide +kernel
theorem dX8_doHold_12 : decode cX8_doHold 12 = .ok (.istore 5, 2) := by decide +kernel
theorem dX8_doHold_14 : decode cX8_doHold 14 = .ok (.aload_n 0, 1) := by decide +kernel
theorem dX8_doHold_15 : decode cX8_doHold 15 = .ok (.getfield 7, 3) := by decide +kernel
theorem dX8_doHold_18 : decode cX8_doHold 18 = .ok (.bipush 6, 2) := by decide +kernel
theorem dX8_doHold_20 : decode cX8_doHold 20 = .ok (.iaload, 1) := by decide +kernel
theorem dX8_doHold_21 : decode cX8_doHold 21 = .ok (.istore 6, 2) := by decide +kernel
theorem dX8_doHold_23 : decode cX8_doHold 23 = .ok (.aload_n 0, 1) := by decide +kernel
theorem dX8_doHold_24 : decode cX8_doHold 24 = .ok (.getfield 7, 3) := by decide +kernel
theorem dX8_doHold_27 : decode cX8_doHold 27 = .ok (.iload 5, 2) := by decide +kernel
theorem dX8_doHold_29 : decode cX8_doHold 29 = .ok (.iconst 0, 1) := by decide +kernel
theorem dX8_doHold_30 : decode cX8_doHold 30 = .ok (.iadd, 1) := by decide +kernel
theorem dX8_doHold_31 : decode cX8_doHold 31 = .ok (.iload 6, 2) := by decide +kernel
theorem dX8_doHold_33 : decode cX8_doHold 33 = .ok (.iastore, 1) := by decide +kernel
theorem dX8_doHold_34 : decode cX8_doHold 34 = .ok (.aload_n 0, 1) := by decide +kernel
theorem dX8_doHold_35 : decode cX8_doHold 35 = .ok (.getfield 7, 3) := by decide +kernel
theorem dX8_doHold_38 : decode cX8_doHold 38 = .ok (.iload 5, 2) := by decide +kernel
theorem dX8_doHold_40 : decode cX8_doHold 40 = .ok (.iconst 1, 1) := by decide +kernel
theorem dX8_doHold_41 : decode cX8_doHold 41 = .ok (.iadd, 1) := by decide +kernel
theorem dX8_doHold_42 : decode cX8_doHold 42 = .ok (.iload_n 1, 1) := by decide +kernel
theorem dX8_doHold_43 : decode cX8_doHold 43 = .ok (.iastore, 1) := by decide +kernel
theorem dX8_doHold_44 : decode cX8_doHold 44 = .ok (.aload_n 0, 1) := by decide +kernel
theorem dX8_doHold_45 : decode cX8_doHold 45 = .ok (.getfield 7, 3) := by decide +kernel
theorem dX8_doHold_48 : decode cX8_doHold 48 = .ok (.iload 5, 2) := by decide +kernel
theorem dX8_doHold_50 : decode cX8_doHold 50 = .ok (.iconst 2, 1) := by decide +kernel
theorem dX8_doHold_51 : decode cX8_doHold 51 = .ok (.iadd, 1) := by decide +kernel
theorem dX8_doHold_52 : decode cX8_doHold 52 = .ok (.iload_n 2, 1) := by decide +kernel
theorem dX8_doHold_53 : decode cX8_doHold 53 = .ok (.iastore, 1) := by decide +kernel
theorem dX8_doHold_54 : decode cX8_doHold 54 = .ok (.aload_n 0, 1) := by decide +kernel
theorem dX8_doHold_55 : decode cX8_doHold 55 = .ok (.getfield 7, 3) := by decide +kernel
theorem dX8_doHold_58 : decode cX8_doHold 58 = .ok (.iload 5, 2) := by decide +kernel
theorem dX8_doHold_60 : decode cX8_doHold 60 = .ok (.iconst 3, 1) := by decide +kernel
theorem dX8_doHold_61 : decode cX8_doHold 61 = .ok (.iadd, 1) := by decide +kernel
theorem dX8_doHold_62 : decode cX8_doHold 62 = .ok (.iload_n 3, 1) := by decide +kernel
theorem dX8_doHold_63 : decode cX8_doHold 63 = .ok (.iastore, 1) := by decide +kernel
theorem dX8_doHold_64 : decode cX8_doHold 64 = .ok (.aload_n 0, 1) := by decide +kernel
theorem dX8_doHold_65 : decode cX8_doHold 65 = .ok (.getfield 7, 3) := by decide +kernel
theorem dX8_doHold_68 : decode cX8_doHold 68 = .ok (.iload 5, 2) := by decide +kernel
theorem dX8_doHold_70 : decode cX8_doHold 70 = .ok (.iconst 4, 1) := by decide +kernel
theorem dX8_doHold_71 : decode cX8_doHold 71 = .ok (.iadd, 1) := by decide +kernel
theorem dX8_doHold_72 : decode cX8_doHold 72 = .ok (.iload 4, 2) := by decide +kernel
theorem dX8_doHold_74 : decode cX8_doHold 74 = .ok (.iastore, 1) := by decide +kernel
theorem dX8_doHold_75 : decode cX8_doHold 75 = .ok (.aload_n 0, 1) := by decide +kernel
theorem dX8_doHold_76 : decode cX8_doHold 76 = .ok (.getfield 7, 3) := by decide +kernel
theorem dX8_doHold_79 : decode cX8_doHold 79 = .ok (.iload 5, 2) := by decide +kernel
theorem dX8_doHold_81 : decode cX8_doHold 81 = .ok (.iconst 5, 1) := by decide +kernel
theorem dX8_doHold_82 : decode cX8_doHold 82 = .ok (.iadd, 1) := by decide +kernel
theorem dX8_doHold_83 : decode cX8_doHold 83 = .ok (.aload_n 0, 1) := by decide +kernel
theorem dX8_doHold_84 : decode cX8_doHold 84 = .ok (.getfield 7, 3) := by decide +kernel
theorem dX8_doHold_87 : decode cX8_doHold 87 = .ok (.iconst 0, 1) := by decide +kernel
theorem dX8_doHold_88 : decode cX8_doHold 88 = .ok (.iaload, 1) := by decide +kernel
theorem dX8_doHold_89 : decode cX8_doHold 89 = .ok (.iastore, 1) := by decide +kernel
theorem dX8_doHold_90 : decode cX8_doHold 90 = .ok (.aload_n 0, 1) := by decide +kernel
theorem dX8_doHold_91 : decode cX8_doHold 91 = .ok (.getfield 7, 3) := by decide +kernel
theorem dX8_doHold_94 : decode cX8_doHold 94 = .ok (.iload 5, 2) := by decide +kernel
theorem dX8_doHold_96 : decode cX8_doHold 96 = .ok (.bipush 6, 2) := by decide +kernel
theorem dX8_doHold_98 : decode cX8_doHold 98 = .ok (.iadd, 1) := by decide +kernel
theorem dX8_doHold_99 : decode cX8_doHold 99 = .ok (.iconst 0, 1) := by decide +kernel
theorem dX8_doHold_100 : decode cX8_doHold 100 = .ok (.iastore, 1) := by decide +kernel
theorem dX8_doHold_101 : decode cX8_doHold 101 = .ok (.aload_n 0, 1) := by decide +kernel
theorem dX8_doHold_102 : decode cX8_doHold 102 = .ok (.getfield 7, 3) := by decide +kernel
theorem dX8_doHold_105 : decode cX8_doHold 105 = .ok (.iconst 5, 1) := by decide +kernel
theorem dX8_doHold_106 : decode cX8_doHold 106 = .ok (.dup2, 1) := by decide +kernel
theorem dX8_doHold_107 : decode cX8_doHold 107 = .ok (.iaload, 1) := by decide +kernel
theorem dX8_doHold_108 : decode cX8_doHold 108 = .ok (.iconst 1, 1) := by decide +kernel
theorem dX8_doHold_109 : decode cX8_doHold 109 = .ok (.iadd, 1) := by decide +kernel
theorem dX8_doHold_110 : decode cX8_doHold 110 = .ok (.iastore, 1) := by decide +kernel
theorem dX8_doHold_111 : decode cX8_doHold 111 = .ok (.aload_n 0, 1) := by decide +kernel
theorem dX8_doHold_112 : decode cX8_doHold 112 = .ok (.getfield 7, 3) := by decide +kernel
theorem dX8_doHold_115 : decode cX8_doHold 115 = .ok (.bipush 6, 2) := by decide +kernel
theorem dX8_doHold_117 : decode cX8_doHold 117 = .ok (.dup2, 1) := by decide +kernel
theorem dX8_doHold_118 : decode cX8_doHold 118 = .ok (.iaload, 1) := by decide +kernel
theorem dX8_doHold_119 : decode cX8_doHold 119 = .ok (.iconst 1, 1) := by decide +kernel
theorem dX8_doHold_120 : decode cX8_doHold 120 = .ok (.iadd, 1) := by decide +kernel
theorem dX8_doHold_121 : decode cX8_doHold 121 = .ok (.iastore, 1) := by decide +kernel
theorem dX8_doHold_122 : decode cX8_doHold 122 = .ok (.aload_n 0, 1) := by decide +kernel
theorem dX8_doHold_123 : decode cX8_doHold 123 = .ok (.invokevirtual 79, 3) := by decide +kernel
theorem dX8_doHold_126 : decode cX8_doHold 126 = .ok (.iload 6, 2) := by decide +kernel
theorem dX8_doHold_128 : decode cX8_doHold 128 = .ok (.ireturn, 1) := by decide +kernel
set_option maxRecDepth 20000 in
theorem ggX8_hold_X8_isReader : GoodIn wsX8_hold wsX8_isReader := goodIn_r _ [10, 11, 12, 13, 9, 14] (by decide +kernel) (by decide +kernel)
set_option maxRecDepth 20000 in
theorem gX8_hold_X8_isReader : GoodIn wsX8_hold (va_wsS RX8 109 yX8_isReader wsX8_isReader) := goodIn_app (goodIn_of _ (by decide +kernel)) ggX8_hold_X8_isReader
set_option maxRecDepth 20000 in
theorem ggX8_hold_X8_isTitle : GoodIn wsX8_hold wsX8_isTitle := goodIn_r _ [17, 18, 12, 13, 9, 14] (by decide +kernel) (by decide +kernel)
set_option maxRecDepth 20000 in
theorem gX8_hold_X8_isTitle : GoodIn wsX8_hold (va_wsS RX8 86 yX8_isTitle wsX8_isTitle) := goodIn_app (goodIn_of _ (by decide +kernel)) ggX8_hold_X8_isTitle
set_option maxRecDepth 20000 in
theorem ggX8_hold_X8_isBranch : GoodIn wsX8_hold wsX8_isBranch := goodIn_r _ [21, 2, 12, 13, 9, 14] (by decide +kernel) (by decide +kernel)
set_option maxRecDepth 20000 in
theorem gX8_hold_X8_isBranch : GoodIn wsX8_hold (va_wsS RX8 89 yX8_isBranch wsX8_isBranch) := goodIn_app (goodIn_of _ (by decide +kernel)) ggX8_hold_X8_isBranch
set_option maxRecDepth 20000 in
theorem ggX8_hold_X8_in : GoodIn wsX8_hold wsX8_in := goodIn_r _ [14] (by decide +kernel) (by decide +kernel)
set_option maxRecDepth 20000 in
theorem gX8_hold_X8_in : GoodIn wsX8_hold (va_wsS RX8 23 yX8_in wsX8_in) := goodIn_app (goodIn_of _ (by decide +kernel)) ggX8_hold_X8_in
set_option maxRecDepth 20000 in
theorem ggX8_hold_X8_mayHold : GoodIn wsX8_hold wsX8_mayHold := goodIn_r _ [25, 5, 26, 27, 28, 9, 29, 30, 31, 32, 33, 34, 35, 36, 37, 38, 39, 40, 82, 83, 84, 85, 86, 87] (by decide +kernel) (by decide +kernel)
set_option maxRecDepth 20000 in
theorem gX8_hold_X8_mayHold : GoodIn wsX8_hold (wsV RX8 132 RX8 yX8_mayHold wsX8_mayHold) := goodIn_app (goodIn_of _ (by decide +kernel)) ggX8_hold_X8_mayHold
set_option maxRecDepth 20000 in
theorem ggX8_hold_X8_note : GoodIn wsX8_hold wsX8_note := goodIn_r _ [44, 45, 46, 5, 82, 83, 84, 85, 86, 87] (by decide +kernel) (by decide +kernel)
set_option maxRecDepth 20000 in
theorem gX8_hold_X8_note : GoodIn wsX8_hold (wsV RX8 94 RX8 yX8_note wsX8_note) := goodIn_app (goodIn_of _ (by decide +kernel)) ggX8_hold_X8_note
set_option maxRecDepth 20000 in
theorem ggX8_hold_X8_doHold : GoodIn wsX8_hold wsX8_doHold := goodIn_r _ [50, 5, 51, 52, 53, 9, 54, 55, 56, 57, 58, 59, 60, 61, 62, 26, 27, 28, 29, 63, 64, 65, 66, 67, 68, 69, 70, 30, 31, 32, 33, 71, 72, 73, 74, 75, 76, 77, 78, 79, 80, 81, 82, 83, 84, 85, 86, 87] (by decide +kernel) (by decide +kernel)
set_option maxRecDepth 20000 in
theorem gX8_hold_X8_doHold : GoodIn wsX8_hold (wsV RX8 135 RX8 yX8_doHold wsX8_doHold) := goodIn_app (goodIn_of _ (by decide +kernel)) ggX8_hold_X8_doHold
theorem dX8_hold_0 : decode cX8_hold 0 = .ok (.iload_n 1, 1) := by decide +kernel
theorem dX8_hold_1 : decode cX8_hold 1 = .ok (.invokestatic 109, 3) := by decide +kernel
theorem dX8_hold_4 : decode cX8_hold 4 = .ok (.ifCond .eq 17, 3) := by decide +kernel
theorem dX8_hold_7 : decode cX8_hold 7 = .ok (.iload_n 2, 1) := by decide +kernel
theorem dX8_hold_8 : decode cX8_hold 8 = .ok (.invokestatic 86, 3) := by decide +kernel
theorem dX8_hold_11 : decode cX8_hold 11 = .ok (.ifCond .eq 10, 3) := by decide +kernel
theorem dX8_hold_14 : decode cX8_hold 14 = .ok (.iload_n 3, 1) := by decide +kernel
theorem dX8_hold_15 : decode cX8_hold 15 = .ok (.invokestatic 89, 3) := by decide +kernel
theorem dX8_hold_18 : decode cX8_hold 18 = .ok (.ifCond .ne 6, 3) := by decide +kernel
theorem dX8_hold_21 : decode cX8_hold 21 = .ok (.ldc 92, 2) := by decide +kernel
theorem dX8_hold_23 : decode cX8_hold 23 = .ok (.ireturn, 1) := by decide +kernel
theorem dX8_hold_24 : decode cX8_hold 24 = .ok (.iload 4, 2) := by decide +kernel
theorem dX8_hold_26 : decode cX8_hold 26 = .ok (.i2l, 1) := by decide +kernel
theorem dX8_hold_27 : decode cX8_hold 27 = .ok (.lconst 0, 1) := by decide +kernel
theorem dX8_hold_28 : decode cX8_hold 28 = .ok (.ldc2_w 27, 3) := by decide +kernel
theorem dX8_hold_31 : decode cX8_hold 31 = .ok (.invokestatic 23, 3) := by decide +kernel
theorem dX8_hold_34 : decode cX8_hold 34 = .ok (.ifCond .ne 6, 3) := by decide +kernel
theorem dX8_hold_37 : decode cX8_hold 37 = .ok (.ldc 131, 2) := by decide +kernel
theorem dX8_hold_39 : decode cX8_hold 39 = .ok (.ireturn, 1) := by decide +kernel
theorem dX8_hold_40 : decode cX8_hold 40 = .ok (.aload_n 0, 1) := by decide +kernel
theorem dX8_hold_41 : decode cX8_hold 41 = .ok (.iload_n 1, 1) := by decide +kernel
theorem dX8_hold_42 : decode cX8_hold 42 = .ok (.iload_n 2, 1) := by decide +kernel
theorem dX8_hold_43 : decode cX8_hold 43 = .ok (.invokevirtual 132, 3) := by decide +kernel
theorem dX8_hold_46 : decode cX8_hold 46 = .ok (.ifCond .ne 6, 3) := by decide +kernel
theorem dX8_hold_49 : decode cX8_hold 49 = .ok (.ldc 115, 2) := by decide +kernel
theorem dX8_hold_51 : decode cX8_hold 51 = .ok (.ireturn, 1) := by decide +kernel
theorem dX8_hold_52 : decode cX8_hold 52 = .ok (.aload_n 0, 1) := by decide +kernel
theorem dX8_hold_53 : decode cX8_hold 53 = .ok (.getfield 7, 3) := by decide +kernel
theorem dX8_hold_56 : decode cX8_hold 56 = .ok (.iconst 5, 1) := by decide +kernel
theorem dX8_hold_57 : decode cX8_hold 57 = .ok (.iaload, 1) := by decide +kernel
theorem dX8_hold_58 : decode cX8_hold 58 = .ok (.bipush 12, 2) := by decide +kernel
theorem dX8_hold_60 : decode cX8_hold 60 = .ok (.if_icmp .ne 6, 3) := by decide +kernel
theorem dX8_hold_63 : decode cX8_hold 63 = .ok (.ldc 93, 2) := by decide +kernel
theorem dX8_hold_65 : decode cX8_hold 65 = .ok (.ireturn, 1) := by decide +kernel
theorem dX8_hold_66 : decode cX8_hold 66 = .ok (.aload_n 0, 1) := by decide +kernel
theorem dX8_hold_67 : decode cX8_hold 67 = .ok (.invokevirtual 94, 3) := by decide +kernel
theorem dX8_hold_70 : decode cX8_hold 70 = .ok (.aload_n 0, 1) := by decide +kernel
theorem dX8_hold_71 : decode cX8_hold 71 = .ok (.iload_n 1, 1) := by decide +kernel
theorem dX8_hold_72 : decode cX8_hold 72 = .ok (.iload_n 2, 1) := by decide +kernel
theorem dX8_hold_73 : decode cX8_hold 73 = .ok (.iload_n 3, 1) := by decide +kernel
theorem dX8_hold_74 : decode cX8_hold 74 = .ok (.iload 4, 2) := by decide +kernel
theorem dX8_hold_76 : decode cX8_hold 76 = .ok (.invokevirtual 135, 3) := by decide +kernel
theorem dX8_hold_79 : decode cX8_hold 79 = .ok (.ireturn, 1) := by decide +kernel
set_option maxRecDepth 20000 in
theorem ggX8_giveUp_X8_findHold : GoodIn wsX8_giveUp wsX8_findHold := goodIn_r _ [7, 2, 8, 9, 10, 6, 11, 61, 62, 63, 64, 65, 66] (by decide +kernel) (by decide +kernel)
set_option maxRecDepth 20000 in
theorem gX8_giveUp_X8_findHold : GoodIn wsX8_giveUp (wsV RX8 72 RX8 yX8_findHold wsX8_findHold) := goodIn_app (goodIn_of _ (by decide +kernel)) ggX8_giveUp_X8_findHold
set_option maxRecDepth 20000 in
theorem ggX8_giveUp_X8_note : GoodIn wsX8_giveUp wsX8_note := goodIn_r _ [15, 16, 17, 2, 61, 62, 63, 64, 65, 66] (by decide +kernel) (by decide +kernel)
set_option maxRecDepth 20000 in
theorem gX8_giveUp_X8_note : GoodIn wsX8_giveUp (wsV RX8 94 RX8 yX8_note wsX8_note) := goodIn_app (goodIn_of _ (by decide +kernel)) ggX8_giveUp_X8_note
set_option maxRecDepth 20000 in
theorem ggX8_giveUp_X8_setCopy : GoodIn wsX8_giveUp wsX8_setCopy := goodIn_r _ [29, 2, 61, 62, 63, 64, 65, 66] (by decide +kernel) (by decide +kernel)
set_option maxRecDepth 20000 in
theorem gX8_giveUp_X8_setCopy : GoodIn wsX8_giveUp (wsV RX8 57 RX8 yX8_setCopy wsX8_setCopy) := goodIn_app (goodIn_of _ (by decide +kernel)) ggX8_giveUp_X8_setCopy
set_option maxRecDepth 20000 in
theorem ggX8_giveUp_X8_serve : GoodIn wsX8_giveUp wsX8_serve := goodIn_r _ [37, 38, 39, 40, 6, 41, 2, 42, 43, 44, 45, 8, 9, 10, 11, 46, 47, 48, 49, 50, 51, 52, 53, 22, 23, 24, 25, 54, 55, 56, 57, 58, 59, 60, 26, 27, 28, 29, 61, 62, 63, 64, 65, 66] (by decide +kernel) (by decide +kernel)
set_option maxRecDepth 20000 in
theorem gX8_giveUp_X8_serve : GoodIn wsX8_giveUp (wsV RX8 79 RX8 yX8_serve wsX8_serve) := goodIn_app (goodIn_of _ (by decide +kernel)) ggX8_giveUp_X8_serve
theorem dX8_giveUp_0 : decode cX8_giveUp 0 = .ok (.aload_n 0, 1) := by decide +kernel
theorem dX8_giveUp_1 : decode cX8_giveUp 1 = .ok (.iload_n 1, 1) := by decide +kernel
theorem dX8_giveUp_2 : decode cX8_giveUp 2 = .ok (.invokevirtual 72, 3) := by decide +kernel
theorem dX8_giveUp_5 : decode cX8_giveUp 5 = .ok (.istore_n 2, 1) := by decide +kernel
theorem dX8_giveUp_6 : decode cX8_giveUp 6 = .ok (.iload_n 2, 1) := by decide +kernel
theorem dX8_giveUp_7 : decode cX8_giveUp 7 = .ok (.ifCond .ge 6, 3) := by decide +kernel
theorem dX8_giveUp_10 : decode cX8_giveUp 10 = .ok (.ldc 92, 2) := by decide +kernel
theorem dX8_giveUp_12 : decode cX8_giveUp 12 = .ok (.ireturn, 1) := by decide +kernel
theorem dX8_giveUp_13 : decode cX8_giveUp 13 = .ok (.aload_n 0, 1) := by decide +kernel
theorem dX8_giveUp_14 : decode cX8_giveUp 14 = .ok (.invokevirtual 94, 3) := by decide +kernel
theorem dX8_giveUp_17 : decode cX8_giveUp 17 = .ok (.aload_n 0, 1) := by decide +kernel
theorem dX8_giveUp_18 : decode cX8_giveUp 18 = .ok (.iload_n 2, 1) := by decide +kernel
theorem dX8_giveUp_19 : decode cX8_giveUp 19 = .ok (.invokevirtual 139, 3) := by decide +kernel
theorem dX8_giveUp_22 : decode cX8_giveUp 22 = .ok (.istore_n 3, 1) := by decide +kernel
theorem dX8_giveUp_23 : decode cX8_giveUp 23 = .ok (.iload_n 3, 1) := by decide +kernel
theorem dX8_giveUp_24 : decode cX8_giveUp 24 = .ok (.ifCond .lt 11, 3) := by decide +kernel
theorem dX8_giveUp_27 : decode cX8_giveUp 27 = .ok (.aload_n 0, 1) := by decide +kernel
theorem dX8_giveUp_28 : decode cX8_giveUp 28 = .ok (.iload_n 3, 1) := by decide +kernel
theorem dX8_giveUp_29 : decode cX8_giveUp 29 = .ok (.iconst 0, 1) := by decide +kernel
theorem dX8_giveUp_30 : decode cX8_giveUp 30 = .ok (.iconst 0, 1) := by decide +kernel
theorem dX8_giveUp_31 : decode cX8_giveUp 31 = .ok (.iconst 0, 1) := by decide +kernel
theorem dX8_giveUp_32 : decode cX8_giveUp 32 = .ok (.invokevirtual 57, 3) := by decide +kernel
theorem dX8_giveUp_35 : decode cX8_giveUp 35 = .ok (.aload_n 0, 1) := by decide +kernel
theorem dX8_giveUp_36 : decode cX8_giveUp 36 = .ok (.iload_n 2, 1) := by decide +kernel
theorem dX8_giveUp_37 : decode cX8_giveUp 37 = .ok (.invokevirtual 75, 3) := by decide +kernel
theorem dX8_giveUp_40 : decode cX8_giveUp 40 = .ok (.aload_n 0, 1) := by decide +kernel
theorem dX8_giveUp_41 : decode cX8_giveUp 41 = .ok (.invokevirtual 79, 3) := by decide +kernel
theorem dX8_giveUp_44 : decode cX8_giveUp 44 = .ok (.aload_n 0, 1) := by decide +kernel
theorem dX8_giveUp_45 : decode cX8_giveUp 45 = .ok (.getfield 7, 3) := by decide +kernel
theorem dX8_giveUp_48 : decode cX8_giveUp 48 = .ok (.iconst 5, 1) := by decide +kernel
theorem dX8_giveUp_49 : decode cX8_giveUp 49 = .ok (.iaload, 1) := by decide +kernel
theorem dX8_giveUp_50 : decode cX8_giveUp 50 = .ok (.ireturn, 1) := by decide +kernel
set_option maxRecDepth 20000 in
theorem ggX8_pass_X8_in : GoodIn wsX8_pass wsX8_in := goodIn_r _ [8] (by decide +kernel) (by decide +kernel)
set_option maxRecDepth 20000 in
theorem gX8_pass_X8_in : GoodIn wsX8_pass (va_wsS RX8 23 yX8_in wsX8_in) := goodIn_app (goodIn_of _ (by decide +kernel)) ggX8_pass_X8_in
set_option maxRecDepth 20000 in
theorem ggX8_pass_X8_note : GoodIn wsX8_pass wsX8_note := goodIn_r _ [12, 13, 14, 3, 66, 67, 68, 69, 70, 71] (by decide +kernel) (by decide +kernel)
set_option maxRecDepth 20000 in
theorem gX8_pass_X8_note : GoodIn wsX8_pass (wsV RX8 94 RX8 yX8_note wsX8_note) := goodIn_app (goodIn_of _ (by decide +kernel)) ggX8_pass_X8_note
set_option maxRecDepth 20000 in
theorem ggX8_pass_X8_passDay : GoodIn wsX8_pass wsX8_passDay := goodIn_r _ [18, 3, 19, 20, 21, 7, 22, 23, 24, 25, 26, 27, 28, 29, 30, 31, 32, 33, 34, 35, 36, 37, 38, 39, 40, 41, 42, 43, 44, 45, 46, 47, 48, 49, 50, 51, 52, 53, 54, 55, 56, 57, 58, 59, 60, 61, 62, 63, 64, 65, 66, 67, 68, 69, 70, 71] (by decide +kernel) (by decide +kernel)
set_option maxRecDepth 20000 in
theorem gX8_pass_X8_passDay : GoodIn wsX8_pass (wsV RX8 144 RX8 yX8_passDay wsX8_passDay) := goodIn_app (goodIn_of _ (by decide +kernel)) ggX8_pass_X8_passDay
theorem dX8_pass_0 : decode cX8_pass 0 = .ok (.iload_n 1, 1) := by decide +kernel
theorem dX8_pass_1 : decode cX8_pass 1 = .ok (.i2l, 1) := by decide +kernel
theorem dX8_pass_2 : decode cX8_pass 2 = .ok (.lconst 1, 1) := by decide +kernel
theorem dX8_pass_3 : decode cX8_pass 3 = .ok (.ldc2_w 142, 3) := by decide +kernel
theorem dX8_pass_6 : decode cX8_pass 6 = .ok (.invokestatic 23, 3) := by decide +kernel
theorem dX8_pass_9 : decode cX8_pass 9 = .ok (.ifCond .ne 6, 3) := by decide +kernel
theorem dX8_pass_12 : decode cX8_pass 12 = .ok (.ldc 131, 2) := by decide +kernel
theorem dX8_pass_14 : decode cX8_pass 14 = .ok (.ireturn, 1) := by decide +kernel
theorem dX8_pass_15 : decode cX8_pass 15 = .ok (.aload_n 0, 1) := by decide +kernel
theorem dX8_pass_16 : decode cX8_pass 16 = .ok (.getfield 7, 3) := by decide +kernel
theorem dX8_pass_19 : decode cX8_pass 19 = .ok (.iconst 0, 1) := by decide +kernel
theorem dX8_pass_20 : decode cX8_pass 20 = .ok (.iaload, 1) := by decide +kernel
theorem dX8_pass_21 : decode cX8_pass 21 = .ok (.iload_n 1, 1) := by decide +kernel
theorem dX8_pass_22 : decode cX8_pass 22 = .ok (.iadd, 1) := by decide +kernel
theorem dX8_pass_23 : decode cX8_pass 23 = .ok (.sipush 9999, 3) := by decide +kernel
theorem dX8_pass_26 : decode cX8_pass 26 = .ok (.if_icmp .le 6, 3) := by decide +kernel
theorem dX8_pass_29 : decode cX8_pass 29 = .ok (.ldc 115, 2) := by decide +kernel
theorem dX8_pass_31 : decode cX8_pass 31 = .ok (.ireturn, 1) := by decide +kernel
theorem dX8_pass_32 : decode cX8_pass 32 = .ok (.aload_n 0, 1) := by decide +kernel
theorem dX8_pass_33 : decode cX8_pass 33 = .ok (.invokevirtual 94, 3) := by decide +kernel
theorem dX8_pass_36 : decode cX8_pass 36 = .ok (.iconst 0, 1) := by decide +kernel
theorem dX8_pass_37 : decode cX8_pass 37 = .ok (.istore_n 2, 1) := by decide +kernel
theorem dX8_pass_38 : decode cX8_pass 38 = .ok (.iload_n 2, 1) := by decide +kernel
theorem dX8_pass_39 : decode cX8_pass 39 = .ok (.iload_n 1, 1) := by decide +kernel
theorem dX8_pass_40 : decode cX8_pass 40 = .ok (.if_icmp .ge 13, 3) := by decide +kernel
theorem dX8_pass_43 : decode cX8_pass 43 = .ok (.aload_n 0, 1) := by decide +kernel
theorem dX8_pass_44 : decode cX8_pass 44 = .ok (.invokevirtual 144, 3) := by decide +kernel
theorem dX8_pass_47 : decode cX8_pass 47 = .ok (.iinc 2 1, 3) := by decide +kernel
theorem dX8_pass_50 : decode cX8_pass 50 = .ok (.goto (-12), 3) := by decide +kernel
theorem dX8_pass_53 : decode cX8_pass 53 = .ok (.aload_n 0, 1) := by decide +kernel
theorem dX8_pass_54 : decode cX8_pass 54 = .ok (.getfield 7, 3) := by decide +kernel
theorem dX8_pass_57 : decode cX8_pass 57 = .ok (.iconst 0, 1) := by decide +kernel
theorem dX8_pass_58 : decode cX8_pass 58 = .ok (.iaload, 1) := by decide +kernel
theorem dX8_pass_59 : decode cX8_pass 59 = .ok (.ireturn, 1) := by decide +kernel
set_option maxRecDepth 20000 in
theorem ggX8_set_X8_in : GoodIn wsX8_set wsX8_in := goodIn_r _ [10] (by decide +kernel) (by decide +kernel)
set_option maxRecDepth 20000 in
theorem gX8_set_X8_in : GoodIn wsX8_set (va_wsS RX8 23 yX8_in wsX8_in) := goodIn_app (goodIn_of _ (by decide +kernel)) ggX8_set_X8_in
set_option maxRecDepth 20000 in
theorem ggX8_set_X8_note : GoodIn wsX8_set wsX8_note := goodIn_r _ [14, 15, 16, 6, 17, 18, 19, 20, 21, 22] (by decide +kernel) (by decide +kernel)
set_option maxRecDepth 20000 in
theorem gX8_set_X8_note : GoodIn wsX8_set (wsV RX8 94 RX8 yX8_note wsX8_note) := goodIn_app (goodIn_of _ (by decide +kernel)) ggX8_set_X8_note
theorem dX8_set_0 : decode cX8_set 0 = .ok (.iload_n 1, 1) := by decide +kernel
theorem dX8_set_1 : decode cX8_set 1 = .ok (.i2l, 1) := by decide +kernel
theorem dX8_set_2 : decode cX8_set 2 = .ok (.lconst 0, 1) := by decide +kernel
theorem dX8_set_3 : decode cX8_set 3 = .ok (.ldc2_w 147, 3) := by decide +kernel
theorem dX8_set_6 : decode cX8_set 6 = .ok (.invokestatic 23, 3) := by decide +kernel
theorem dX8_set_9 : decode cX8_set 9 = .ok (.ifCond .eq 45, 3) := by decide +kernel
theorem dX8_set_12 : decode cX8_set 12 = .ok (.iload_n 2, 1) := by decide +kernel
theorem dX8_set_13 : decode cX8_set 13 = .ok (.i2l, 1) := by decide +kernel
theorem dX8_set_14 : decode cX8_set 14 = .ok (.iload_n 1, 1) := by decide +kernel
theorem dX8_set_15 : decode cX8_set 15 = .ok (.iconst 2, 1) := by decide +kernel
theorem dX8_set_16 : decode cX8_set 16 = .ok (.if_icmp .ne 7, 3) := by decide +kernel
theorem dX8_set_19 : decode cX8_set 19 = .ok (.lconst 0, 1) := by decide +kernel
theorem dX8_set_20 : decode cX8_set 20 = .ok (.goto 4, 3) := by decide +kernel
theorem dX8_set_23 : decode cX8_set 23 = .ok (.lconst 1, 1) := by decide +kernel
theorem dX8_set_24 : decode cX8_set 24 = .ok (.iload_n 1, 1) := by decide +kernel
theorem dX8_set_25 : decode cX8_set 25 = .ok (.ifCond .ne 9, 3) := by decide +kernel
theorem dX8_set_28 : decode cX8_set 28 = .ok (.ldc2_w 149, 3) := by decide +kernel
theorem dX8_set_31 : decode cX8_set 31 = .ok (.goto 17, 3) := by decide +kernel
theorem dX8_set_34 : decode cX8_set 34 = .ok (.iload_n 1, 1) := by decide +kernel
theorem dX8_set_35 : decode cX8_set 35 = .ok (.iconst 1, 1) := by decide +kernel
theorem dX8_set_36 : decode cX8_set 36 = .ok (.if_icmp .ne 9, 3) := by decide +kernel
theorem dX8_set_39 : decode cX8_set 39 = .ok (.ldc2_w 151, 3) := by decide +kernel
theorem dX8_set_42 : decode cX8_set 42 = .ok (.goto 6, 3) := by decide +kernel
theorem dX8_set_45 : decode cX8_set 45 = .ok (.ldc2_w 153, 3) := by decide +kernel
theorem dX8_set_48 : decode cX8_set 48 = .ok (.invokestatic 23, 3) := by decide +kernel
theorem dX8_set_51 : decode cX8_set 51 = .ok (.ifCond .ne 6, 3) := by decide +kernel
theorem dX8_set_54 : decode cX8_set 54 = .ok (.ldc 131, 2) := by decide +kernel
theorem dX8_set_56 : decode cX8_set 56 = .ok (.ireturn, 1) := by decide +kernel
theorem dX8_set_57 : decode cX8_set 57 = .ok (.aload_n 0, 1) := by decide +kernel
theorem dX8_set_58 : decode cX8_set 58 = .ok (.invokevirtual 94, 3) := by decide +kernel
theorem dX8_set_61 : decode cX8_set 61 = .ok (.aload_n 0, 1) := by decide +kernel
theorem dX8_set_62 : decode cX8_set 62 = .ok (.getfield 7, 3) := by decide +kernel
theorem dX8_set_65 : decode cX8_set 65 = .ok (.iconst 1, 1) := by decide +kernel
theorem dX8_set_66 : decode cX8_set 66 = .ok (.iload_n 1, 1) := by decide +kernel
theorem dX8_set_67 : decode cX8_set 67 = .ok (.iadd, 1) := by decide +kernel
theorem dX8_set_68 : decode cX8_set 68 = .ok (.iaload, 1) := by decide +kernel
theorem dX8_set_69 : decode cX8_set 69 = .ok (.istore_n 3, 1) := by decide +kernel
theorem dX8_set_70 : decode cX8_set 70 = .ok (.aload_n 0, 1) := by decide +kernel
theorem dX8_set_71 : decode cX8_set 71 = .ok (.getfield 7, 3) := by decide +kernel
theorem dX8_set_74 : decode cX8_set 74 = .ok (.iconst 1, 1) := by decide +kernel
theorem dX8_set_75 : decode cX8_set 75 = .ok (.iload_n 1, 1) := by decide +kernel
theorem dX8_set_76 : decode cX8_set 76 = .ok (.iadd, 1) := by decide +kernel
theorem dX8_set_77 : decode cX8_set 77 = .ok (.iload_n 2, 1) := by decide +kernel
theorem dX8_set_78 : decode cX8_set 78 = .ok (.iastore, 1) := by decide +kernel
theorem dX8_set_79 : decode cX8_set 79 = .ok (.iload_n 3, 1) := by decide +kernel
theorem dX8_set_80 : decode cX8_set 80 = .ok (.ireturn, 1) := by decide +kernel
theorem dX8_lotOf_0 : decode cX8_lotOf 0 = .ok (.aload_n 0, 1) := by decide +kernel
theorem dX8_lotOf_1 : decode cX8_lotOf 1 = .ok (.aload_n 0, 1) := by decide +kernel
theorem dX8_lotOf_2 : decode cX8_lotOf 2 = .ok (.getfield 155, 3) := by decide +kernel
theorem dX8_lotOf_5 : decode cX8_lotOf 5 = .ok (.ldc2_w 159, 3) := by decide +kernel
theorem dX8_lotOf_8 : decode cX8_lotOf 8 = .ok (.lmul, 1) := by decide +kernel
theorem dX8_lotOf_9 : decode cX8_lotOf 9 = .ok (.ldc2_w 161, 3) := by decide +kernel
theorem dX8_lotOf_12 : decode cX8_lotOf 12 = .ok (.lrem, 1) := by decide +kernel
theorem dX8_lotOf_13 : decode cX8_lotOf 13 = .ok (.putfield 155, 3) := by decide +kernel
theorem dX8_lotOf_16 : decode cX8_lotOf 16 = .ok (.aload_n 0, 1) := by decide +kernel
theorem dX8_lotOf_17 : decode cX8_lotOf 17 = .ok (.getfield 155, 3) := by decide +kernel
theorem dX8_lotOf_20 : decode cX8_lotOf 20 = .ok (.iload_n 1, 1) := by decide +kernel
theorem dX8_lotOf_21 : decode cX8_lotOf 21 = .ok (.i2l, 1) := by decide +kernel
theorem dX8_lotOf_22 : decode cX8_lotOf 22 = .ok (.lrem, 1) := by decide +kernel
theorem dX8_lotOf_23 : decode cX8_lotOf 23 = .ok (.l2i, 1) := by decide +kernel
theorem dX8_lotOf_24 : decode cX8_lotOf 24 = .ok (.ireturn, 1) := by decide +kernel
set_option maxRecDepth 20000 in
theorem ggX8_drawHold_X8_lotOf : GoodIn wsX8_drawHold wsX8_lotOf := goodIn_r _ [6, 7, 8, 9, 64, 65, 66, 67, 68, 69] (by decide +kernel) (by decide +kernel)
set_option maxRecDepth 20000 in
theorem gX8_drawHold_X8_lotOf : GoodIn wsX8_drawHold (wsV RX8 163 RX8 yX8_lotOf wsX8_lotOf) := goodIn_app (goodIn_of _ (by decide +kernel)) ggX8_drawHold_X8_lotOf
set_option maxRecDepth 20000 in
theorem ggX8_drawHold_X8_mayHold : GoodIn wsX8_drawHold wsX8_mayHold := goodIn_r _ [13, 1, 14, 15, 16, 5, 17, 18, 19, 20, 21, 22, 23, 24, 25, 26, 27, 28, 64, 65, 66, 67, 68, 69] (by decide +kernel) (by decide +kernel)
set_option maxRecDepth 20000 in
theorem gX8_drawHold_X8_mayHold : GoodIn wsX8_drawHold (wsV RX8 132 RX8 yX8_mayHold wsX8_mayHold) := goodIn_app (goodIn_of _ (by decide +kernel)) ggX8_drawHold_X8_mayHold
set_option maxRecDepth 20000 in
theorem ggX8_drawHold_X8_doHold : GoodIn wsX8_drawHold wsX8_doHold := goodIn_r _ [32, 1, 33, 34, 35, 5, 36, 37, 38, 39, 40, 41, 42, 43, 44, 14, 15, 16, 17, 45, 46, 47, 48, 49, 50, 51, 52, 18, 19, 20, 21, 53, 54, 55, 56, 57, 58, 59, 60, 61, 62, 63, 64, 65, 66, 67, 68, 69] (by decide +kernel) (by decide +kernel)
set_option maxRecDepth 20000 in
theorem gX8_drawHold_X8_doHold : GoodIn wsX8_drawHold (wsV RX8 135 RX8 yX8_doHold wsX8_doHold) := goodIn_app (goodIn_of _ (by decide +kernel)) ggX8_drawHold_X8_doHold
theorem dX8_drawHold_0 : decode cX8_drawHold 0 = .ok (.aload_n 0, 1) := by decide +kernel
theorem dX8_drawHold_1 : decode cX8_drawHold 1 = .ok (.bipush 10, 2) := by decide +kernel
theorem dX8_drawHold_3 : decode cX8_drawHold 3 = .ok (.invokevirtual 163, 3) := by decide +kernel
theorem dX8_drawHold_6 : decode cX8_drawHold 6 = .ok (.istore_n 1, 1) := by decide +kernel
theorem dX8_drawHold_7 : decode cX8_drawHold 7 = .ok (.aload_n 0, 1) := by decide +kernel
theorem dX8_drawHold_8 : decode cX8_drawHold 8 = .ok (.bipush 6, 2) := by decide +kernel
theorem dX8_drawHold_10 : decode cX8_drawHold 10 = .ok (.invokevirtual 163, 3) := by decide +kernel
theorem dX8_drawHold_13 : decode cX8_drawHold 13 = .ok (.istore_n 2, 1) := by decide +kernel
theorem dX8_drawHold_14 : decode cX8_drawHold 14 = .ok (.aload_n 0, 1) := by decide +kernel
theorem dX8_drawHold_15 : decode cX8_drawHold 15 = .ok (.iconst 4, 1) := by decide +kernel
theorem dX8_drawHold_16 : decode cX8_drawHold 16 = .ok (.invokevirtual 163, 3) := by decide +kernel
theorem dX8_drawHold_19 : decode cX8_drawHold 19 = .ok (.istore_n 3, 1) := by decide +kernel
theorem dX8_drawHold_20 : decode cX8_drawHold 20 = .ok (.aload_n 0, 1) := by decide +kernel
theorem dX8_drawHold_21 : decode cX8_drawHold 21 = .ok (.iconst 4, 1) := by decide +kernel
theorem dX8_drawHold_22 : decode cX8_drawHold 22 = .ok (.invokevirtual 163, 3) := by decide +kernel
theorem dX8_drawHold_25 : decode cX8_drawHold 25 = .ok (.istore 4, 2) := by decide +kernel
theorem dX8_drawHold_27 : decode cX8_drawHold 27 = .ok (.aload_n 0, 1) := by decide +kernel
theorem dX8_drawHold_28 : decode cX8_drawHold 28 = .ok (.iload_n 1, 1) := by decide +kernel
theorem dX8_drawHold_29 : decode cX8_drawHold 29 = .ok (.iload_n 2, 1) := by decide +kernel
theorem dX8_drawHold_30 : decode cX8_drawHold 30 = .ok (.invokevirtual 132, 3) := by decide +kernel
theorem dX8_drawHold_33 : decode cX8_drawHold 33 = .ok (.ifCond .eq 24, 3) := by decide +kernel
theorem dX8_drawHold_36 : decode cX8_drawHold 36 = .ok (.aload_n 0, 1) := by decide +kernel
theorem dX8_drawHold_37 : decode cX8_drawHold 37 = .ok (.getfield 7, 3) := by decide +kernel
theorem dX8_drawHold_40 : decode cX8_drawHold 40 = .ok (.iconst 5, 1) := by decide +kernel
theorem dX8_drawHold_41 : decode cX8_drawHold 41 = .ok (.iaload, 1) := by decide +kernel
theorem dX8_drawHold_42 : decode cX8_drawHold 42 = .ok (.bipush 12, 2) := by decide +kernel
theorem dX8_drawHold_44 : decode cX8_drawHold 44 = .ok (.if_icmp .ge 13, 3) := by decide +kernel
theorem dX8_drawHold_47 : decode cX8_drawHold 47 = .ok (.aload_n 0, 1) := by decide +kernel
theorem dX8_drawHold_48 : decode cX8_drawHold 48 = .ok (.iload_n 1, 1) := by decide +kernel
theorem dX8_drawHold_49 : decode cX8_drawHold 49 = .ok (.iload_n 2, 1) := by decide +kernel
theorem dX8_drawHold_50 : decode cX8_drawHold 50 = .ok (.iload_n 3, 1) := by decide +kernel
theorem dX8_drawHold_51 : decode cX8_drawHold 51 = .ok (.iload 4, 2) := by decide +kernel
theorem dX8_drawHold_53 : decode cX8_drawHold 53 = .ok (.invokevirtual 135, 3) := by decide +kernel
theorem dX8_drawHold_56 : decode cX8_drawHold 56 = .ok (.pop, 1) := by decide +kernel
theorem dX8_drawHold_57 : decode cX8_drawHold 57 = .ok (.return_, 1) := by decide +kernel
set_option maxRecDepth 20000 in
theorem ggX8_drift_X8_in : GoodIn wsX8_drift wsX8_in := goodIn_r _ [9] (by decide +kernel) (by decide +kernel)
set_option maxRecDepth 20000 in
theorem gX8_drift_X8_in : GoodIn wsX8_drift (va_wsS RX8 23 yX8_in wsX8_in) := goodIn_app (goodIn_of _ (by decide +kernel)) ggX8_drift_X8_in
set_option maxRecDepth 20000 in
theorem ggX8_drift_X8_note : GoodIn wsX8_drift wsX8_note := goodIn_r _ [13, 14, 15, 5, 123, 124, 125, 126, 127, 128] (by decide +kernel) (by decide +kernel)
set_option maxRecDepth 20000 in
theorem gX8_drift_X8_note : GoodIn wsX8_drift (wsV RX8 94 RX8 yX8_note wsX8_note) := goodIn_app (goodIn_of _ (by decide +kernel)) ggX8_drift_X8_note
set_option maxRecDepth 20000 in
theorem ggX8_drift_X8_lotOf : GoodIn wsX8_drift wsX8_lotOf := goodIn_r _ [19, 4, 20, 21, 123, 124, 125, 126, 127, 128] (by decide +kernel) (by decide +kernel)
set_option maxRecDepth 20000 in
theorem gX8_drift_X8_lotOf : GoodIn wsX8_drift (wsV RX8 163 RX8 yX8_lotOf wsX8_lotOf) := goodIn_app (goodIn_of _ (by decide +kernel)) ggX8_drift_X8_lotOf
set_option maxRecDepth 20000 in
theorem ggX8_drift_X8_drawHold : GoodIn wsX8_drift wsX8_drawHold := goodIn_r _ [25, 5, 16, 17, 18, 8, 19, 4, 20, 21, 26, 27, 28, 29, 30, 31, 32, 33, 34, 35, 36, 37, 38, 39, 40, 41, 42, 43, 44, 45, 46, 47, 48, 49, 50, 51, 52, 53, 54, 55, 56, 57, 58, 59, 60, 61, 62, 63, 64, 65, 66, 67, 68, 69, 70, 71, 72, 73, 74, 75, 76, 77, 78, 79, 123, 124, 125, 126, 127, 128] (by decide +kernel) (by decide +kernel)
set_option maxRecDepth 20000 in
theorem gX8_drift_X8_drawHold : GoodIn wsX8_drift (wsV RX8 168 RX8 yX8_drawHold wsX8_drawHold) := goodIn_app (goodIn_of _ (by decide +kernel)) ggX8_drift_X8_drawHold
set_option maxRecDepth 20000 in
theorem ggX8_drift_X8_passDay : GoodIn wsX8_drift wsX8_passDay := goodIn_r _ [122, 5, 34, 35, 36, 8, 37, 88, 89, 90, 91, 30, 31, 32, 33, 76, 77, 78, 79, 99, 100, 101, 102, 49, 50, 51, 52, 53, 54, 55, 56, 57, 58, 59, 60, 61, 62, 63, 64, 65, 66, 67, 68, 69, 70, 71, 72, 73, 74, 75, 123, 124, 125, 126, 127, 128] (by decide +kernel) (by decide +kernel)
set_option maxRecDepth 20000 in
theorem gX8_drift_X8_passDay : GoodIn wsX8_drift (wsV RX8 144 RX8 yX8_passDay wsX8_passDay) := goodIn_app (goodIn_of _ (by decide +kernel)) ggX8_drift_X8_passDay
theorem dX8_drift_0 : decode cX8_drift 0 = .ok (.iload_n 1, 1) := by decide +kernel
theorem dX8_drift_1 : decode cX8_drift 1 = .ok (.i2l, 1) := by decide +kernel
theorem dX8_drift_2 : decode cX8_drift 2 = .ok (.lconst 1, 1) := by decide +kernel
theorem dX8_drift_3 : decode cX8_drift 3 = .ok (.ldc2_w 151, 3) := by decide +kernel
theorem dX8_drift_6 : decode cX8_drift 6 = .ok (.invokestatic 23, 3) := by decide +kernel
theorem dX8_drift_9 : decode cX8_drift 9 = .ok (.ifCond .eq 15, 3) := by decide +kernel
theorem dX8_drift_12 : decode cX8_drift 12 = .ok (.iload_n 2, 1) := by decide +kernel
theorem dX8_drift_13 : decode cX8_drift 13 = .ok (.i2l, 1) := by decide +kernel
theorem dX8_drift_14 : decode cX8_drift 14 = .ok (.lconst 1, 1) := by decide +kernel
theorem dX8_drift_15 : decode cX8_drift 15 = .ok (.ldc2_w 166, 3) := by decide +kernel
theorem dX8_drift_18 : decode cX8_drift 18 = .ok (.invokestatic 23, 3) := by decide +kernel
theorem dX8_drift_21 : decode cX8_drift 21 = .ok (.ifCond .ne 6, 3) := by decide +kernel
theorem dX8_drift_24 : decode cX8_drift 24 = .ok (.ldc 131, 2) := by decide +kernel
theorem dX8_drift_26 : decode cX8_drift 26 = .ok (.ireturn, 1) := by decide +kernel
theorem dX8_drift_27 : decode cX8_drift 27 = .ok (.aload_n 0, 1) := by decide +kernel
theorem dX8_drift_28 : decode cX8_drift 28 = .ok (.invokevirtual 94, 3) := by decide +kernel
theorem dX8_drift_31 : decode cX8_drift 31 = .ok (.aload_n 0, 1) := by decide +kernel
theorem dX8_drift_32 : decode cX8_drift 32 = .ok (.iload_n 2, 1) := by decide +kernel
theorem dX8_drift_33 : decode cX8_drift 33 = .ok (.i2l, 1) := by decide +kernel
theorem dX8_drift_34 : decode cX8_drift 34 = .ok (.putfield 155, 3) := by decide +kernel
theorem dX8_drift_37 : decode cX8_drift 37 = .ok (.iconst 0, 1) := by decide +kernel
theorem dX8_drift_38 : decode cX8_drift 38 = .ok (.istore_n 3, 1) := by decide +kernel
theorem dX8_drift_39 : decode cX8_drift 39 = .ok (.iload_n 3, 1) := by decide +kernel
theorem dX8_drift_40 : decode cX8_drift 40 = .ok (.iload_n 1, 1) := by decide +kernel
theorem dX8_drift_41 : decode cX8_drift 41 = .ok (.if_icmp .ge 83, 3) := by decide +kernel
theorem dX8_drift_44 : decode cX8_drift 44 = .ok (.aload_n 0, 1) := by decide +kernel
theorem dX8_drift_45 : decode cX8_drift 45 = .ok (.iconst 4, 1) := by decide +kernel
theorem dX8_drift_46 : decode cX8_drift 46 = .ok (.invokevirtual 163, 3) := by decide +kernel
theorem dX8_drift_49 : decode cX8_drift 49 = .ok (.istore 4, 2) := by decide +kernel
theorem dX8_drift_51 : decode cX8_drift 51 = .ok (.iload 4, 2) := by decide +kernel
theorem dX8_drift_53 : decode cX8_drift 53 = .ok (.ifCond .ne 10, 3) := by decide +kernel
theorem dX8_drift_56 : decode cX8_drift 56 = .ok (.aload_n 0, 1) := by decide +kernel
theorem dX8_drift_57 : decode cX8_drift 57 = .ok (.invokevirtual 168, 3) := by decide +kernel
theorem dX8_drift_60 : decode cX8_drift 60 = .ok (.goto 58, 3) := by decide +kernel
theorem dX8_drift_63 : decode cX8_drift 63 = .ok (.iload 4, 2) := by decide +kernel
theorem dX8_drift_65 : decode cX8_drift 65 = .ok (.iconst 3, 1) := by decide +kernel
theorem dX8_drift_66 : decode cX8_drift 66 = .ok (.if_icmp .ge 30, 3) := by decide +kernel
theorem dX8_drift_69 : decode cX8_drift 69 = .ok (.aload_n 0, 1) := by decide +kernel
theorem dX8_drift_70 : decode cX8_drift 70 = .ok (.getfield 7, 3) := by decide +kernel
theorem dX8_drift_73 : decode cX8_drift 73 = .ok (.iconst 4, 1) := by decide +kernel
theorem dX8_drift_74 : decode cX8_drift 74 = .ok (.iaload, 1) := by decide +kernel
theorem dX8_drift_75 : decode cX8_drift 75 = .ok (.ifCond .le 21, 3) := by decide +kernel
theorem dX8_drift_78 : decode cX8_drift 78 = .ok (.aload_n 0, 1) := by decide +kernel
theorem dX8_drift_79 : decode cX8_drift 79 = .ok (.iload 4, 2) := by decide +kernel
theorem dX8_drift_81 : decode cX8_drift 81 = .ok (.iconst 1, 1) := by decide +kernel
theorem dX8_drift_82 : decode cX8_drift 82 = .ok (.if_icmp .ne 7, 3) := by decide +kernel
theorem dX8_drift_85 : decode cX8_drift 85 = .ok (.iconst 1, 1) := by decide +kernel
theorem dX8_drift_86 : decode cX8_drift 86 = .ok (.goto 4, 3) := by decide +kernel
theorem dX8_drift_89 : decode cX8_drift 89 = .ok (.iconst 0, 1) := by decide +kernel
theorem dX8_drift_90 : decode cX8_drift 90 = .ok (.invokevirtual 171, 3) := by decide +kernel
theorem dX8_drift_93 : decode cX8_drift 93 = .ok (.goto 25, 3) := by decide +kernel
theorem dX8_drift_96 : decode cX8_drift 96 = .ok (.iload 4, 2) := by decide +kernel
theorem dX8_drift_98 : decode cX8_drift 98 = .ok (.iconst 3, 1) := by decide +kernel
theorem dX8_drift_99 : decode cX8_drift 99 = .ok (.if_icmp .ne 19, 3) := by decide +kernel
theorem dX8_drift_102 : decode cX8_drift 102 = .ok (.aload_n 0, 1) := by decide +kernel
theorem dX8_drift_103 : decode cX8_drift 103 = .ok (.getfield 7, 3) := by decide +kernel
theorem dX8_drift_106 : decode cX8_drift 106 = .ok (.iconst 0, 1) := by decide +kernel
theorem dX8_drift_107 : decode cX8_drift 107 = .ok (.iaload, 1) := by decide +kernel
theorem dX8_drift_108 : decode cX8_drift 108 = .ok (.sipush 9999, 3) := by decide +kernel
theorem dX8_drift_111 : decode cX8_drift 111 = .ok (.if_icmp .ge 7, 3) := by decide +kernel
theorem dX8_drift_114 : decode cX8_drift 114 = .ok (.aload_n 0, 1) := by decide +kernel
theorem dX8_drift_115 : decode cX8_drift 115 = .ok (.invokevirtual 144, 3) := by decide +kernel
theorem dX8_drift_118 : decode cX8_drift 118 = .ok (.iinc 3 1, 3) := by decide +kernel
theorem dX8_drift_121 : decode cX8_drift 121 = .ok (.goto (-82), 3) := by decide +kernel
theorem dX8_drift_124 : decode cX8_drift 124 = .ok (.aload_n 0, 1) := by decide +kernel
theorem dX8_drift_125 : decode cX8_drift 125 = .ok (.getfield 7, 3) := by decide +kernel
theorem dX8_drift_128 : decode cX8_drift 128 = .ok (.iconst 0, 1) := by decide +kernel
theorem dX8_drift_129 : decode cX8_drift 129 = .ok (.iaload, 1) := by decide +kernel
theorem dX8_drift_130 : decode cX8_drift 130 = .ok (.ireturn, 1) := by decide +kernel
theorem dX8_undo_0 : decode cX8_undo 0 = .ok (.aload_n 0, 1) := by decide +kernel
theorem dX8_undo_1 : decode cX8_undo 1 = .ok (.getfield 82, 3) := by decide +kernel
theorem dX8_undo_4 : decode cX8_undo 4 = .ok (.ifCond .ne 6, 3) := by decide +kernel
theorem dX8_undo_7 : decode cX8_undo 7 = .ok (.ldc 115, 2) := by decide +kernel
theorem dX8_undo_9 : decode cX8_undo 9 = .ok (.ireturn, 1) := by decide +kernel
theorem dX8_undo_10 : decode cX8_undo 10 = .ok (.aload_n 0, 1) := by decide +kernel
theorem dX8_undo_11 : decode cX8_undo 11 = .ok (.dup, 1) := by decide +kernel
theorem dX8_undo_12 : decode cX8_undo 12 = .ok (.getfield 82, 3) := by decide +kernel
theorem dX8_undo_15 : decode cX8_undo 15 = .ok (.iconst 1, 1) := by decide +kernel
theorem dX8_undo_16 : decode cX8_undo 16 = .ok (.isub, 1) := by decide +kernel
theorem dX8_undo_17 : decode cX8_undo 17 = .ok (.putfield 82, 3) := by decide +kernel
theorem dX8_undo_20 : decode cX8_undo 20 = .ok (.iconst 0, 1) := by decide +kernel
end
section
theorem dX8_undo_21 : decode cX8_undo 21 = .ok (.istore_n 1, 1) := by decide +kernel
theorem dX8_undo_22 : decode cX8_undo 22 = .ok (.iload_n 1, 1) := by decide +kernel
theorem dX8_undo_23 : decode cX8_undo 23 = .ok (.sipush 172, 3) := by decide +kernel
theorem dX8_undo_26 : decode cX8_undo 26 = .ok (.if_icmp .ge 30, 3) := by decide +kernel
theorem dX8_undo_29 : decode cX8_undo 29 = .ok (.aload_n 0, 1) := by decide +kernel
theorem dX8_undo_30 : decode cX8_undo 30 = .ok (.getfield 7, 3) := by decide +kernel
theorem dX8_undo_33 : decode cX8_undo 33 = .ok (.iload_n 1, 1) := by decide +kernel
theorem dX8_undo_34 : decode cX8_undo 34 = .ok (.aload_n 0, 1) := by decide +kernel
theorem dX8_undo_35 : decode cX8_undo 35 = .ok (.getfield 13, 3) := by decide +kernel
theorem dX8_undo_38 : decode cX8_undo 38 = .ok (.sipush 172, 3) := by decide +kernel
theorem dX8_undo_41 : decode cX8_undo 41 = .ok (.aload_n 0, 1) := by decide +kernel
theorem dX8_undo_42 : decode cX8_undo 42 = .ok (.getfield 82, 3) := by decide +kernel
theorem dX8_undo_45 : decode cX8_undo 45 = .ok (.imul, 1) := by decide +kernel
theorem dX8_undo_46 : decode cX8_undo 46 = .ok (.iload_n 1, 1) := by decide +kernel
theorem dX8_undo_47 : decode cX8_undo 47 = .ok (.iadd, 1) := by decide +kernel
theorem dX8_undo_48 : decode cX8_undo 48 = .ok (.iaload, 1) := by decide +kernel
theorem dX8_undo_49 : decode cX8_undo 49 = .ok (.iastore, 1) := by decide +kernel
theorem dX8_undo_50 : decode cX8_undo 50 = .ok (.iinc 1 1, 3) := by decide +kernel
theorem dX8_undo_53 : decode cX8_undo 53 = .ok (.goto (-31), 3) := by decide +kernel
theorem dX8_undo_56 : decode cX8_undo 56 = .ok (.aload_n 0, 1) := by decide +kernel
theorem dX8_undo_57 : decode cX8_undo 57 = .ok (.getfield 82, 3) := by decide +kernel
theorem dX8_undo_60 : decode cX8_undo 60 = .ok (.ireturn, 1) := by decide +kernel
theorem dX8_copiesThat_0 : decode cX8_copiesThat 0 = .ok (.iconst 0, 1) := by decide +kernel
theorem dX8_copiesThat_1 : decode cX8_copiesThat 1 = .ok (.istore_n 2, 1) := by decide +kernel
theorem dX8_copiesThat_2 : decode cX8_copiesThat 2 = .ok (.iconst 0, 1) := by decide +kernel
theorem dX8_copiesThat_3 : decode cX8_copiesThat 3 = .ok (.istore_n 3, 1) := by decide +kernel
theorem dX8_copiesThat_4 : decode cX8_copiesThat 4 = .ok (.iload_n 3, 1) := by decide +kernel
theorem dX8_copiesThat_5 : decode cX8_copiesThat 5 = .ok (.aload_n 0, 1) := by decide +kernel
theorem dX8_copiesThat_6 : decode cX8_copiesThat 6 = .ok (.getfield 7, 3) := by decide +kernel
theorem dX8_copiesThat_9 : decode cX8_copiesThat 9 = .ok (.iconst 4, 1) := by decide +kernel
theorem dX8_copiesThat_10 : decode cX8_copiesThat 10 = .ok (.iaload, 1) := by decide +kernel
theorem dX8_copiesThat_11 : decode cX8_copiesThat 11 = .ok (.if_icmp .ge 29, 3) := by decide +kernel
theorem dX8_copiesThat_14 : decode cX8_copiesThat 14 = .ok (.iload_n 2, 1) := by decide +kernel
theorem dX8_copiesThat_15 : decode cX8_copiesThat 15 = .ok (.aload_n 0, 1) := by decide +kernel
theorem dX8_copiesThat_16 : decode cX8_copiesThat 16 = .ok (.iload_n 3, 1) := by decide +kernel
theorem dX8_copiesThat_17 : decode cX8_copiesThat 17 = .ok (.iconst 2, 1) := by decide +kernel
theorem dX8_copiesThat_18 : decode cX8_copiesThat 18 = .ok (.invokevirtual 51, 3) := by decide +kernel
theorem dX8_copiesThat_21 : decode cX8_copiesThat 21 = .ok (.iload_n 1, 1) := by decide +kernel
theorem dX8_copiesThat_22 : decode cX8_copiesThat 22 = .ok (.if_icmp .ne 9, 3) := by decide +kernel
theorem dX8_copiesThat_25 : decode cX8_copiesThat 25 = .ok (.iconst 1, 1) := by decide +kernel
theorem dX8_copiesThat_26 : decode cX8_copiesThat 26 = .ok (.iload_n 3, 1) := by decide +kernel
theorem dX8_copiesThat_27 : decode cX8_copiesThat 27 = .ok (.ishl, 1) := by decide +kernel
theorem dX8_copiesThat_28 : decode cX8_copiesThat 28 = .ok (.goto 4, 3) := by decide +kernel
theorem dX8_copiesThat_31 : decode cX8_copiesThat 31 = .ok (.iconst 0, 1) := by decide +kernel
theorem dX8_copiesThat_32 : decode cX8_copiesThat 32 = .ok (.ior, 1) := by decide +kernel
theorem dX8_copiesThat_33 : decode cX8_copiesThat 33 = .ok (.istore_n 2, 1) := by decide +kernel
theorem dX8_copiesThat_34 : decode cX8_copiesThat 34 = .ok (.iinc 3 1, 3) := by decide +kernel
theorem dX8_copiesThat_37 : decode cX8_copiesThat 37 = .ok (.goto (-33), 3) := by decide +kernel
theorem dX8_copiesThat_40 : decode cX8_copiesThat 40 = .ok (.iload_n 2, 1) := by decide +kernel
theorem dX8_copiesThat_41 : decode cX8_copiesThat 41 = .ok (.ireturn, 1) := by decide +kernel
theorem dX8_overdue_0 : decode cX8_overdue 0 = .ok (.iconst 0, 1) := by decide +kernel
theorem dX8_overdue_1 : decode cX8_overdue 1 = .ok (.istore_n 1, 1) := by decide +kernel
theorem dX8_overdue_2 : decode cX8_overdue 2 = .ok (.iconst 0, 1) := by decide +kernel
theorem dX8_overdue_3 : decode cX8_overdue 3 = .ok (.istore_n 2, 1) := by decide +kernel
theorem dX8_overdue_4 : decode cX8_overdue 4 = .ok (.iload_n 2, 1) := by decide +kernel
theorem dX8_overdue_5 : decode cX8_overdue 5 = .ok (.aload_n 0, 1) := by decide +kernel
theorem dX8_overdue_6 : decode cX8_overdue 6 = .ok (.getfield 7, 3) := by decide +kernel
theorem dX8_overdue_9 : decode cX8_overdue 9 = .ok (.iconst 4, 1) := by decide +kernel
theorem dX8_overdue_10 : decode cX8_overdue 10 = .ok (.iaload, 1) := by decide +kernel
theorem dX8_overdue_11 : decode cX8_overdue 11 = .ok (.if_icmp .ge 27, 3) := by decide +kernel
theorem dX8_overdue_14 : decode cX8_overdue 14 = .ok (.iload_n 1, 1) := by decide +kernel
theorem dX8_overdue_15 : decode cX8_overdue 15 = .ok (.aload_n 0, 1) := by decide +kernel
theorem dX8_overdue_16 : decode cX8_overdue 16 = .ok (.iload_n 2, 1) := by decide +kernel
theorem dX8_overdue_17 : decode cX8_overdue 17 = .ok (.invokevirtual 122, 3) := by decide +kernel
theorem dX8_overdue_20 : decode cX8_overdue 20 = .ok (.ifCond .le 9, 3) := by decide +kernel
theorem dX8_overdue_23 : decode cX8_overdue 23 = .ok (.iconst 1, 1) := by decide +kernel
theorem dX8_overdue_24 : decode cX8_overdue 24 = .ok (.iload_n 2, 1) := by decide +kernel
theorem dX8_overdue_25 : decode cX8_overdue 25 = .ok (.ishl, 1) := by decide +kernel
theorem dX8_overdue_26 : decode cX8_overdue 26 = .ok (.goto 4, 3) := by decide +kernel
theorem dX8_overdue_29 : decode cX8_overdue 29 = .ok (.iconst 0, 1) := by decide +kernel
theorem dX8_overdue_30 : decode cX8_overdue 30 = .ok (.ior, 1) := by decide +kernel
theorem dX8_overdue_31 : decode cX8_overdue 31 = .ok (.istore_n 1, 1) := by decide +kernel
theorem dX8_overdue_32 : decode cX8_overdue 32 = .ok (.iinc 2 1, 3) := by decide +kernel
theorem dX8_overdue_35 : decode cX8_overdue 35 = .ok (.goto (-31), 3) := by decide +kernel
theorem dX8_overdue_38 : decode cX8_overdue 38 = .ok (.iload_n 1, 1) := by decide +kernel
theorem dX8_overdue_39 : decode cX8_overdue 39 = .ok (.ireturn, 1) := by decide +kernel
set_option maxRecDepth 20000 in
theorem ggX8_waiting_X8_holdAt : GoodIn wsX8_waiting wsX8_holdAt := goodIn_r _ [6, 1, 7, 8, 9, 10, 11, 12] (by decide +kernel) (by decide +kernel)
set_option maxRecDepth 20000 in
theorem gX8_waiting_X8_holdAt : GoodIn wsX8_waiting (wsV RX8 41 RX8 yX8_holdAt wsX8_holdAt) := goodIn_app (goodIn_of _ (by decide +kernel)) ggX8_waiting_X8_holdAt
theorem dX8_waiting_0 : decode cX8_waiting 0 = .ok (.iconst 0, 1) := by decide +kernel
theorem dX8_waiting_1 : decode cX8_waiting 1 = .ok (.istore_n 1, 1) := by decide +kernel
theorem dX8_waiting_2 : decode cX8_waiting 2 = .ok (.iconst 0, 1) := by decide +kernel
theorem dX8_waiting_3 : decode cX8_waiting 3 = .ok (.istore_n 2, 1) := by decide +kernel
theorem dX8_waiting_4 : decode cX8_waiting 4 = .ok (.iload_n 2, 1) := by decide +kernel
theorem dX8_waiting_5 : decode cX8_waiting 5 = .ok (.aload_n 0, 1) := by decide +kernel
theorem dX8_waiting_6 : decode cX8_waiting 6 = .ok (.getfield 7, 3) := by decide +kernel
theorem dX8_waiting_9 : decode cX8_waiting 9 = .ok (.iconst 5, 1) := by decide +kernel
theorem dX8_waiting_10 : decode cX8_waiting 10 = .ok (.iaload, 1) := by decide +kernel
theorem dX8_waiting_11 : decode cX8_waiting 11 = .ok (.if_icmp .ge 27, 3) := by decide +kernel
theorem dX8_waiting_14 : decode cX8_waiting 14 = .ok (.iload_n 1, 1) := by decide +kernel
theorem dX8_waiting_15 : decode cX8_waiting 15 = .ok (.aload_n 0, 1) := by decide +kernel
theorem dX8_waiting_16 : decode cX8_waiting 16 = .ok (.iload_n 2, 1) := by decide +kernel
theorem dX8_waiting_17 : decode cX8_waiting 17 = .ok (.bipush 6, 2) := by decide +kernel
theorem dX8_waiting_19 : decode cX8_waiting 19 = .ok (.invokevirtual 41, 3) := by decide +kernel
theorem dX8_waiting_22 : decode cX8_waiting 22 = .ok (.ifCond .ne 7, 3) := by decide +kernel
theorem dX8_waiting_25 : decode cX8_waiting 25 = .ok (.iconst 1, 1) := by decide +kernel
theorem dX8_waiting_26 : decode cX8_waiting 26 = .ok (.goto 4, 3) := by decide +kernel
theorem dX8_waiting_29 : decode cX8_waiting 29 = .ok (.iconst 0, 1) := by decide +kernel
theorem dX8_waiting_30 : decode cX8_waiting 30 = .ok (.iadd, 1) := by decide +kernel
theorem dX8_waiting_31 : decode cX8_waiting 31 = .ok (.istore_n 1, 1) := by decide +kernel
theorem dX8_waiting_32 : decode cX8_waiting 32 = .ok (.iinc 2 1, 3) := by decide +kernel
theorem dX8_waiting_35 : decode cX8_waiting 35 = .ok (.goto (-31), 3) := by decide +kernel
theorem dX8_waiting_38 : decode cX8_waiting 38 = .ok (.iload_n 1, 1) := by decide +kernel
theorem dX8_waiting_39 : decode cX8_waiting 39 = .ok (.ireturn, 1) := by decide +kernel
set_option maxRecDepth 20000 in
theorem ggX8_told_X8_copiesThat : GoodIn wsX8_told wsX8_copiesThat := goodIn_r _ [8, 1, 9, 10, 11, 7, 12, 39, 40, 41, 42, 43, 44] (by decide +kernel) (by decide +kernel)
set_option maxRecDepth 20000 in
theorem gX8_told_X8_copiesThat : GoodIn wsX8_told (wsV RX8 175 RX8 yX8_copiesThat wsX8_copiesThat) := goodIn_app (goodIn_of _ (by decide +kernel)) ggX8_told_X8_copiesThat
set_option maxRecDepth 20000 in
theorem ggX8_told_X8_waiting : GoodIn wsX8_told wsX8_waiting := goodIn_r _ [16, 1, 17, 18, 19, 7, 20, 39, 40, 41, 42, 43, 44] (by decide +kernel) (by decide +kernel)
set_option maxRecDepth 20000 in
theorem gX8_told_X8_waiting : GoodIn wsX8_told (wsV RX8 178 RX8 yX8_waiting wsX8_waiting) := goodIn_app (goodIn_of _ (by decide +kernel)) ggX8_told_X8_waiting
set_option maxRecDepth 20000 in
theorem ggX8_told_X8_ones : GoodIn wsX8_told wsX8_ones := goodIn_r _ [23] (by decide +kernel) (by decide +kernel)
set_option maxRecDepth 20000 in
theorem gX8_told_X8_ones : GoodIn wsX8_told (va_wsS RX8 100 yX8_ones wsX8_ones) := goodIn_app (goodIn_of _ (by decide +kernel)) ggX8_told_X8_ones
set_option maxRecDepth 20000 in
theorem ggX8_told_X8_overdue : GoodIn wsX8_told wsX8_overdue := goodIn_r _ [27, 1, 28, 29, 30, 7, 31, 9, 10, 11, 12, 39, 40, 41, 42, 43, 44] (by decide +kernel) (by decide +kernel)
set_option maxRecDepth 20000 in
theorem gX8_told_X8_overdue : GoodIn wsX8_told (wsV RX8 182 RX8 yX8_overdue wsX8_overdue) := goodIn_app (goodIn_of _ (by decide +kernel)) ggX8_told_X8_overdue
set_option maxRecDepth 20000 in
theorem ggX8_told_X8_isClosed : GoodIn wsX8_told wsX8_isClosed := goodIn_r _ [35, 1, 36, 37, 7, 38, 39, 40, 41, 42, 43, 44] (by decide +kernel) (by decide +kernel)
set_option maxRecDepth 20000 in
theorem gX8_told_X8_isClosed : GoodIn wsX8_told (wsV RX8 37 RX8 yX8_isClosed wsX8_isClosed) := goodIn_app (goodIn_of _ (by decide +kernel)) ggX8_told_X8_isClosed
theorem dX8_told_0 : decode cX8_told 0 = .ok (.iload_n 1, 1) := by decide +kernel
theorem dX8_told_1 : decode cX8_told 1 = .ok (.tableswitch 146 0 15 #[79, 79, 79, 79, 79, 86, 86, 86, 86, 86, 94, 101, 106, 117, 122, 141], 79) := by decide +kernel
theorem dX8_told_80 : decode cX8_told 80 = .ok (.aload_n 0, 1) := by decide +kernel
theorem dX8_told_81 : decode cX8_told 81 = .ok (.getfield 7, 3) := by decide +kernel
theorem dX8_told_84 : decode cX8_told 84 = .ok (.iload_n 1, 1) := by decide +kernel
theorem dX8_told_85 : decode cX8_told 85 = .ok (.iaload, 1) := by decide +kernel
theorem dX8_told_86 : decode cX8_told 86 = .ok (.ireturn, 1) := by decide +kernel
theorem dX8_told_87 : decode cX8_told 87 = .ok (.aload_n 0, 1) := by decide +kernel
theorem dX8_told_88 : decode cX8_told 88 = .ok (.iload_n 1, 1) := by decide +kernel
theorem dX8_told_89 : decode cX8_told 89 = .ok (.iconst 5, 1) := by decide +kernel
theorem dX8_told_90 : decode cX8_told 90 = .ok (.isub, 1) := by decide +kernel
theorem dX8_told_91 : decode cX8_told 91 = .ok (.invokevirtual 175, 3) := by decide +kernel
theorem dX8_told_94 : decode cX8_told 94 = .ok (.ireturn, 1) := by decide +kernel
theorem dX8_told_95 : decode cX8_told 95 = .ok (.aload_n 0, 1) := by decide +kernel
theorem dX8_told_96 : decode cX8_told 96 = .ok (.getfield 7, 3) := by decide +kernel
theorem dX8_told_99 : decode cX8_told 99 = .ok (.iconst 5, 1) := by decide +kernel
theorem dX8_told_100 : decode cX8_told 100 = .ok (.iaload, 1) := by decide +kernel
theorem dX8_told_101 : decode cX8_told 101 = .ok (.ireturn, 1) := by decide +kernel
theorem dX8_told_102 : decode cX8_told 102 = .ok (.aload_n 0, 1) := by decide +kernel
theorem dX8_told_103 : decode cX8_told 103 = .ok (.invokevirtual 178, 3) := by decide +kernel
theorem dX8_told_106 : decode cX8_told 106 = .ok (.ireturn, 1) := by decide +kernel
theorem dX8_told_107 : decode cX8_told 107 = .ok (.aload_n 0, 1) := by decide +kernel
theorem dX8_told_108 : decode cX8_told 108 = .ok (.getfield 7, 3) := by decide +kernel
theorem dX8_told_111 : decode cX8_told 111 = .ok (.bipush 7, 2) := by decide +kernel
theorem dX8_told_113 : decode cX8_told 113 = .ok (.iaload, 1) := by decide +kernel
theorem dX8_told_114 : decode cX8_told 114 = .ok (.invokestatic 100, 3) := by decide +kernel
theorem dX8_told_117 : decode cX8_told 117 = .ok (.ireturn, 1) := by decide +kernel
theorem dX8_told_118 : decode cX8_told 118 = .ok (.aload_n 0, 1) := by decide +kernel
theorem dX8_told_119 : decode cX8_told 119 = .ok (.invokevirtual 182, 3) := by decide +kernel
theorem dX8_told_122 : decode cX8_told 122 = .ok (.ireturn, 1) := by decide +kernel
theorem dX8_told_123 : decode cX8_told 123 = .ok (.aload_n 0, 1) := by decide +kernel
theorem dX8_told_124 : decode cX8_told 124 = .ok (.aload_n 0, 1) := by decide +kernel
theorem dX8_told_125 : decode cX8_told 125 = .ok (.getfield 7, 3) := by decide +kernel
theorem dX8_told_128 : decode cX8_told 128 = .ok (.iconst 0, 1) := by decide +kernel
theorem dX8_told_129 : decode cX8_told 129 = .ok (.iaload, 1) := by decide +kernel
theorem dX8_told_130 : decode cX8_told 130 = .ok (.invokevirtual 37, 3) := by decide +kernel
theorem dX8_told_133 : decode cX8_told 133 = .ok (.ifCond .eq 7, 3) := by decide +kernel
theorem dX8_told_136 : decode cX8_told 136 = .ok (.iconst 1, 1) := by decide +kernel
theorem dX8_told_137 : decode cX8_told 137 = .ok (.goto 4, 3) := by decide +kernel
theorem dX8_told_140 : decode cX8_told 140 = .ok (.iconst 0, 1) := by decide +kernel
theorem dX8_told_141 : decode cX8_told 141 = .ok (.ireturn, 1) := by decide +kernel
theorem dX8_told_142 : decode cX8_told 142 = .ok (.aload_n 0, 1) := by decide +kernel
theorem dX8_told_143 : decode cX8_told 143 = .ok (.getfield 82, 3) := by decide +kernel
theorem dX8_told_146 : decode cX8_told 146 = .ok (.ireturn, 1) := by decide +kernel
theorem dX8_told_147 : decode cX8_told 147 = .ok (.ldc 131, 2) := by decide +kernel
theorem dX8_told_149 : decode cX8_told 149 = .ok (.ireturn, 1) := by decide +kernel
set_option maxRecDepth 20000 in
theorem ggX8_copyOf_X8_isCopy : GoodIn wsX8_copyOf wsX8_isCopy := goodIn_r _ [7, 8, 9, 10, 6, 11, 20, 21, 22, 23, 24, 25] (by decide +kernel) (by decide +kernel)
set_option maxRecDepth 20000 in
theorem gX8_copyOf_X8_isCopy : GoodIn wsX8_copyOf (wsV RX8 106 RX8 yX8_isCopy wsX8_isCopy) := goodIn_app (goodIn_of _ (by decide +kernel)) ggX8_copyOf_X8_isCopy
theorem dX8_copyOf_0 : decode cX8_copyOf 0 = .ok (.aload_n 0, 1) := by decide +kernel
theorem dX8_copyOf_1 : decode cX8_copyOf 1 = .ok (.iload_n 1, 1) := by decide +kernel
theorem dX8_copyOf_2 : decode cX8_copyOf 2 = .ok (.invokevirtual 106, 3) := by decide +kernel
theorem dX8_copyOf_5 : decode cX8_copyOf 5 = .ok (.ifCond .ne 6, 3) := by decide +kernel
theorem dX8_copyOf_8 : decode cX8_copyOf 8 = .ok (.ldc 92, 2) := by decide +kernel
theorem dX8_copyOf_10 : decode cX8_copyOf 10 = .ok (.ireturn, 1) := by decide +kernel
theorem dX8_copyOf_11 : decode cX8_copyOf 11 = .ok (.aload_n 0, 1) := by decide +kernel
theorem dX8_copyOf_12 : decode cX8_copyOf 12 = .ok (.iload_n 1, 1) := by decide +kernel
theorem dX8_copyOf_13 : decode cX8_copyOf 13 = .ok (.iconst 2, 1) := by decide +kernel
theorem dX8_copyOf_14 : decode cX8_copyOf 14 = .ok (.invokevirtual 51, 3) := by decide +kernel
theorem dX8_copyOf_17 : decode cX8_copyOf 17 = .ok (.ifCond .eq 13, 3) := by decide +kernel
theorem dX8_copyOf_20 : decode cX8_copyOf 20 = .ok (.aload_n 0, 1) := by decide +kernel
theorem dX8_copyOf_21 : decode cX8_copyOf 21 = .ok (.iload_n 1, 1) := by decide +kernel
theorem dX8_copyOf_22 : decode cX8_copyOf 22 = .ok (.iconst 2, 1) := by decide +kernel
theorem dX8_copyOf_23 : decode cX8_copyOf 23 = .ok (.invokevirtual 51, 3) := by decide +kernel
theorem dX8_copyOf_26 : decode cX8_copyOf 26 = .ok (.iconst 4, 1) := by decide +kernel
theorem dX8_copyOf_27 : decode cX8_copyOf 27 = .ok (.if_icmp .ne 7, 3) := by decide +kernel
theorem dX8_copyOf_30 : decode cX8_copyOf 30 = .ok (.iconst 1, 1) := by decide +kernel
theorem dX8_copyOf_31 : decode cX8_copyOf 31 = .ok (.goto 4, 3) := by decide +kernel
theorem dX8_copyOf_34 : decode cX8_copyOf 34 = .ok (.iconst 0, 1) := by decide +kernel
theorem dX8_copyOf_35 : decode cX8_copyOf 35 = .ok (.istore_n 3, 1) := by decide +kernel
theorem dX8_copyOf_36 : decode cX8_copyOf 36 = .ok (.iload_n 2, 1) := by decide +kernel
theorem dX8_copyOf_37 : decode cX8_copyOf 37 = .ok (.tableswitch 67 0 5 #[39, 39, 39, 46, 46, 61], 39) := by decide +kernel
theorem dX8_copyOf_76 : decode cX8_copyOf 76 = .ok (.aload_n 0, 1) := by decide +kernel
theorem dX8_copyOf_77 : decode cX8_copyOf 77 = .ok (.iload_n 1, 1) := by decide +kernel
theorem dX8_copyOf_78 : decode cX8_copyOf 78 = .ok (.iload_n 2, 1) := by decide +kernel
theorem dX8_copyOf_79 : decode cX8_copyOf 79 = .ok (.invokevirtual 51, 3) := by decide +kernel
theorem dX8_copyOf_82 : decode cX8_copyOf 82 = .ok (.ireturn, 1) := by decide +kernel
theorem dX8_copyOf_83 : decode cX8_copyOf 83 = .ok (.iload_n 3, 1) := by decide +kernel
theorem dX8_copyOf_84 : decode cX8_copyOf 84 = .ok (.ifCond .eq 7, 3) := by decide +kernel
theorem dX8_copyOf_87 : decode cX8_copyOf 87 = .ok (.iconst (-1), 1) := by decide +kernel
theorem dX8_copyOf_88 : decode cX8_copyOf 88 = .ok (.goto 9, 3) := by decide +kernel
theorem dX8_copyOf_91 : decode cX8_copyOf 91 = .ok (.aload_n 0, 1) := by decide +kernel
theorem dX8_copyOf_92 : decode cX8_copyOf 92 = .ok (.iload_n 1, 1) := by decide +kernel
theorem dX8_copyOf_93 : decode cX8_copyOf 93 = .ok (.iload_n 2, 1) := by decide +kernel
theorem dX8_copyOf_94 : decode cX8_copyOf 94 = .ok (.invokevirtual 51, 3) := by decide +kernel
theorem dX8_copyOf_97 : decode cX8_copyOf 97 = .ok (.ireturn, 1) := by decide +kernel
theorem dX8_copyOf_98 : decode cX8_copyOf 98 = .ok (.aload_n 0, 1) := by decide +kernel
theorem dX8_copyOf_99 : decode cX8_copyOf 99 = .ok (.iload_n 1, 1) := by decide +kernel
theorem dX8_copyOf_100 : decode cX8_copyOf 100 = .ok (.invokevirtual 122, 3) := by decide +kernel
theorem dX8_copyOf_103 : decode cX8_copyOf 103 = .ok (.ireturn, 1) := by decide +kernel
theorem dX8_copyOf_104 : decode cX8_copyOf 104 = .ok (.ldc 131, 2) := by decide +kernel
theorem dX8_copyOf_106 : decode cX8_copyOf 106 = .ok (.ireturn, 1) := by decide +kernel
set_option maxRecDepth 20000 in
theorem ggX8_holdOf_X8_findHold : GoodIn wsX8_holdOf wsX8_findHold := goodIn_r _ [7, 8, 9, 10, 11, 6, 12, 42, 43, 44, 45, 46, 47] (by decide +kernel) (by decide +kernel)
set_option maxRecDepth 20000 in
theorem gX8_holdOf_X8_findHold : GoodIn wsX8_holdOf (wsV RX8 72 RX8 yX8_findHold wsX8_findHold) := goodIn_app (goodIn_of _ (by decide +kernel)) ggX8_holdOf_X8_findHold
set_option maxRecDepth 20000 in
theorem ggX8_holdOf_X8_holdAt : GoodIn wsX8_holdOf wsX8_holdAt := goodIn_r _ [12, 8, 42, 43, 44, 45, 46, 47] (by decide +kernel) (by decide +kernel)
set_option maxRecDepth 20000 in
theorem gX8_holdOf_X8_holdAt : GoodIn wsX8_holdOf (wsV RX8 41 RX8 yX8_holdAt wsX8_holdAt) := goodIn_app (goodIn_of _ (by decide +kernel)) ggX8_holdOf_X8_holdAt
theorem dX8_holdOf_0 : decode cX8_holdOf 0 = .ok (.aload_n 0, 1) := by decide +kernel
theorem dX8_holdOf_1 : decode cX8_holdOf 1 = .ok (.iload_n 1, 1) := by decide +kernel
theorem dX8_holdOf_2 : decode cX8_holdOf 2 = .ok (.invokevirtual 72, 3) := by decide +kernel
theorem dX8_holdOf_5 : decode cX8_holdOf 5 = .ok (.istore_n 3, 1) := by decide +kernel
theorem dX8_holdOf_6 : decode cX8_holdOf 6 = .ok (.iload_n 3, 1) := by decide +kernel
theorem dX8_holdOf_7 : decode cX8_holdOf 7 = .ok (.ifCond .ge 6, 3) := by decide +kernel
theorem dX8_holdOf_10 : decode cX8_holdOf 10 = .ok (.ldc 92, 2) := by decide +kernel
theorem dX8_holdOf_12 : decode cX8_holdOf 12 = .ok (.ireturn, 1) := by decide +kernel
theorem dX8_holdOf_13 : decode cX8_holdOf 13 = .ok (.iload_n 2, 1) := by decide +kernel
theorem dX8_holdOf_14 : decode cX8_holdOf 14 = .ok (.tableswitch 77 0 8 #[50, 50, 50, 50, 50, 50, 59, 65, 71], 50) := by decide +kernel
theorem dX8_holdOf_64 : decode cX8_holdOf 64 = .ok (.aload_n 0, 1) := by decide +kernel
theorem dX8_holdOf_65 : decode cX8_holdOf 65 = .ok (.iload_n 3, 1) := by decide +kernel
theorem dX8_holdOf_66 : decode cX8_holdOf 66 = .ok (.iload_n 2, 1) := by decide +kernel
theorem dX8_holdOf_67 : decode cX8_holdOf 67 = .ok (.iconst 1, 1) := by decide +kernel
theorem dX8_holdOf_68 : decode cX8_holdOf 68 = .ok (.iadd, 1) := by decide +kernel
theorem dX8_holdOf_69 : decode cX8_holdOf 69 = .ok (.invokevirtual 41, 3) := by decide +kernel
theorem dX8_holdOf_72 : decode cX8_holdOf 72 = .ok (.ireturn, 1) := by decide +kernel
theorem dX8_holdOf_73 : decode cX8_holdOf 73 = .ok (.aload_n 0, 1) := by decide +kernel
theorem dX8_holdOf_74 : decode cX8_holdOf 74 = .ok (.iload_n 3, 1) := by decide +kernel
theorem dX8_holdOf_75 : decode cX8_holdOf 75 = .ok (.invokevirtual 139, 3) := by decide +kernel
theorem dX8_holdOf_78 : decode cX8_holdOf 78 = .ok (.ireturn, 1) := by decide +kernel
theorem dX8_holdOf_79 : decode cX8_holdOf 79 = .ok (.aload_n 0, 1) := by decide +kernel
theorem dX8_holdOf_80 : decode cX8_holdOf 80 = .ok (.iload_n 3, 1) := by decide +kernel
theorem dX8_holdOf_81 : decode cX8_holdOf 81 = .ok (.invokevirtual 185, 3) := by decide +kernel
theorem dX8_holdOf_84 : decode cX8_holdOf 84 = .ok (.ireturn, 1) := by decide +kernel
theorem dX8_holdOf_85 : decode cX8_holdOf 85 = .ok (.aload_n 0, 1) := by decide +kernel
theorem dX8_holdOf_86 : decode cX8_holdOf 86 = .ok (.iload_n 3, 1) := by decide +kernel
theorem dX8_holdOf_87 : decode cX8_holdOf 87 = .ok (.invokevirtual 192, 3) := by decide +kernel
theorem dX8_holdOf_90 : decode cX8_holdOf 90 = .ok (.ireturn, 1) := by decide +kernel
theorem dX8_holdOf_91 : decode cX8_holdOf 91 = .ok (.ldc 131, 2) := by decide +kernel
theorem dX8_holdOf_93 : decode cX8_holdOf 93 = .ok (.ireturn, 1) := by decide +kernel
theorem dX8_copiesOf_0 : decode cX8_copiesOf 0 = .ok (.iconst 0, 1) := by decide +kernel
theorem dX8_copiesOf_1 : decode cX8_copiesOf 1 = .ok (.istore_n 3, 1) := by decide +kernel
theorem dX8_copiesOf_2 : decode cX8_copiesOf 2 = .ok (.iconst 0, 1) := by decide +kernel
theorem dX8_copiesOf_3 : decode cX8_copiesOf 3 = .ok (.istore 4, 2) := by decide +kernel
theorem dX8_copiesOf_5 : decode cX8_copiesOf 5 = .ok (.iload 4, 2) := by decide +kernel
theorem dX8_copiesOf_7 : decode cX8_copiesOf 7 = .ok (.aload_n 0, 1) := by decide +kernel
theorem dX8_copiesOf_8 : decode cX8_copiesOf 8 = .ok (.getfield 7, 3) := by decide +kernel
theorem dX8_copiesOf_11 : decode cX8_copiesOf 11 = .ok (.iconst 4, 1) := by decide +kernel
theorem dX8_copiesOf_12 : decode cX8_copiesOf 12 = .ok (.iaload, 1) := by decide +kernel
theorem dX8_copiesOf_13 : decode cX8_copiesOf 13 = .ok (.if_icmp .ge 45, 3) := by decide +kernel
theorem dX8_copiesOf_16 : decode cX8_copiesOf 16 = .ok (.iload_n 3, 1) := by decide +kernel
theorem dX8_copiesOf_17 : decode cX8_copiesOf 17 = .ok (.aload_n 0, 1) := by decide +kernel
theorem dX8_copiesOf_18 : decode cX8_copiesOf 18 = .ok (.iload 4, 2) := by decide +kernel
theorem dX8_copiesOf_20 : decode cX8_copiesOf 20 = .ok (.iconst 0, 1) := by decide +kernel
theorem dX8_copiesOf_21 : decode cX8_copiesOf 21 = .ok (.invokevirtual 51, 3) := by decide +kernel
theorem dX8_copiesOf_24 : decode cX8_copiesOf 24 = .ok (.iload_n 1, 1) := by decide +kernel
theorem dX8_copiesOf_25 : decode cX8_copiesOf 25 = .ok (.if_icmp .ne 24, 3) := by decide +kernel
theorem dX8_copiesOf_28 : decode cX8_copiesOf 28 = .ok (.iload_n 2, 1) := by decide +kernel
theorem dX8_copiesOf_29 : decode cX8_copiesOf 29 = .ok (.ifCond .eq 13, 3) := by decide +kernel
theorem dX8_copiesOf_32 : decode cX8_copiesOf 32 = .ok (.aload_n 0, 1) := by decide +kernel
theorem dX8_copiesOf_33 : decode cX8_copiesOf 33 = .ok (.iload 4, 2) := by decide +kernel
theorem dX8_copiesOf_35 : decode cX8_copiesOf 35 = .ok (.iconst 2, 1) := by decide +kernel
theorem dX8_copiesOf_36 : decode cX8_copiesOf 36 = .ok (.invokevirtual 51, 3) := by decide +kernel
theorem dX8_copiesOf_39 : decode cX8_copiesOf 39 = .ok (.ifCond .ne 10, 3) := by decide +kernel
theorem dX8_copiesOf_42 : decode cX8_copiesOf 42 = .ok (.iconst 1, 1) := by decide +kernel
theorem dX8_copiesOf_43 : decode cX8_copiesOf 43 = .ok (.iload 4, 2) := by decide +kernel
theorem dX8_copiesOf_45 : decode cX8_copiesOf 45 = .ok (.ishl, 1) := by decide +kernel
theorem dX8_copiesOf_46 : decode cX8_copiesOf 46 = .ok (.goto 4, 3) := by decide +kernel
theorem dX8_copiesOf_49 : decode cX8_copiesOf 49 = .ok (.iconst 0, 1) := by decide +kernel
theorem dX8_copiesOf_50 : decode cX8_copiesOf 50 = .ok (.ior, 1) := by decide +kernel
theorem dX8_copiesOf_51 : decode cX8_copiesOf 51 = .ok (.istore_n 3, 1) := by decide +kernel
theorem dX8_copiesOf_52 : decode cX8_copiesOf 52 = .ok (.iinc 4 1, 3) := by decide +kernel
theorem dX8_copiesOf_55 : decode cX8_copiesOf 55 = .ok (.goto (-50), 3) := by decide +kernel
theorem dX8_copiesOf_58 : decode cX8_copiesOf 58 = .ok (.iload_n 3, 1) := by decide +kernel
theorem dX8_copiesOf_59 : decode cX8_copiesOf 59 = .ok (.ireturn, 1) := by decide +kernel
set_option maxRecDepth 20000 in
theorem ggX8_longestOf_X8_waitsFor : GoodIn wsX8_longestOf wsX8_waitsFor := goodIn_r _ [6, 7, 8, 9, 5, 10, 1, 11, 12, 13, 14, 15, 16] (by decide +kernel) (by decide +kernel)
set_option maxRecDepth 20000 in
theorem gX8_longestOf_X8_waitsFor : GoodIn wsX8_longestOf (wsV RX8 45 RX8 yX8_waitsFor wsX8_waitsFor) := goodIn_app (goodIn_of _ (by decide +kernel)) ggX8_longestOf_X8_waitsFor
set_option maxRecDepth 20000 in
theorem ggX8_longestOf_X8_holdAt : GoodIn wsX8_longestOf wsX8_holdAt := goodIn_r _ [10, 1, 11, 12, 13, 14, 15, 16] (by decide +kernel) (by decide +kernel)
set_option maxRecDepth 20000 in
theorem gX8_longestOf_X8_holdAt : GoodIn wsX8_longestOf (wsV RX8 41 RX8 yX8_holdAt wsX8_holdAt) := goodIn_app (goodIn_of _ (by decide +kernel)) ggX8_longestOf_X8_holdAt
theorem dX8_longestOf_0 : decode cX8_longestOf 0 = .ok (.iconst 0, 1) := by decide +kernel
theorem dX8_longestOf_1 : decode cX8_longestOf 1 = .ok (.istore_n 2, 1) := by decide +kernel
theorem dX8_longestOf_2 : decode cX8_longestOf 2 = .ok (.iconst 0, 1) := by decide +kernel
theorem dX8_longestOf_3 : decode cX8_longestOf 3 = .ok (.istore_n 3, 1) := by decide +kernel
theorem dX8_longestOf_4 : decode cX8_longestOf 4 = .ok (.iload_n 3, 1) := by decide +kernel
theorem dX8_longestOf_5 : decode cX8_longestOf 5 = .ok (.aload_n 0, 1) := by decide +kernel
theorem dX8_longestOf_6 : decode cX8_longestOf 6 = .ok (.getfield 7, 3) := by decide +kernel
theorem dX8_longestOf_9 : decode cX8_longestOf 9 = .ok (.iconst 5, 1) := by decide +kernel
theorem dX8_longestOf_10 : decode cX8_longestOf 10 = .ok (.iaload, 1) := by decide +kernel
theorem dX8_longestOf_11 : decode cX8_longestOf 11 = .ok (.if_icmp .ge 50, 3) := by decide +kernel
theorem dX8_longestOf_14 : decode cX8_longestOf 14 = .ok (.aload_n 0, 1) := by decide +kernel
theorem dX8_longestOf_15 : decode cX8_longestOf 15 = .ok (.iload_n 3, 1) := by decide +kernel
theorem dX8_longestOf_16 : decode cX8_longestOf 16 = .ok (.iload_n 1, 1) := by decide +kernel
theorem dX8_longestOf_17 : decode cX8_longestOf 17 = .ok (.invokevirtual 45, 3) := by decide +kernel
theorem dX8_longestOf_20 : decode cX8_longestOf 20 = .ok (.ifCond .eq 19, 3) := by decide +kernel
theorem dX8_longestOf_23 : decode cX8_longestOf 23 = .ok (.aload_n 0, 1) := by decide +kernel
theorem dX8_longestOf_24 : decode cX8_longestOf 24 = .ok (.getfield 7, 3) := by decide +kernel
theorem dX8_longestOf_27 : decode cX8_longestOf 27 = .ok (.iconst 0, 1) := by decide +kernel
theorem dX8_longestOf_28 : decode cX8_longestOf 28 = .ok (.iaload, 1) := by decide +kernel
theorem dX8_longestOf_29 : decode cX8_longestOf 29 = .ok (.aload_n 0, 1) := by decide +kernel
theorem dX8_longestOf_30 : decode cX8_longestOf 30 = .ok (.iload_n 3, 1) := by decide +kernel
theorem dX8_longestOf_31 : decode cX8_longestOf 31 = .ok (.iconst 5, 1) := by decide +kernel
theorem dX8_longestOf_32 : decode cX8_longestOf 32 = .ok (.invokevirtual 41, 3) := by decide +kernel
theorem dX8_longestOf_35 : decode cX8_longestOf 35 = .ok (.isub, 1) := by decide +kernel
theorem dX8_longestOf_36 : decode cX8_longestOf 36 = .ok (.goto 4, 3) := by decide +kernel
theorem dX8_longestOf_39 : decode cX8_longestOf 39 = .ok (.iconst 0, 1) := by decide +kernel
theorem dX8_longestOf_40 : decode cX8_longestOf 40 = .ok (.istore 4, 2) := by decide +kernel
theorem dX8_longestOf_42 : decode cX8_longestOf 42 = .ok (.iload 4, 2) := by decide +kernel
theorem dX8_longestOf_44 : decode cX8_longestOf 44 = .ok (.iload_n 2, 1) := by decide +kernel
theorem dX8_longestOf_45 : decode cX8_longestOf 45 = .ok (.if_icmp .le 8, 3) := by decide +kernel
theorem dX8_longestOf_48 : decode cX8_longestOf 48 = .ok (.iload 4, 2) := by decide +kernel
theorem dX8_longestOf_50 : decode cX8_longestOf 50 = .ok (.goto 4, 3) := by decide +kernel
theorem dX8_longestOf_53 : decode cX8_longestOf 53 = .ok (.iload_n 2, 1) := by decide +kernel
theorem dX8_longestOf_54 : decode cX8_longestOf 54 = .ok (.istore_n 2, 1) := by decide +kernel
theorem dX8_longestOf_55 : decode cX8_longestOf 55 = .ok (.iinc 3 1, 3) := by decide +kernel
theorem dX8_longestOf_58 : decode cX8_longestOf 58 = .ok (.goto (-54), 3) := by decide +kernel
theorem dX8_longestOf_61 : decode cX8_longestOf 61 = .ok (.iload_n 2, 1) := by decide +kernel
theorem dX8_longestOf_62 : decode cX8_longestOf 62 = .ok (.ireturn, 1) := by decide +kernel
set_option maxRecDepth 20000 in
theorem ggX8_titleOf_X8_isTitle : GoodIn wsX8_titleOf wsX8_isTitle := goodIn_r _ [6, 7, 8, 9, 5, 10] (by decide +kernel) (by decide +kernel)
set_option maxRecDepth 20000 in
theorem gX8_titleOf_X8_isTitle : GoodIn wsX8_titleOf (va_wsS RX8 86 yX8_isTitle wsX8_isTitle) := goodIn_app (goodIn_of _ (by decide +kernel)) ggX8_titleOf_X8_isTitle
set_option maxRecDepth 20000 in
theorem ggX8_titleOf_X8_firstOf : GoodIn wsX8_titleOf wsX8_firstOf := goodIn_r _ [14, 15, 16, 17, 18, 5, 19, 20, 21, 22, 23, 24, 25, 26, 27, 44, 45, 46, 47, 48, 49] (by decide +kernel) (by decide +kernel)
set_option maxRecDepth 20000 in
theorem gX8_titleOf_X8_firstOf : GoodIn wsX8_titleOf (wsV RX8 61 RX8 yX8_firstOf wsX8_firstOf) := goodIn_app (goodIn_of _ (by decide +kernel)) ggX8_titleOf_X8_firstOf
set_option maxRecDepth 20000 in
theorem ggX8_titleOf_X8_copiesOf : GoodIn wsX8_titleOf wsX8_copiesOf := goodIn_r _ [31, 15, 32, 33, 34, 5, 35, 44, 45, 46, 47, 48, 49] (by decide +kernel) (by decide +kernel)
set_option maxRecDepth 20000 in
theorem gX8_titleOf_X8_copiesOf : GoodIn wsX8_titleOf (wsV RX8 195 RX8 yX8_copiesOf wsX8_copiesOf) := goodIn_app (goodIn_of _ (by decide +kernel)) ggX8_titleOf_X8_copiesOf
set_option maxRecDepth 20000 in
theorem ggX8_titleOf_X8_rowOf : GoodIn wsX8_titleOf wsX8_rowOf := goodIn_r _ [39, 15, 16, 17, 18, 5, 19, 20, 21, 22, 23, 44, 45, 46, 47, 48, 49] (by decide +kernel) (by decide +kernel)
set_option maxRecDepth 20000 in
theorem gX8_titleOf_X8_rowOf : GoodIn wsX8_titleOf (wsV RX8 128 RX8 yX8_rowOf wsX8_rowOf) := goodIn_app (goodIn_of _ (by decide +kernel)) ggX8_titleOf_X8_rowOf
set_option maxRecDepth 20000 in
theorem ggX8_titleOf_X8_holdAt : GoodIn wsX8_titleOf wsX8_holdAt := goodIn_r _ [23, 15, 44, 45, 46, 47, 48, 49] (by decide +kernel) (by decide +kernel)
set_option maxRecDepth 20000 in
theorem gX8_titleOf_X8_holdAt : GoodIn wsX8_titleOf (wsV RX8 41 RX8 yX8_holdAt wsX8_holdAt) := goodIn_app (goodIn_of _ (by decide +kernel)) ggX8_titleOf_X8_holdAt
set_option maxRecDepth 20000 in
theorem ggX8_titleOf_X8_longestOf : GoodIn wsX8_titleOf wsX8_longestOf := goodIn_r _ [43, 15, 16, 17, 18, 5, 19, 20, 21, 22, 23, 44, 45, 46, 47, 48, 49] (by decide +kernel) (by decide +kernel)
set_option maxRecDepth 20000 in
theorem gX8_titleOf_X8_longestOf : GoodIn wsX8_titleOf (wsV RX8 199 RX8 yX8_longestOf wsX8_longestOf) := goodIn_app (goodIn_of _ (by decide +kernel)) ggX8_titleOf_X8_longestOf
theorem dX8_titleOf_0 : decode cX8_titleOf 0 = .ok (.iload_n 1, 1) := by decide +kernel
theorem dX8_titleOf_1 : decode cX8_titleOf 1 = .ok (.invokestatic 86, 3) := by decide +kernel
theorem dX8_titleOf_4 : decode cX8_titleOf 4 = .ok (.ifCond .ne 6, 3) := by decide +kernel
theorem dX8_titleOf_7 : decode cX8_titleOf 7 = .ok (.ldc 92, 2) := by decide +kernel
theorem dX8_titleOf_9 : decode cX8_titleOf 9 = .ok (.ireturn, 1) := by decide +kernel
theorem dX8_titleOf_10 : decode cX8_titleOf 10 = .ok (.aload_n 0, 1) := by decide +kernel
theorem dX8_titleOf_11 : decode cX8_titleOf 11 = .ok (.iload_n 1, 1) := by decide +kernel
theorem dX8_titleOf_12 : decode cX8_titleOf 12 = .ok (.invokevirtual 61, 3) := by decide +kernel
theorem dX8_titleOf_15 : decode cX8_titleOf 15 = .ok (.istore_n 3, 1) := by decide +kernel
theorem dX8_titleOf_16 : decode cX8_titleOf 16 = .ok (.iload_n 2, 1) := by decide +kernel
theorem dX8_titleOf_17 : decode cX8_titleOf 17 = .ok (.tableswitch 78 0 4 #[35, 35, 51, 57, 72], 35) := by decide +kernel
theorem dX8_titleOf_52 : decode cX8_titleOf 52 = .ok (.aload_n 0, 1) := by decide +kernel
theorem dX8_titleOf_53 : decode cX8_titleOf 53 = .ok (.iload_n 1, 1) := by decide +kernel
theorem dX8_titleOf_54 : decode cX8_titleOf 54 = .ok (.iload_n 2, 1) := by decide +kernel
theorem dX8_titleOf_55 : decode cX8_titleOf 55 = .ok (.iconst 1, 1) := by decide +kernel
theorem dX8_titleOf_56 : decode cX8_titleOf 56 = .ok (.if_icmp .ne 7, 3) := by decide +kernel
theorem dX8_titleOf_59 : decode cX8_titleOf 59 = .ok (.iconst 1, 1) := by decide +kernel
theorem dX8_titleOf_60 : decode cX8_titleOf 60 = .ok (.goto 4, 3) := by decide +kernel
theorem dX8_titleOf_63 : decode cX8_titleOf 63 = .ok (.iconst 0, 1) := by decide +kernel
theorem dX8_titleOf_64 : decode cX8_titleOf 64 = .ok (.invokevirtual 195, 3) := by decide +kernel
theorem dX8_titleOf_67 : decode cX8_titleOf 67 = .ok (.ireturn, 1) := by decide +kernel
theorem dX8_titleOf_68 : decode cX8_titleOf 68 = .ok (.aload_n 0, 1) := by decide +kernel
theorem dX8_titleOf_69 : decode cX8_titleOf 69 = .ok (.iload_n 1, 1) := by decide +kernel
theorem dX8_titleOf_70 : decode cX8_titleOf 70 = .ok (.invokevirtual 128, 3) := by decide +kernel
theorem dX8_titleOf_73 : decode cX8_titleOf 73 = .ok (.ireturn, 1) := by decide +kernel
theorem dX8_titleOf_74 : decode cX8_titleOf 74 = .ok (.iload_n 3, 1) := by decide +kernel
theorem dX8_titleOf_75 : decode cX8_titleOf 75 = .ok (.ifCond .ge 7, 3) := by decide +kernel
theorem dX8_titleOf_78 : decode cX8_titleOf 78 = .ok (.iconst (-1), 1) := by decide +kernel
theorem dX8_titleOf_79 : decode cX8_titleOf 79 = .ok (.goto 9, 3) := by decide +kernel
theorem dX8_titleOf_82 : decode cX8_titleOf 82 = .ok (.aload_n 0, 1) := by decide +kernel
theorem dX8_titleOf_83 : decode cX8_titleOf 83 = .ok (.iload_n 3, 1) := by decide +kernel
theorem dX8_titleOf_84 : decode cX8_titleOf 84 = .ok (.iconst 0, 1) := by decide +kernel
theorem dX8_titleOf_85 : decode cX8_titleOf 85 = .ok (.invokevirtual 41, 3) := by decide +kernel
theorem dX8_titleOf_88 : decode cX8_titleOf 88 = .ok (.ireturn, 1) := by decide +kernel
theorem dX8_titleOf_89 : decode cX8_titleOf 89 = .ok (.aload_n 0, 1) := by decide +kernel
theorem dX8_titleOf_90 : decode cX8_titleOf 90 = .ok (.iload_n 1, 1) := by decide +kernel
theorem dX8_titleOf_91 : decode cX8_titleOf 91 = .ok (.invokevirtual 199, 3) := by decide +kernel
theorem dX8_titleOf_94 : decode cX8_titleOf 94 = .ok (.ireturn, 1) := by decide +kernel
theorem dX8_titleOf_95 : decode cX8_titleOf 95 = .ok (.ldc 131, 2) := by decide +kernel
theorem dX8_titleOf_97 : decode cX8_titleOf 97 = .ok (.ireturn, 1) := by decide +kernel
set_option maxRecDepth 20000 in
theorem ggX8_owedBy_X8_outsOf : GoodIn wsX8_owedBy wsX8_outsOf := goodIn_r _ [6, 1, 7, 8, 9, 5, 10, 14, 15, 16, 17, 18, 19] (by decide +kernel) (by decide +kernel)
set_option maxRecDepth 20000 in
theorem gX8_owedBy_X8_outsOf : GoodIn wsX8_owedBy (wsV RX8 97 RX8 yX8_outsOf wsX8_outsOf) := goodIn_app (goodIn_of _ (by decide +kernel)) ggX8_owedBy_X8_outsOf
set_option maxRecDepth 20000 in
theorem ggX8_owedBy_X8_has : GoodIn wsX8_owedBy wsX8_has := goodIn_r _ [13] (by decide +kernel) (by decide +kernel)
set_option maxRecDepth 20000 in
theorem gX8_owedBy_X8_has : GoodIn wsX8_owedBy (va_wsS RX8 33 yX8_has wsX8_has) := goodIn_app (goodIn_of _ (by decide +kernel)) ggX8_owedBy_X8_has
theorem dX8_owedBy_0 : decode cX8_owedBy 0 = .ok (.iconst 0, 1) := by decide +kernel
theorem dX8_owedBy_1 : decode cX8_owedBy 1 = .ok (.istore_n 2, 1) := by decide +kernel
theorem dX8_owedBy_2 : decode cX8_owedBy 2 = .ok (.iconst 0, 1) := by decide +kernel
theorem dX8_owedBy_3 : decode cX8_owedBy 3 = .ok (.istore_n 3, 1) := by decide +kernel
theorem dX8_owedBy_4 : decode cX8_owedBy 4 = .ok (.iload_n 3, 1) := by decide +kernel
theorem dX8_owedBy_5 : decode cX8_owedBy 5 = .ok (.aload_n 0, 1) := by decide +kernel
theorem dX8_owedBy_6 : decode cX8_owedBy 6 = .ok (.getfield 7, 3) := by decide +kernel
theorem dX8_owedBy_9 : decode cX8_owedBy 9 = .ok (.iconst 4, 1) := by decide +kernel
theorem dX8_owedBy_10 : decode cX8_owedBy 10 = .ok (.iaload, 1) := by decide +kernel
theorem dX8_owedBy_11 : decode cX8_owedBy 11 = .ok (.if_icmp .ge 56, 3) := by decide +kernel
theorem dX8_owedBy_14 : decode cX8_owedBy 14 = .ok (.aload_n 0, 1) := by decide +kernel
theorem dX8_owedBy_15 : decode cX8_owedBy 15 = .ok (.iload_n 1, 1) := by decide +kernel
theorem dX8_owedBy_16 : decode cX8_owedBy 16 = .ok (.invokevirtual 97, 3) := by decide +kernel
theorem dX8_owedBy_19 : decode cX8_owedBy 19 = .ok (.iload_n 3, 1) := by decide +kernel
theorem dX8_owedBy_20 : decode cX8_owedBy 20 = .ok (.invokestatic 33, 3) := by decide +kernel
theorem dX8_owedBy_23 : decode cX8_owedBy 23 = .ok (.ifCond .eq 19, 3) := by decide +kernel
theorem dX8_owedBy_26 : decode cX8_owedBy 26 = .ok (.aload_n 0, 1) := by decide +kernel
theorem dX8_owedBy_27 : decode cX8_owedBy 27 = .ok (.getfield 7, 3) := by decide +kernel
theorem dX8_owedBy_30 : decode cX8_owedBy 30 = .ok (.iconst 0, 1) := by decide +kernel
theorem dX8_owedBy_31 : decode cX8_owedBy 31 = .ok (.iaload, 1) := by decide +kernel
theorem dX8_owedBy_32 : decode cX8_owedBy 32 = .ok (.aload_n 0, 1) := by decide +kernel
theorem dX8_owedBy_33 : decode cX8_owedBy 33 = .ok (.iload_n 3, 1) := by decide +kernel
theorem dX8_owedBy_34 : decode cX8_owedBy 34 = .ok (.iconst 4, 1) := by decide +kernel
theorem dX8_owedBy_35 : decode cX8_owedBy 35 = .ok (.invokevirtual 51, 3) := by decide +kernel
theorem dX8_owedBy_38 : decode cX8_owedBy 38 = .ok (.isub, 1) := by decide +kernel
theorem dX8_owedBy_39 : decode cX8_owedBy 39 = .ok (.goto 4, 3) := by decide +kernel
theorem dX8_owedBy_42 : decode cX8_owedBy 42 = .ok (.iconst 0, 1) := by decide +kernel
theorem dX8_owedBy_43 : decode cX8_owedBy 43 = .ok (.istore 4, 2) := by decide +kernel
theorem dX8_owedBy_45 : decode cX8_owedBy 45 = .ok (.iload_n 2, 1) := by decide +kernel
theorem dX8_owedBy_46 : decode cX8_owedBy 46 = .ok (.iload 4, 2) := by decide +kernel
theorem dX8_owedBy_48 : decode cX8_owedBy 48 = .ok (.ifCond .le 10, 3) := by decide +kernel
theorem dX8_owedBy_51 : decode cX8_owedBy 51 = .ok (.iconst 5, 1) := by decide +kernel
theorem dX8_owedBy_52 : decode cX8_owedBy 52 = .ok (.iload 4, 2) := by decide +kernel
theorem dX8_owedBy_54 : decode cX8_owedBy 54 = .ok (.imul, 1) := by decide +kernel
theorem dX8_owedBy_55 : decode cX8_owedBy 55 = .ok (.goto 4, 3) := by decide +kernel
theorem dX8_owedBy_58 : decode cX8_owedBy 58 = .ok (.iconst 0, 1) := by decide +kernel
theorem dX8_owedBy_59 : decode cX8_owedBy 59 = .ok (.iadd, 1) := by decide +kernel
theorem dX8_owedBy_60 : decode cX8_owedBy 60 = .ok (.istore_n 2, 1) := by decide +kernel
theorem dX8_owedBy_61 : decode cX8_owedBy 61 = .ok (.iinc 3 1, 3) := by decide +kernel
theorem dX8_owedBy_64 : decode cX8_owedBy 64 = .ok (.goto (-60), 3) := by decide +kernel
theorem dX8_owedBy_67 : decode cX8_owedBy 67 = .ok (.iload_n 2, 1) := by decide +kernel
theorem dX8_owedBy_68 : decode cX8_owedBy 68 = .ok (.ireturn, 1) := by decide +kernel
set_option maxRecDepth 20000 in
theorem ggX8_greatestStep_X8_outsOf : GoodIn wsX8_greatestStep wsX8_outsOf := goodIn_r _ [6, 1, 7, 8, 9, 5, 10, 18, 19, 20, 21, 22, 23] (by decide +kernel) (by decide +kernel)
set_option maxRecDepth 20000 in
theorem gX8_greatestStep_X8_outsOf : GoodIn wsX8_greatestStep (wsV RX8 97 RX8 yX8_outsOf wsX8_outsOf) := goodIn_app (goodIn_of _ (by decide +kernel)) ggX8_greatestStep_X8_outsOf
set_option maxRecDepth 20000 in
theorem ggX8_greatestStep_X8_has : GoodIn wsX8_greatestStep wsX8_has := goodIn_r _ [13] (by decide +kernel) (by decide +kernel)
set_option maxRecDepth 20000 in
theorem gX8_greatestStep_X8_has : GoodIn wsX8_greatestStep (va_wsS RX8 33 yX8_has wsX8_has) := goodIn_app (goodIn_of _ (by decide +kernel)) ggX8_greatestStep_X8_has
theorem dX8_greatestStep_0 : decode cX8_greatestStep 0 = .ok (.iconst 0, 1) := by decide +kernel
theorem dX8_greatestStep_1 : decode cX8_greatestStep 1 = .ok (.istore_n 2, 1) := by decide +kernel
theorem dX8_greatestStep_2 : decode cX8_greatestStep 2 = .ok (.iconst 0, 1) := by decide +kernel
theorem dX8_greatestStep_3 : decode cX8_greatestStep 3 = .ok (.istore_n 3, 1) := by decide +kernel
theorem dX8_greatestStep_4 : decode cX8_greatestStep 4 = .ok (.iload_n 3, 1) := by decide +kernel
theorem dX8_greatestStep_5 : decode cX8_greatestStep 5 = .ok (.aload_n 0, 1) := by decide +kernel
theorem dX8_greatestStep_6 : decode cX8_greatestStep 6 = .ok (.getfield 7, 3) := by decide +kernel
theorem dX8_greatestStep_9 : decode cX8_greatestStep 9 = .ok (.iconst 4, 1) := by decide +kernel
theorem dX8_greatestStep_10 : decode cX8_greatestStep 10 = .ok (.iaload, 1) := by decide +kernel
theorem dX8_greatestStep_11 : decode cX8_greatestStep 11 = .ok (.if_icmp .ge 45, 3) := by decide +kernel
theorem dX8_greatestStep_14 : decode cX8_greatestStep 14 = .ok (.aload_n 0, 1) := by decide +kernel
theorem dX8_greatestStep_15 : decode cX8_greatestStep 15 = .ok (.iload_n 1, 1) := by decide +kernel
theorem dX8_greatestStep_16 : decode cX8_greatestStep 16 = .ok (.invokevirtual 97, 3) := by decide +kernel
theorem dX8_greatestStep_19 : decode cX8_greatestStep 19 = .ok (.iload_n 3, 1) := by decide +kernel
theorem dX8_greatestStep_20 : decode cX8_greatestStep 20 = .ok (.invokestatic 33, 3) := by decide +kernel
theorem dX8_greatestStep_23 : decode cX8_greatestStep 23 = .ok (.ifCond .eq 11, 3) := by decide +kernel
theorem dX8_greatestStep_26 : decode cX8_greatestStep 26 = .ok (.aload_n 0, 1) := by decide +kernel
theorem dX8_greatestStep_27 : decode cX8_greatestStep 27 = .ok (.iload_n 3, 1) := by decide +kernel
theorem dX8_greatestStep_28 : decode cX8_greatestStep 28 = .ok (.invokevirtual 122, 3) := by decide +kernel
theorem dX8_greatestStep_31 : decode cX8_greatestStep 31 = .ok (.goto 4, 3) := by decide +kernel
theorem dX8_greatestStep_34 : decode cX8_greatestStep 34 = .ok (.iconst 0, 1) := by decide +kernel
theorem dX8_greatestStep_35 : decode cX8_greatestStep 35 = .ok (.istore 4, 2) := by decide +kernel
theorem dX8_greatestStep_37 : decode cX8_greatestStep 37 = .ok (.iload 4, 2) := by decide +kernel
theorem dX8_greatestStep_39 : decode cX8_greatestStep 39 = .ok (.iload_n 2, 1) := by decide +kernel
theorem dX8_greatestStep_40 : decode cX8_greatestStep 40 = .ok (.if_icmp .le 8, 3) := by decide +kernel
theorem dX8_greatestStep_43 : decode cX8_greatestStep 43 = .ok (.iload 4, 2) := by decide +kernel
theorem dX8_greatestStep_45 : decode cX8_greatestStep 45 = .ok (.goto 4, 3) := by decide +kernel
theorem dX8_greatestStep_48 : decode cX8_greatestStep 48 = .ok (.iload_n 2, 1) := by decide +kernel
theorem dX8_greatestStep_49 : decode cX8_greatestStep 49 = .ok (.istore_n 2, 1) := by decide +kernel
theorem dX8_greatestStep_50 : decode cX8_greatestStep 50 = .ok (.iinc 3 1, 3) := by decide +kernel
theorem dX8_greatestStep_53 : decode cX8_greatestStep 53 = .ok (.goto (-49), 3) := by decide +kernel
theorem dX8_greatestStep_56 : decode cX8_greatestStep 56 = .ok (.iload_n 2, 1) := by decide +kernel
end
section
theorem dX8_greatestStep_57 : decode cX8_greatestStep 57 = .ok (.ireturn, 1) := by decide +kernel
set_option maxRecDepth 20000 in
theorem ggX8_holdsOf_X8_holdAt : GoodIn wsX8_holdsOf wsX8_holdAt := goodIn_r _ [6, 1, 7, 8, 9, 10, 11, 12] (by decide +kernel) (by decide +kernel)
set_option maxRecDepth 20000 in
theorem gX8_holdsOf_X8_holdAt : GoodIn wsX8_holdsOf (wsV RX8 41 RX8 yX8_holdAt wsX8_holdAt) := goodIn_app (goodIn_of _ (by decide +kernel)) ggX8_holdsOf_X8_holdAt
theorem dX8_holdsOf_0 : decode cX8_holdsOf 0 = .ok (.iconst 0, 1) := by decide +kernel
theorem dX8_holdsOf_1 : decode cX8_holdsOf 1 = .ok (.istore_n 2, 1) := by decide +kernel
theorem dX8_holdsOf_2 : decode cX8_holdsOf 2 = .ok (.iconst 0, 1) := by decide +kernel
theorem dX8_holdsOf_3 : decode cX8_holdsOf 3 = .ok (.istore_n 3, 1) := by decide +kernel
theorem dX8_holdsOf_4 : decode cX8_holdsOf 4 = .ok (.iload_n 3, 1) := by decide +kernel
theorem dX8_holdsOf_5 : decode cX8_holdsOf 5 = .ok (.aload_n 0, 1) := by decide +kernel
theorem dX8_holdsOf_6 : decode cX8_holdsOf 6 = .ok (.getfield 7, 3) := by decide +kernel
theorem dX8_holdsOf_9 : decode cX8_holdsOf 9 = .ok (.iconst 5, 1) := by decide +kernel
theorem dX8_holdsOf_10 : decode cX8_holdsOf 10 = .ok (.iaload, 1) := by decide +kernel
theorem dX8_holdsOf_11 : decode cX8_holdsOf 11 = .ok (.if_icmp .ge 27, 3) := by decide +kernel
theorem dX8_holdsOf_14 : decode cX8_holdsOf 14 = .ok (.iload_n 2, 1) := by decide +kernel
theorem dX8_holdsOf_15 : decode cX8_holdsOf 15 = .ok (.aload_n 0, 1) := by decide +kernel
theorem dX8_holdsOf_16 : decode cX8_holdsOf 16 = .ok (.iload_n 3, 1) := by decide +kernel
theorem dX8_holdsOf_17 : decode cX8_holdsOf 17 = .ok (.iconst 1, 1) := by decide +kernel
theorem dX8_holdsOf_18 : decode cX8_holdsOf 18 = .ok (.invokevirtual 41, 3) := by decide +kernel
theorem dX8_holdsOf_21 : decode cX8_holdsOf 21 = .ok (.iload_n 1, 1) := by decide +kernel
theorem dX8_holdsOf_22 : decode cX8_holdsOf 22 = .ok (.if_icmp .ne 7, 3) := by decide +kernel
theorem dX8_holdsOf_25 : decode cX8_holdsOf 25 = .ok (.iconst 1, 1) := by decide +kernel
theorem dX8_holdsOf_26 : decode cX8_holdsOf 26 = .ok (.goto 4, 3) := by decide +kernel
theorem dX8_holdsOf_29 : decode cX8_holdsOf 29 = .ok (.iconst 0, 1) := by decide +kernel
theorem dX8_holdsOf_30 : decode cX8_holdsOf 30 = .ok (.iadd, 1) := by decide +kernel
theorem dX8_holdsOf_31 : decode cX8_holdsOf 31 = .ok (.istore_n 2, 1) := by decide +kernel
theorem dX8_holdsOf_32 : decode cX8_holdsOf 32 = .ok (.iinc 3 1, 3) := by decide +kernel
theorem dX8_holdsOf_35 : decode cX8_holdsOf 35 = .ok (.goto (-31), 3) := by decide +kernel
theorem dX8_holdsOf_38 : decode cX8_holdsOf 38 = .ok (.iload_n 2, 1) := by decide +kernel
theorem dX8_holdsOf_39 : decode cX8_holdsOf 39 = .ok (.ireturn, 1) := by decide +kernel
set_option maxRecDepth 20000 in
theorem ggX8_readerOf_X8_isReader : GoodIn wsX8_readerOf wsX8_isReader := goodIn_r _ [6, 7, 8, 9, 5, 10] (by decide +kernel) (by decide +kernel)
set_option maxRecDepth 20000 in
theorem gX8_readerOf_X8_isReader : GoodIn wsX8_readerOf (va_wsS RX8 109 yX8_isReader wsX8_isReader) := goodIn_app (goodIn_of _ (by decide +kernel)) ggX8_readerOf_X8_isReader
set_option maxRecDepth 20000 in
theorem ggX8_readerOf_X8_outsOf : GoodIn wsX8_readerOf wsX8_outsOf := goodIn_r _ [14, 15, 16, 17, 18, 5, 19, 43, 44, 45, 46, 47, 48] (by decide +kernel) (by decide +kernel)
set_option maxRecDepth 20000 in
theorem gX8_readerOf_X8_outsOf : GoodIn wsX8_readerOf (wsV RX8 97 RX8 yX8_outsOf wsX8_outsOf) := goodIn_app (goodIn_of _ (by decide +kernel)) ggX8_readerOf_X8_outsOf
set_option maxRecDepth 20000 in
theorem ggX8_readerOf_X8_holdsOf : GoodIn wsX8_readerOf wsX8_holdsOf := goodIn_r _ [23, 15, 24, 25, 26, 5, 27, 43, 44, 45, 46, 47, 48] (by decide +kernel) (by decide +kernel)
set_option maxRecDepth 20000 in
theorem gX8_readerOf_X8_holdsOf : GoodIn wsX8_readerOf (wsV RX8 202 RX8 yX8_holdsOf wsX8_holdsOf) := goodIn_app (goodIn_of _ (by decide +kernel)) ggX8_readerOf_X8_holdsOf
set_option maxRecDepth 20000 in
theorem ggX8_readerOf_X8_owedBy : GoodIn wsX8_readerOf wsX8_owedBy := goodIn_r _ [31, 15, 11, 12, 13, 5, 14, 16, 17, 18, 19, 32, 33, 34, 43, 44, 45, 46, 47, 48] (by decide +kernel) (by decide +kernel)
set_option maxRecDepth 20000 in
theorem gX8_readerOf_X8_owedBy : GoodIn wsX8_readerOf (wsV RX8 205 RX8 yX8_owedBy wsX8_owedBy) := goodIn_app (goodIn_of _ (by decide +kernel)) ggX8_readerOf_X8_owedBy
set_option maxRecDepth 20000 in
theorem ggX8_readerOf_X8_greatestStep : GoodIn wsX8_readerOf wsX8_greatestStep := goodIn_r _ [38, 15, 11, 12, 13, 5, 14, 16, 17, 18, 19, 32, 33, 34, 39, 40, 41, 42, 43, 44, 45, 46, 47, 48] (by decide +kernel) (by decide +kernel)
set_option maxRecDepth 20000 in
theorem gX8_readerOf_X8_greatestStep : GoodIn wsX8_readerOf (wsV RX8 208 RX8 yX8_greatestStep wsX8_greatestStep) := goodIn_app (goodIn_of _ (by decide +kernel)) ggX8_readerOf_X8_greatestStep
theorem dX8_readerOf_0 : decode cX8_readerOf 0 = .ok (.iload_n 1, 1) := by decide +kernel
theorem dX8_readerOf_1 : decode cX8_readerOf 1 = .ok (.invokestatic 109, 3) := by decide +kernel
theorem dX8_readerOf_4 : decode cX8_readerOf 4 = .ok (.ifCond .ne 6, 3) := by decide +kernel
theorem dX8_readerOf_7 : decode cX8_readerOf 7 = .ok (.ldc 92, 2) := by decide +kernel
theorem dX8_readerOf_9 : decode cX8_readerOf 9 = .ok (.ireturn, 1) := by decide +kernel
theorem dX8_readerOf_10 : decode cX8_readerOf 10 = .ok (.iload_n 2, 1) := by decide +kernel
theorem dX8_readerOf_11 : decode cX8_readerOf 11 = .ok (.tableswitch 61 0 4 #[33, 39, 45, 51, 57], 33) := by decide +kernel
theorem dX8_readerOf_44 : decode cX8_readerOf 44 = .ok (.aload_n 0, 1) := by decide +kernel
theorem dX8_readerOf_45 : decode cX8_readerOf 45 = .ok (.iload_n 1, 1) := by decide +kernel
theorem dX8_readerOf_46 : decode cX8_readerOf 46 = .ok (.invokevirtual 97, 3) := by decide +kernel
theorem dX8_readerOf_49 : decode cX8_readerOf 49 = .ok (.ireturn, 1) := by decide +kernel
theorem dX8_readerOf_50 : decode cX8_readerOf 50 = .ok (.aload_n 0, 1) := by decide +kernel
theorem dX8_readerOf_51 : decode cX8_readerOf 51 = .ok (.iload_n 1, 1) := by decide +kernel
theorem dX8_readerOf_52 : decode cX8_readerOf 52 = .ok (.invokevirtual 202, 3) := by decide +kernel
theorem dX8_readerOf_55 : decode cX8_readerOf 55 = .ok (.ireturn, 1) := by decide +kernel
theorem dX8_readerOf_56 : decode cX8_readerOf 56 = .ok (.aload_n 0, 1) := by decide +kernel
theorem dX8_readerOf_57 : decode cX8_readerOf 57 = .ok (.iload_n 1, 1) := by decide +kernel
theorem dX8_readerOf_58 : decode cX8_readerOf 58 = .ok (.invokevirtual 205, 3) := by decide +kernel
theorem dX8_readerOf_61 : decode cX8_readerOf 61 = .ok (.ireturn, 1) := by decide +kernel
theorem dX8_readerOf_62 : decode cX8_readerOf 62 = .ok (.aload_n 0, 1) := by decide +kernel
theorem dX8_readerOf_63 : decode cX8_readerOf 63 = .ok (.iload_n 1, 1) := by decide +kernel
theorem dX8_readerOf_64 : decode cX8_readerOf 64 = .ok (.invokevirtual 208, 3) := by decide +kernel
theorem dX8_readerOf_67 : decode cX8_readerOf 67 = .ok (.ireturn, 1) := by decide +kernel
theorem dX8_readerOf_68 : decode cX8_readerOf 68 = .ok (.iload_n 1, 1) := by decide +kernel
theorem dX8_readerOf_69 : decode cX8_readerOf 69 = .ok (.iconst 4, 1) := by decide +kernel
theorem dX8_readerOf_70 : decode cX8_readerOf 70 = .ok (.irem, 1) := by decide +kernel
theorem dX8_readerOf_71 : decode cX8_readerOf 71 = .ok (.ireturn, 1) := by decide +kernel
theorem dX8_readerOf_72 : decode cX8_readerOf 72 = .ok (.ldc 131, 2) := by decide +kernel
theorem dX8_readerOf_74 : decode cX8_readerOf 74 = .ok (.ireturn, 1) := by decide +kernel
set_option maxRecDepth 20000 in
theorem ggX8_keep_X8_in : GoodIn wsX8_keep wsX8_in := goodIn_r _ [9] (by decide +kernel) (by decide +kernel)
set_option maxRecDepth 20000 in
theorem gX8_keep_X8_in : GoodIn wsX8_keep (va_wsS RX8 23 yX8_in wsX8_in) := goodIn_app (goodIn_of _ (by decide +kernel)) ggX8_keep_X8_in
theorem dX8_keep_0 : decode cX8_keep 0 = .ok (.iload_n 1, 1) := by decide +kernel
theorem dX8_keep_1 : decode cX8_keep 1 = .ok (.i2l, 1) := by decide +kernel
theorem dX8_keep_2 : decode cX8_keep 2 = .ok (.lconst 0, 1) := by decide +kernel
theorem dX8_keep_3 : decode cX8_keep 3 = .ok (.lconst 1, 1) := by decide +kernel
theorem dX8_keep_4 : decode cX8_keep 4 = .ok (.invokestatic 23, 3) := by decide +kernel
theorem dX8_keep_7 : decode cX8_keep 7 = .ok (.ifCond .ne 6, 3) := by decide +kernel
theorem dX8_keep_10 : decode cX8_keep 10 = .ok (.ldc 92, 2) := by decide +kernel
theorem dX8_keep_12 : decode cX8_keep 12 = .ok (.ireturn, 1) := by decide +kernel
theorem dX8_keep_13 : decode cX8_keep 13 = .ok (.iconst 0, 1) := by decide +kernel
theorem dX8_keep_14 : decode cX8_keep 14 = .ok (.istore_n 2, 1) := by decide +kernel
theorem dX8_keep_15 : decode cX8_keep 15 = .ok (.iload_n 2, 1) := by decide +kernel
theorem dX8_keep_16 : decode cX8_keep 16 = .ok (.sipush 172, 3) := by decide +kernel
theorem dX8_keep_19 : decode cX8_keep 19 = .ok (.if_icmp .ge 27, 3) := by decide +kernel
theorem dX8_keep_22 : decode cX8_keep 22 = .ok (.aload_n 0, 1) := by decide +kernel
theorem dX8_keep_23 : decode cX8_keep 23 = .ok (.getfield 16, 3) := by decide +kernel
theorem dX8_keep_26 : decode cX8_keep 26 = .ok (.sipush 172, 3) := by decide +kernel
theorem dX8_keep_29 : decode cX8_keep 29 = .ok (.iload_n 1, 1) := by decide +kernel
theorem dX8_keep_30 : decode cX8_keep 30 = .ok (.imul, 1) := by decide +kernel
theorem dX8_keep_31 : decode cX8_keep 31 = .ok (.iload_n 2, 1) := by decide +kernel
theorem dX8_keep_32 : decode cX8_keep 32 = .ok (.iadd, 1) := by decide +kernel
theorem dX8_keep_33 : decode cX8_keep 33 = .ok (.aload_n 0, 1) := by decide +kernel
theorem dX8_keep_34 : decode cX8_keep 34 = .ok (.getfield 7, 3) := by decide +kernel
theorem dX8_keep_37 : decode cX8_keep 37 = .ok (.iload_n 2, 1) := by decide +kernel
theorem dX8_keep_38 : decode cX8_keep 38 = .ok (.iaload, 1) := by decide +kernel
theorem dX8_keep_39 : decode cX8_keep 39 = .ok (.iastore, 1) := by decide +kernel
theorem dX8_keep_40 : decode cX8_keep 40 = .ok (.iinc 2 1, 3) := by decide +kernel
theorem dX8_keep_43 : decode cX8_keep 43 = .ok (.goto (-28), 3) := by decide +kernel
theorem dX8_keep_46 : decode cX8_keep 46 = .ok (.aload_n 0, 1) := by decide +kernel
theorem dX8_keep_47 : decode cX8_keep 47 = .ok (.getfield 19, 3) := by decide +kernel
theorem dX8_keep_50 : decode cX8_keep 50 = .ok (.iload_n 1, 1) := by decide +kernel
theorem dX8_keep_51 : decode cX8_keep 51 = .ok (.iconst 1, 1) := by decide +kernel
theorem dX8_keep_52 : decode cX8_keep 52 = .ok (.bastore, 1) := by decide +kernel
theorem dX8_keep_53 : decode cX8_keep 53 = .ok (.aload_n 0, 1) := by decide +kernel
theorem dX8_keep_54 : decode cX8_keep 54 = .ok (.iconst 0, 1) := by decide +kernel
theorem dX8_keep_55 : decode cX8_keep 55 = .ok (.putfield 82, 3) := by decide +kernel
theorem dX8_keep_58 : decode cX8_keep 58 = .ok (.aload_n 0, 1) := by decide +kernel
theorem dX8_keep_59 : decode cX8_keep 59 = .ok (.getfield 7, 3) := by decide +kernel
theorem dX8_keep_62 : decode cX8_keep 62 = .ok (.iconst 0, 1) := by decide +kernel
theorem dX8_keep_63 : decode cX8_keep 63 = .ok (.iaload, 1) := by decide +kernel
theorem dX8_keep_64 : decode cX8_keep 64 = .ok (.ireturn, 1) := by decide +kernel
set_option maxRecDepth 20000 in
theorem ggX8_goBack_X8_in : GoodIn wsX8_goBack wsX8_in := goodIn_r _ [10] (by decide +kernel) (by decide +kernel)
set_option maxRecDepth 20000 in
theorem gX8_goBack_X8_in : GoodIn wsX8_goBack (va_wsS RX8 23 yX8_in wsX8_in) := goodIn_app (goodIn_of _ (by decide +kernel)) ggX8_goBack_X8_in
theorem dX8_goBack_0 : decode cX8_goBack 0 = .ok (.iload_n 1, 1) := by decide +kernel
theorem dX8_goBack_1 : decode cX8_goBack 1 = .ok (.i2l, 1) := by decide +kernel
theorem dX8_goBack_2 : decode cX8_goBack 2 = .ok (.lconst 0, 1) := by decide +kernel
theorem dX8_goBack_3 : decode cX8_goBack 3 = .ok (.lconst 1, 1) := by decide +kernel
theorem dX8_goBack_4 : decode cX8_goBack 4 = .ok (.invokestatic 23, 3) := by decide +kernel
theorem dX8_goBack_7 : decode cX8_goBack 7 = .ok (.ifCond .ne 6, 3) := by decide +kernel
theorem dX8_goBack_10 : decode cX8_goBack 10 = .ok (.ldc 92, 2) := by decide +kernel
theorem dX8_goBack_12 : decode cX8_goBack 12 = .ok (.ireturn, 1) := by decide +kernel
theorem dX8_goBack_13 : decode cX8_goBack 13 = .ok (.aload_n 0, 1) := by decide +kernel
theorem dX8_goBack_14 : decode cX8_goBack 14 = .ok (.getfield 19, 3) := by decide +kernel
theorem dX8_goBack_17 : decode cX8_goBack 17 = .ok (.iload_n 1, 1) := by decide +kernel
theorem dX8_goBack_18 : decode cX8_goBack 18 = .ok (.baload, 1) := by decide +kernel
theorem dX8_goBack_19 : decode cX8_goBack 19 = .ok (.ifCond .ne 6, 3) := by decide +kernel
theorem dX8_goBack_22 : decode cX8_goBack 22 = .ok (.ldc 115, 2) := by decide +kernel
theorem dX8_goBack_24 : decode cX8_goBack 24 = .ok (.ireturn, 1) := by decide +kernel
theorem dX8_goBack_25 : decode cX8_goBack 25 = .ok (.iconst 0, 1) := by decide +kernel
theorem dX8_goBack_26 : decode cX8_goBack 26 = .ok (.istore_n 2, 1) := by decide +kernel
theorem dX8_goBack_27 : decode cX8_goBack 27 = .ok (.iload_n 2, 1) := by decide +kernel
theorem dX8_goBack_28 : decode cX8_goBack 28 = .ok (.sipush 172, 3) := by decide +kernel
theorem dX8_goBack_31 : decode cX8_goBack 31 = .ok (.if_icmp .ge 27, 3) := by decide +kernel
theorem dX8_goBack_34 : decode cX8_goBack 34 = .ok (.aload_n 0, 1) := by decide +kernel
theorem dX8_goBack_35 : decode cX8_goBack 35 = .ok (.getfield 7, 3) := by decide +kernel
theorem dX8_goBack_38 : decode cX8_goBack 38 = .ok (.iload_n 2, 1) := by decide +kernel
theorem dX8_goBack_39 : decode cX8_goBack 39 = .ok (.aload_n 0, 1) := by decide +kernel
theorem dX8_goBack_40 : decode cX8_goBack 40 = .ok (.getfield 16, 3) := by decide +kernel
theorem dX8_goBack_43 : decode cX8_goBack 43 = .ok (.sipush 172, 3) := by decide +kernel
theorem dX8_goBack_46 : decode cX8_goBack 46 = .ok (.iload_n 1, 1) := by decide +kernel
theorem dX8_goBack_47 : decode cX8_goBack 47 = .ok (.imul, 1) := by decide +kernel
theorem dX8_goBack_48 : decode cX8_goBack 48 = .ok (.iload_n 2, 1) := by decide +kernel
theorem dX8_goBack_49 : decode cX8_goBack 49 = .ok (.iadd, 1) := by decide +kernel
theorem dX8_goBack_50 : decode cX8_goBack 50 = .ok (.iaload, 1) := by decide +kernel
theorem dX8_goBack_51 : decode cX8_goBack 51 = .ok (.iastore, 1) := by decide +kernel
theorem dX8_goBack_52 : decode cX8_goBack 52 = .ok (.iinc 2 1, 3) := by decide +kernel
theorem dX8_goBack_55 : decode cX8_goBack 55 = .ok (.goto (-28), 3) := by decide +kernel
theorem dX8_goBack_58 : decode cX8_goBack 58 = .ok (.aload_n 0, 1) := by decide +kernel
theorem dX8_goBack_59 : decode cX8_goBack 59 = .ok (.iconst 0, 1) := by decide +kernel
theorem dX8_goBack_60 : decode cX8_goBack 60 = .ok (.putfield 82, 3) := by decide +kernel
theorem dX8_goBack_63 : decode cX8_goBack 63 = .ok (.aload_n 0, 1) := by decide +kernel
theorem dX8_goBack_64 : decode cX8_goBack 64 = .ok (.getfield 7, 3) := by decide +kernel
theorem dX8_goBack_67 : decode cX8_goBack 67 = .ok (.iconst 0, 1) := by decide +kernel
theorem dX8_goBack_68 : decode cX8_goBack 68 = .ok (.iaload, 1) := by decide +kernel
theorem dX8_goBack_69 : decode cX8_goBack 69 = .ok (.ireturn, 1) := by decide +kernel
end
section
set_option maxRecDepth 20000 in
theorem ggL_law_X7_init : GoodIn wsL_law wsX7_init := goodIn_r _ [8, 9, 10, 11, 12, 13, 14, 15, 16, 17, 18, 19, 20, 21, 22, 23, 24, 25, 26, 27, 28, 29, 30, 31, 32, 33, 34, 35, 36, 37, 38, 39, 40, 41, 42, 43, 44, 45, 46, 47, 48, 49, 50, 51, 52, 53, 54, 55, 56, 57, 58, 59, 60, 61, 62, 63, 64, 65, 66, 67, 68, 69, 70, 71, 72, 73, 74, 75, 76, 77, 78, 79, 80, 840, 841, 842, 843, 828, 829, 830, 831, 832, 833, 844, 845, 846, 847, 848, 849, 850, 851, 852, 853, 854, 855, 856, 857] (by decide +kernel) (by decide +kernel)
set_option maxRecDepth 20000 in
theorem gL_law_X7_init : GoodIn wsL_law (wsX7_init) := ggL_law_X7_init
set_option maxRecDepth 20000 in
theorem ggL_law_X8_init : GoodIn wsL_law wsX8_init := goodIn_r _ [83, 84, 10, 11, 63, 85, 86, 87, 88, 89, 834, 835, 836, 837, 838, 839] (by decide +kernel) (by decide +kernel)
set_option maxRecDepth 20000 in
theorem gL_law_X8_init : GoodIn wsL_law (wsX8_init) := ggL_law_X8_init
set_option maxRecDepth 20000 in
theorem ggL_law_X7_copy : GoodIn wsL_law wsX7_copy := goodIn_r _ [93, 94, 15, 95, 96, 97, 2, 98, 99, 100, 101, 102, 19, 103, 104, 105, 106, 59, 107, 108, 109, 110, 18, 111, 77, 76, 13, 14, 25, 26, 27, 10, 11, 28, 29, 30, 31, 32, 33, 34, 35, 36, 37, 38, 39, 40, 41, 42, 43, 44, 45, 46, 47, 48, 49, 50, 51, 52, 53, 54, 55, 56, 57, 58, 60, 61, 62, 63, 64, 65, 66, 67, 68, 69, 70, 112, 113, 114, 115, 116, 117, 118, 119, 120, 121, 122, 123, 124, 125, 126, 127, 128, 129, 130, 131, 132, 133, 134, 135, 136, 137, 138, 139, 140, 141, 142, 143, 144, 145, 146, 147, 148, 149, 150, 151, 152, 153, 154, 155, 156, 157, 158, 159, 160, 161, 162, 163, 164, 165, 166, 167, 168, 169, 170, 171, 172, 173, 174, 175, 176, 177, 178, 179, 180, 181, 182, 183, 184, 185, 186, 187, 188, 189, 190, 191, 192, 193, 194, 195, 196, 197, 198, 199, 200, 201, 202, 203, 204, 205, 206, 207, 208, 209, 210, 211, 212, 213, 214, 215, 216, 217, 218, 219, 220, 221, 222, 223, 224, 225, 226, 227, 828, 829, 830, 831, 832, 833, 840, 841, 842, 843, 850, 851, 844, 846, 847, 848, 849, 852, 853, 854, 855, 856, 857] (by decide +kernel) (by decide +kernel)
set_option maxRecDepth 20000 in
theorem gL_law_X7_copy : GoodIn wsL_law (wsV RL 13 RX7 yX7_copy wsX7_copy) := goodIn_app (goodIn_of _ (by decide +kernel)) ggL_law_X7_copy
set_option maxRecDepth 20000 in
theorem ggL_law_X8_copy : GoodIn wsL_law wsX8_copy := goodIn_r _ [231, 232, 85, 233, 234, 235, 5, 236, 237, 238, 239, 240, 241, 242, 243, 244, 245, 246, 247, 248, 249, 86, 250, 251, 252, 253, 254, 255, 256, 257, 258, 259, 260, 261, 262, 263, 264, 265, 266, 267, 268, 269, 270, 271, 272, 273, 274, 275, 276, 277, 278, 279, 280, 281, 282, 283, 284, 285, 286, 287, 288, 834, 835, 836, 837, 838, 839] (by decide +kernel) (by decide +kernel)
set_option maxRecDepth 20000 in
theorem gL_law_X8_copy : GoodIn wsL_law (wsV RL 17 RX8 yX8_copy wsX8_copy) := goodIn_app (goodIn_of _ (by decide +kernel)) ggL_law_X8_copy
set_option maxRecDepth 20000 in
theorem ggL_law_X7_lend : GoodIn wsL_law wsX7_lend := goodIn_r _ [292, 15, 293, 294, 295, 2, 296, 94, 297, 298, 299, 300, 301, 96, 97, 98, 302, 303, 304, 14, 305, 35, 39, 306, 197, 198, 34, 199, 52, 195, 176, 177, 51, 178, 61, 62, 64, 307, 308, 309, 310, 311, 312, 313, 38, 314, 140, 315, 215, 216, 217, 69, 175, 316, 317, 318, 319, 320, 321, 322, 323, 126, 324, 325, 326, 327, 196, 328, 329, 330, 331, 332, 333, 334, 335, 99, 100, 101, 102, 19, 103, 104, 105, 106, 59, 107, 108, 109, 110, 18, 111, 77, 76, 13, 25, 26, 27, 10, 11, 28, 29, 30, 31, 32, 33, 36, 37, 40, 41, 42, 43, 44, 45, 46, 47, 48, 49, 50, 53, 54, 55, 56, 57, 58, 60, 63, 65, 66, 67, 68, 70, 112, 113, 114, 115, 116, 117, 118, 119, 120, 121, 122, 123, 124, 125, 127, 128, 129, 130, 131, 132, 133, 134, 135, 136, 137, 138, 139, 141, 142, 143, 144, 145, 146, 336, 337, 338, 339, 340, 341, 342, 343, 344, 345, 346, 347, 348, 349, 350, 351, 352, 353, 354, 355, 356, 213, 201, 202, 203, 227, 160, 161, 162, 155, 156, 157, 158, 828, 829, 830, 831, 832, 833, 840, 841, 842, 843, 850, 851, 855, 856, 857, 852, 853, 854, 844, 846, 847, 848, 849] (by decide +kernel) (by decide +kernel)
set_option maxRecDepth 20000 in
theorem gL_law_X7_lend : GoodIn wsL_law (wsV RL 18 RX7 yX7_lend wsX7_lend) := goodIn_app (goodIn_of _ (by decide +kernel)) ggL_law_X7_lend
set_option maxRecDepth 20000 in
theorem ggL_law_X8_lend : GoodIn wsL_law wsX8_lend := goodIn_r _ [360, 232, 361, 362, 363, 364, 5, 365, 85, 238, 239, 240, 366, 367, 368, 369, 370, 371, 372, 373, 278, 279, 280, 281, 374, 375, 376, 377, 266, 267, 268, 269, 378, 379, 380, 381, 382, 383, 384, 245, 246, 247, 248, 249, 86, 385, 386, 387, 388, 389, 390, 391, 392, 393, 394, 395, 396, 397, 398, 399, 400, 401, 402, 403, 250, 251, 252, 253, 254, 255, 256, 257, 258, 259, 260, 261, 262, 263, 264, 265, 270, 271, 272, 273, 274, 275, 276, 277, 282, 283, 284, 285, 286, 287, 288, 834, 835, 836, 837, 838, 839] (by decide +kernel) (by decide +kernel)
set_option maxRecDepth 20000 in
theorem gL_law_X8_lend : GoodIn wsL_law (wsV RL 21 RX8 yX8_lend wsX8_lend) := goodIn_app (goodIn_of _ (by decide +kernel)) ggL_law_X8_lend
set_option maxRecDepth 20000 in
theorem ggL_law_X7_giveBack : GoodIn wsL_law wsX7_giveBack := goodIn_r _ [407, 15, 408, 409, 410, 2, 411, 94, 297, 298, 299, 300, 301, 96, 97, 98, 412, 197, 198, 34, 199, 52, 195, 176, 177, 51, 178, 61, 62, 64, 99, 100, 101, 102, 19, 103, 104, 105, 106, 59, 107, 108, 109, 110, 18, 111, 77, 76, 13, 14, 25, 26, 27, 10, 11, 28, 29, 30, 31, 32, 33, 35, 36, 37, 38, 39, 40, 41, 42, 43, 44, 45, 46, 47, 48, 49, 50, 53, 54, 55, 56, 57, 58, 60, 63, 65, 66, 67, 68, 69, 70, 112, 113, 114, 115, 116, 117, 118, 119, 120, 121, 122, 123, 124, 125, 126, 127, 128, 129, 130, 131, 132, 133, 134, 135, 136, 137, 138, 139, 140, 141, 142, 143, 144, 145, 146, 413, 414, 415, 416, 417, 418, 419, 420, 421, 422, 196, 423, 424, 425, 426, 227, 160, 161, 162, 155, 156, 157, 158, 163, 164, 165, 166, 167, 168, 169, 170, 171, 172, 173, 174, 175, 179, 180, 181, 182, 183, 184, 185, 186, 187, 188, 189, 190, 191, 192, 193, 194, 200, 201, 202, 203, 204, 205, 206, 207, 208, 209, 210, 211, 212, 213, 214, 215, 216, 217, 218, 219, 220, 221, 222, 223, 224, 225, 226, 828, 829, 830, 831, 832, 833, 840, 841, 842, 843, 850, 851, 855, 856, 857, 844, 846, 847, 848, 849, 852, 853, 854] (by decide +kernel) (by decide +kernel)
set_option maxRecDepth 20000 in
theorem gL_law_X7_giveBack : GoodIn wsL_law (wsV RL 22 RX7 yX7_giveBack wsX7_giveBack) := goodIn_app (goodIn_of _ (by decide +kernel)) ggL_law_X7_giveBack
set_option maxRecDepth 20000 in
theorem ggL_law_X8_giveBack : GoodIn wsL_law wsX8_giveBack := goodIn_r _ [430, 232, 361, 362, 363, 364, 5, 365, 85, 238, 239, 240, 241, 242, 243, 244, 431, 432, 433, 434, 278, 279, 280, 281, 245, 246, 247, 248, 249, 86, 435, 436, 437, 438, 439, 440, 441, 442, 250, 251, 252, 253, 254, 255, 256, 257, 258, 259, 260, 261, 262, 263, 264, 265, 266, 267, 268, 269, 270, 271, 272, 273, 274, 275, 276, 277, 282, 283, 284, 285, 286, 287, 288, 834, 835, 836, 837, 838, 839] (by decide +kernel) (by decide +kernel)
set_option maxRecDepth 20000 in
theorem gL_law_X8_giveBack : GoodIn wsL_law (wsV RL 25 RX8 yX8_giveBack wsX8_giveBack) := goodIn_app (goodIn_of _ (by decide +kernel)) ggL_law_X8_giveBack
set_option maxRecDepth 20000 in
theorem ggL_law_X7_renew : GoodIn wsL_law wsX7_renew := goodIn_r _ [446, 94, 15, 297, 298, 299, 300, 2, 301, 96, 97, 98, 412, 197, 198, 34, 199, 52, 195, 176, 177, 51, 178, 61, 62, 64, 447, 192, 193, 194, 448, 449, 450, 38, 451, 140, 171, 172, 173, 174, 69, 175, 99, 100, 101, 102, 19, 103, 104, 105, 106, 59, 107, 108, 109, 110, 18, 111, 77, 76, 13, 14, 25, 26, 27, 10, 11, 28, 29, 30, 31, 32, 33, 35, 36, 37, 39, 40, 41, 42, 43, 44, 45, 46, 47, 48, 49, 50, 53, 54, 55, 56, 57, 58, 60, 63, 65, 66, 67, 68, 70, 112, 113, 114, 115, 116, 117, 118, 119, 120, 121, 122, 123, 124, 125, 126, 127, 128, 129, 130, 131, 132, 133, 134, 135, 136, 137, 138, 139, 141, 142, 143, 144, 145, 146, 452, 453, 454, 455, 307, 308, 309, 310, 456, 337, 338, 339, 306, 311, 312, 313, 314, 315, 215, 216, 217, 340, 341, 342, 343, 344, 345, 346, 347, 348, 349, 350, 351, 352, 353, 354, 355, 356, 213, 201, 202, 203, 227, 160, 161, 162, 155, 156, 157, 158, 828, 829, 830, 831, 832, 833, 840, 841, 842, 843, 850, 851, 855, 856, 857, 852, 853, 854, 844, 846, 847, 848, 849] (by decide +kernel) (by decide +kernel)
set_option maxRecDepth 20000 in
theorem gL_law_X7_renew : GoodIn wsL_law (wsV RL 26 RX7 yX7_renew wsX7_renew) := goodIn_app (goodIn_of _ (by decide +kernel)) ggL_law_X7_renew
set_option maxRecDepth 20000 in
theorem ggL_law_X8_renew : GoodIn wsL_law wsX8_renew := goodIn_r _ [460, 232, 361, 85, 362, 363, 364, 5, 365, 238, 239, 240, 278, 279, 280, 281, 461, 462, 463, 464, 262, 263, 264, 265, 266, 267, 268, 269, 245, 246, 247, 248, 249, 86, 393, 394, 395, 396, 397, 398, 399, 400, 401, 402, 403, 250, 251, 252, 253, 834, 835, 836, 837, 838, 839] (by decide +kernel) (by decide +kernel)
set_option maxRecDepth 20000 in
theorem gL_law_X8_renew : GoodIn wsL_law (wsV RL 30 RX8 yX8_renew wsX8_renew) := goodIn_app (goodIn_of _ (by decide +kernel)) ggL_law_X8_renew
set_option maxRecDepth 20000 in
theorem ggL_law_X7_lose : GoodIn wsL_law wsX7_lose := goodIn_r _ [468, 94, 15, 297, 298, 299, 300, 2, 301, 96, 97, 98, 412, 197, 198, 34, 199, 52, 195, 176, 177, 51, 178, 61, 62, 64, 99, 100, 101, 102, 19, 103, 104, 105, 106, 59, 107, 108, 109, 110, 18, 111, 77, 76, 13, 14, 25, 26, 27, 10, 11, 28, 29, 30, 31, 32, 33, 35, 36, 37, 38, 39, 40, 41, 42, 43, 44, 45, 46, 47, 48, 49, 50, 53, 54, 55, 56, 57, 58, 60, 63, 65, 66, 67, 68, 69, 70, 112, 113, 114, 115, 116, 117, 118, 119, 120, 121, 122, 123, 124, 125, 126, 127, 128, 129, 130, 131, 132, 133, 134, 135, 136, 137, 138, 139, 140, 141, 142, 143, 144, 145, 146, 469, 470, 471, 472, 306, 307, 308, 309, 310, 311, 312, 313, 314, 315, 215, 216, 217, 175, 218, 219, 220, 221, 222, 156, 157, 158, 213, 201, 202, 203, 227, 160, 161, 162, 155, 163, 164, 165, 166, 167, 168, 169, 170, 171, 172, 173, 174, 179, 180, 181, 182, 183, 184, 185, 186, 187, 188, 189, 190, 191, 192, 193, 194, 196, 200, 204, 205, 206, 207, 208, 209, 210, 211, 212, 214, 223, 224, 225, 226, 828, 829, 830, 831, 832, 833, 840, 841, 842, 843, 850, 851, 855, 856, 857, 844, 846, 847, 848, 849, 852, 853, 854] (by decide +kernel) (by decide +kernel)
set_option maxRecDepth 20000 in
theorem gL_law_X7_lose : GoodIn wsL_law (wsV RL 31 RX7 yX7_lose wsX7_lose) := goodIn_app (goodIn_of _ (by decide +kernel)) ggL_law_X7_lose
set_option maxRecDepth 20000 in
theorem ggL_law_X8_lose : GoodIn wsL_law wsX8_lose := goodIn_r _ [476, 232, 361, 85, 362, 363, 364, 5, 365, 238, 239, 240, 278, 279, 280, 281, 245, 246, 247, 248, 249, 86, 374, 375, 376, 377, 266, 267, 268, 269, 250, 251, 252, 253, 254, 255, 256, 257, 258, 259, 260, 261, 262, 263, 264, 265, 270, 271, 272, 273, 274, 275, 276, 277, 282, 283, 284, 285, 286, 287, 288, 834, 835, 836, 837, 838, 839] (by decide +kernel) (by decide +kernel)
set_option maxRecDepth 20000 in
theorem gL_law_X8_lose : GoodIn wsL_law (wsV RL 34 RX8 yX8_lose wsX8_lose) := goodIn_app (goodIn_of _ (by decide +kernel)) ggL_law_X8_lose
set_option maxRecDepth 20000 in
theorem ggL_law_X7_hold : GoodIn wsL_law wsX7_hold := goodIn_r _ [480, 15, 481, 482, 483, 2, 484, 94, 485, 297, 95, 96, 97, 98, 320, 321, 322, 34, 323, 126, 324, 325, 326, 327, 196, 197, 198, 199, 52, 195, 176, 177, 51, 178, 61, 62, 64, 328, 308, 309, 310, 486, 487, 488, 489, 191, 192, 193, 194, 490, 491, 492, 38, 493, 140, 494, 317, 318, 319, 69, 175, 495, 496, 497, 498, 99, 100, 101, 102, 19, 103, 104, 105, 106, 59, 107, 108, 109, 110, 18, 111, 77, 76, 13, 14, 25, 26, 27, 10, 11, 28, 29, 30, 31, 32, 33, 35, 36, 37, 39, 40, 41, 42, 43, 44, 45, 46, 47, 48, 49, 50, 53, 54, 55, 56, 57, 58, 60, 63, 65, 66, 67, 68, 70, 112, 113, 114, 115, 116, 117, 118, 119, 120, 121, 122, 123, 124, 125, 127, 128, 129, 130, 131, 132, 133, 134, 135, 136, 137, 138, 139, 141, 142, 143, 144, 145, 146, 499, 500, 501, 502, 503, 504, 505, 506, 222, 156, 157, 158, 163, 164, 165, 166, 167, 168, 169, 170, 171, 172, 173, 174, 179, 180, 181, 182, 183, 184, 185, 186, 187, 188, 189, 190, 200, 201, 202, 203, 204, 205, 206, 207, 208, 209, 210, 211, 212, 213, 214, 215, 216, 217, 218, 219, 220, 221, 223, 224, 225, 226, 227, 160, 161, 162, 155, 828, 829, 830, 831, 832, 833, 840, 841, 842, 843, 852, 853, 854, 850, 851, 855, 856, 857, 844, 846, 847, 848, 849] (by decide +kernel) (by decide +kernel)
set_option maxRecDepth 20000 in
theorem gL_law_X7_hold : GoodIn wsL_law (wsV RL 35 RX7 yX7_hold wsX7_hold) := goodIn_app (goodIn_of _ (by decide +kernel)) ggL_law_X7_hold
set_option maxRecDepth 20000 in
theorem ggL_law_X8_hold : GoodIn wsL_law wsX8_hold := goodIn_r _ [510, 232, 244, 511, 361, 85, 233, 366, 367, 5, 368, 369, 238, 239, 240, 234, 235, 236, 237, 241, 242, 243, 512, 513, 514, 515, 266, 267, 268, 269, 278, 279, 280, 281, 378, 379, 380, 381, 401, 402, 403, 245, 246, 247, 248, 249, 86, 516, 517, 518, 519, 254, 255, 256, 257, 258, 259, 260, 261, 262, 263, 264, 265, 270, 271, 272, 273, 274, 275, 276, 277, 282, 283, 284, 285, 286, 287, 288, 250, 251, 252, 253, 834, 835, 836, 837, 838, 839] (by decide +kernel) (by decide +kernel)
set_option maxRecDepth 20000 in
theorem gL_law_X8_hold : GoodIn wsL_law (wsV RL 39 RX8 yX8_hold wsX8_hold) := goodIn_app (goodIn_of _ (by decide +kernel)) ggL_law_X8_hold
set_option maxRecDepth 20000 in
theorem ggL_law_X7_giveUp : GoodIn wsL_law wsX7_giveUp := goodIn_r _ [523, 15, 94, 524, 312, 313, 38, 314, 140, 315, 215, 216, 217, 69, 175, 176, 177, 51, 178, 61, 62, 64, 99, 100, 101, 2, 102, 19, 103, 104, 105, 106, 59, 107, 108, 109, 110, 18, 111, 77, 76, 13, 14, 97, 98, 25, 26, 27, 10, 11, 28, 29, 30, 31, 32, 33, 34, 35, 36, 37, 39, 40, 41, 42, 43, 44, 45, 46, 47, 48, 49, 50, 52, 53, 54, 55, 56, 57, 58, 60, 63, 65, 66, 67, 68, 70, 112, 113, 114, 115, 116, 117, 118, 119, 120, 121, 122, 123, 124, 125, 126, 127, 128, 129, 130, 131, 132, 133, 134, 135, 136, 137, 138, 139, 141, 142, 143, 144, 145, 146, 525, 526, 527, 528, 529, 530, 531, 532, 340, 341, 342, 343, 344, 345, 346, 347, 213, 201, 202, 203, 195, 227, 160, 161, 162, 155, 156, 157, 158, 163, 164, 165, 166, 167, 168, 169, 170, 171, 172, 173, 174, 179, 180, 181, 182, 183, 184, 185, 186, 187, 188, 189, 190, 191, 192, 193, 194, 196, 197, 198, 199, 200, 204, 205, 206, 207, 208, 209, 210, 211, 212, 214, 218, 219, 220, 221, 222, 223, 224, 225, 226, 828, 829, 830, 831, 832, 833, 840, 841, 842, 843, 852, 853, 854, 855, 856, 857, 844, 846, 847, 848, 849, 850, 851] (by decide +kernel) (by decide +kernel)
set_option maxRecDepth 20000 in
theorem gL_law_X7_giveUp : GoodIn wsL_law (wsV RL 40 RX7 yX7_giveUp wsX7_giveUp) := goodIn_app (goodIn_of _ (by decide +kernel)) ggL_law_X7_giveUp
set_option maxRecDepth 20000 in
theorem ggL_law_X8_giveUp : GoodIn wsL_law wsX8_giveUp := goodIn_r _ [536, 232, 85, 374, 375, 376, 5, 377, 266, 267, 268, 269, 245, 246, 247, 248, 249, 86, 537, 538, 539, 540, 278, 279, 280, 281, 250, 251, 252, 253, 389, 390, 391, 392, 254, 255, 256, 257, 258, 259, 260, 261, 262, 263, 264, 265, 270, 271, 272, 273, 274, 275, 276, 277, 282, 283, 284, 285, 286, 287, 288, 834, 835, 836, 837, 838, 839] (by decide +kernel) (by decide +kernel)
set_option maxRecDepth 20000 in
theorem gL_law_X8_giveUp : GoodIn wsL_law (wsV RL 43 RX8 yX8_giveUp wsX8_giveUp) := goodIn_app (goodIn_of _ (by decide +kernel)) ggL_law_X8_giveUp
set_option maxRecDepth 20000 in
theorem ggL_law_X7_pass : GoodIn wsL_law wsX7_pass := goodIn_r _ [544, 485, 15, 297, 99, 100, 101, 2, 102, 19, 103, 104, 105, 106, 59, 107, 108, 109, 110, 18, 111, 77, 76, 13, 14, 97, 98, 25, 26, 27, 10, 11, 28, 29, 30, 31, 32, 33, 34, 35, 36, 37, 38, 39, 40, 41, 42, 43, 44, 45, 46, 47, 48, 49, 50, 51, 52, 53, 54, 55, 56, 57, 58, 60, 61, 62, 63, 64, 65, 66, 67, 68, 69, 70, 112, 113, 114, 115, 116, 117, 118, 119, 120, 121, 122, 123, 124, 125, 126, 127, 128, 129, 130, 131, 132, 133, 134, 135, 136, 137, 138, 139, 140, 141, 142, 143, 144, 145, 146, 545, 546, 547, 548, 549, 550, 551, 552, 306, 197, 198, 199, 195, 176, 177, 178, 553, 424, 425, 426, 213, 201, 202, 203, 307, 308, 309, 310, 223, 224, 225, 226, 227, 160, 161, 162, 155, 156, 157, 158, 311, 312, 313, 314, 315, 215, 216, 217, 175, 340, 341, 342, 343, 344, 345, 346, 347, 163, 164, 165, 166, 167, 168, 169, 170, 171, 172, 173, 174, 179, 180, 181, 182, 183, 184, 185, 186, 187, 188, 189, 190, 191, 192, 193, 194, 196, 200, 204, 205, 206, 207, 208, 209, 210, 211, 212, 214, 218, 219, 220, 221, 222, 828, 829, 830, 831, 832, 833, 840, 841, 842, 843, 846, 847, 848, 849, 844, 850, 851, 852, 853, 854, 855, 856, 857] (by decide +kernel) (by decide +kernel)
set_option maxRecDepth 20000 in
theorem gL_law_X7_pass : GoodIn wsL_law (wsV RL 44 RX7 yX7_pass wsX7_pass) := goodIn_app (goodIn_of _ (by decide +kernel)) ggL_law_X7_pass
set_option maxRecDepth 20000 in
theorem ggL_law_X8_pass : GoodIn wsL_law wsX8_pass := goodIn_r _ [557, 558, 511, 85, 361, 238, 239, 5, 240, 245, 246, 247, 248, 249, 86, 559, 560, 561, 562, 278, 279, 280, 281, 374, 375, 376, 377, 266, 267, 268, 269, 250, 251, 252, 253, 389, 390, 391, 392, 254, 255, 256, 257, 258, 259, 260, 261, 262, 263, 264, 265, 270, 271, 272, 273, 274, 275, 276, 277, 282, 283, 284, 285, 286, 287, 288, 834, 835, 836, 837, 838, 839] (by decide +kernel) (by decide +kernel)
set_option maxRecDepth 20000 in
theorem gL_law_X8_pass : GoodIn wsL_law (wsV RL 47 RX8 yX8_pass wsX8_pass) := goodIn_app (goodIn_of _ (by decide +kernel)) ggL_law_X8_pass
set_option maxRecDepth 20000 in
theorem ggL_law_X7_set : GoodIn wsL_law wsX7_set := goodIn_r _ [566, 485, 15, 567, 568, 30, 569, 99, 100, 101, 2, 102, 19, 103, 104, 105, 106, 59, 107, 108, 109, 110, 18, 111, 77, 76, 13, 14, 97, 98, 25, 26, 27, 10, 11, 28, 29, 31, 32, 33, 34, 35, 36, 37, 38, 39, 40, 41, 42, 43, 44, 45, 46, 47, 48, 49, 50, 51, 52, 53, 54, 55, 56, 57, 58, 60, 61, 62, 63, 64, 65, 66, 67, 68, 69, 70, 112, 113, 114, 115, 116, 117, 118, 119, 120, 121, 122, 123, 124, 125, 126, 127, 128, 129, 130, 131, 132, 133, 134, 135, 136, 137, 138, 139, 140, 141, 142, 143, 144, 145, 146, 570, 571, 572, 573, 828, 829, 830, 831, 832, 833, 840, 841, 842, 843, 844, 846, 847, 848, 849, 850, 851, 852, 853, 854, 855, 856, 857] (by decide +kernel) (by decide +kernel)
set_option maxRecDepth 20000 in
theorem gL_law_X7_set : GoodIn wsL_law (wsV RL 48 RX7 yX7_set wsX7_set) := goodIn_app (goodIn_of _ (by decide +kernel)) ggL_law_X7_set
set_option maxRecDepth 20000 in
theorem ggL_law_X8_set : GoodIn wsL_law wsX8_set := goodIn_r _ [577, 578, 579, 580, 581, 511, 85, 238, 239, 5, 240, 245, 246, 247, 248, 249, 86, 834, 835, 836, 837, 838, 839] (by decide +kernel) (by decide +kernel)
set_option maxRecDepth 20000 in
theorem gL_law_X8_set : GoodIn wsL_law (wsV RL 51 RX8 yX8_set wsX8_set) := goodIn_app (goodIn_of _ (by decide +kernel)) ggL_law_X8_set
set_option maxRecDepth 20000 in
theorem ggL_law_X7_drift : GoodIn wsL_law wsX7_drift := goodIn_r _ [585, 586, 485, 24, 15, 99, 100, 101, 2, 102, 19, 103, 104, 105, 106, 59, 107, 108, 109, 110, 18, 111, 77, 76, 13, 14, 97, 98, 25, 26, 27, 10, 11, 28, 29, 30, 31, 32, 33, 34, 35, 36, 37, 38, 39, 40, 41, 42, 43, 44, 45, 46, 47, 48, 49, 50, 51, 52, 53, 54, 55, 56, 57, 58, 60, 61, 62, 63, 64, 65, 66, 67, 68, 69, 70, 112, 113, 114, 115, 116, 117, 118, 119, 120, 121, 122, 123, 124, 125, 126, 127, 128, 129, 130, 131, 132, 133, 134, 135, 136, 137, 138, 139, 140, 141, 142, 143, 144, 145, 146, 587, 588, 589, 23, 590, 591, 592, 593, 594, 595, 596, 597, 598, 599, 600, 601, 481, 482, 483, 484, 94, 297, 95, 96, 320, 321, 322, 323, 324, 325, 326, 327, 196, 197, 198, 199, 195, 176, 177, 178, 328, 308, 309, 310, 486, 487, 488, 489, 191, 192, 193, 194, 490, 491, 492, 493, 494, 317, 318, 319, 175, 495, 496, 497, 498, 499, 500, 501, 502, 503, 504, 505, 506, 222, 156, 157, 158, 163, 164, 165, 166, 167, 168, 169, 170, 171, 172, 173, 174, 179, 180, 181, 182, 183, 184, 185, 186, 187, 188, 189, 190, 200, 201, 202, 203, 204, 205, 206, 207, 208, 209, 210, 211, 212, 213, 214, 215, 216, 217, 218, 219, 220, 221, 223, 224, 225, 226, 227, 160, 161, 162, 155, 602, 603, 604, 605, 293, 294, 295, 296, 298, 299, 300, 301, 302, 303, 304, 305, 306, 307, 311, 312, 313, 314, 315, 316, 329, 330, 331, 332, 333, 334, 335, 336, 337, 338, 339, 340, 341, 342, 343, 344, 345, 346, 347, 348, 349, 350, 351, 352, 353, 354, 355, 356, 606, 607, 608, 609, 408, 409, 410, 411, 412, 413, 414, 415, 416, 417, 418, 419, 420, 421, 422, 423, 424, 425, 426, 545, 546, 547, 548, 549, 550, 551, 552, 553, 828, 829, 830, 831, 832, 833, 840, 841, 842, 843, 846, 847, 848, 849, 844, 850, 851, 852, 853, 854, 855, 856, 857, 845] (by decide +kernel) (by decide +kernel)
set_option maxRecDepth 20000 in
theorem gL_law_X7_drift : GoodIn wsL_law (wsV RL 52 RX7 yX7_drift wsX7_drift) := goodIn_app (goodIn_of _ (by decide +kernel)) ggL_law_X7_drift
set_option maxRecDepth 20000 in
theorem ggL_law_X8_drift : GoodIn wsL_law wsX8_drift := goodIn_r _ [613, 580, 614, 511, 615, 85, 238, 239, 5, 240, 245, 246, 247, 248, 249, 86, 616, 617, 618, 619, 620, 621, 622, 623, 624, 625, 512, 513, 514, 515, 266, 267, 268, 269, 278, 279, 280, 281, 378, 379, 380, 381, 401, 402, 403, 516, 517, 518, 519, 254, 255, 256, 257, 258, 259, 260, 261, 262, 263, 264, 265, 270, 271, 272, 273, 274, 275, 276, 277, 282, 283, 284, 285, 286, 287, 288, 250, 251, 252, 253, 626, 627, 628, 629, 370, 371, 372, 373, 374, 375, 376, 377, 382, 383, 384, 385, 386, 387, 388, 389, 390, 391, 392, 393, 394, 395, 396, 397, 398, 399, 400, 431, 432, 433, 434, 439, 440, 441, 442, 559, 560, 561, 562, 834, 835, 836, 837, 838, 839] (by decide +kernel) (by decide +kernel)
set_option maxRecDepth 20000 in
theorem gL_law_X8_drift : GoodIn wsL_law (wsV RL 55 RX8 yX8_drift wsX8_drift) := goodIn_app (goodIn_of _ (by decide +kernel)) ggL_law_X8_drift
set_option maxRecDepth 20000 in
theorem ggL_law_X7_undo : GoodIn wsL_law wsX7_undo := goodIn_r _ [633, 104, 297, 103, 19, 15, 143, 144, 145, 146, 634, 635, 636, 18, 637, 77, 97, 2, 98, 112, 113, 114, 14, 115, 31, 35, 39, 116, 117, 118, 119, 30, 120, 121, 43, 44, 45, 122, 123, 124, 34, 125, 126, 52, 127, 128, 129, 51, 130, 64, 131, 106, 59, 107, 132, 133, 134, 135, 136, 137, 138, 38, 139, 140, 141, 69, 142, 828, 829, 830, 831, 832, 833, 844, 840, 841, 842, 843, 846, 847, 848, 849, 850, 851, 855, 856, 857, 852, 853, 854] (by decide +kernel) (by decide +kernel)
set_option maxRecDepth 20000 in
theorem gL_law_X7_undo : GoodIn wsL_law (wsV RL 56 RX7 yX7_undo wsX7_undo) := goodIn_app (goodIn_of _ (by decide +kernel)) ggL_law_X7_undo
set_option maxRecDepth 20000 in
theorem ggL_law_X8_undo : GoodIn wsL_law wsX8_undo := goodIn_r _ [641, 249, 361, 85, 86, 834, 835, 836, 837, 838, 839] (by decide +kernel) (by decide +kernel)
set_option maxRecDepth 20000 in
theorem gL_law_X8_undo : GoodIn wsL_law (wsV RL 60 RX8 yX8_undo wsX8_undo) := goodIn_app (goodIn_of _ (by decide +kernel)) ggL_law_X8_undo
set_option maxRecDepth 20000 in
theorem ggL_law_X7_told : GoodIn wsL_law wsX7_told := goodIn_r _ [645, 15, 104, 485, 646, 647, 648, 34, 649, 126, 196, 197, 198, 199, 52, 195, 176, 177, 51, 178, 61, 62, 64, 650, 651, 652, 38, 653, 140, 654, 530, 531, 532, 69, 175, 329, 330, 331, 332, 333, 334, 335, 655, 656, 657, 658, 423, 424, 425, 426, 659, 353, 354, 30, 355, 45, 356, 144, 145, 146, 828, 829, 830, 831, 832, 833, 840, 841, 842, 843, 846, 847, 848, 849, 850, 851, 852, 853, 854, 855, 856, 857] (by decide +kernel) (by decide +kernel)
set_option maxRecDepth 20000 in
theorem gL_law_X7_told : GoodIn wsL_law (wsV RL 61 RX7 yX7_told wsX7_told) := goodIn_app (goodIn_of _ (by decide +kernel)) ggL_law_X7_told
set_option maxRecDepth 20000 in
theorem ggL_law_X8_told : GoodIn wsL_law wsX8_told := goodIn_r _ [663, 85, 249, 511, 664, 665, 666, 5, 667, 278, 279, 280, 281, 668, 669, 670, 671, 266, 267, 268, 269, 382, 383, 384, 672, 673, 674, 675, 435, 436, 437, 438, 397, 398, 399, 400, 401, 402, 403, 834, 835, 836, 837, 838, 839] (by decide +kernel) (by decide +kernel)
set_option maxRecDepth 20000 in
theorem gL_law_X8_told : GoodIn wsL_law (wsV RL 64 RX8 yX8_told wsX8_told) := goodIn_app (goodIn_of _ (by decide +kernel)) ggL_law_X8_told
set_option maxRecDepth 20000 in
theorem ggL_law_X7_copyOf : GoodIn wsL_law wsX7_copyOf := goodIn_r _ [679, 94, 15, 485, 298, 299, 300, 2, 301, 96, 97, 98, 447, 192, 193, 34, 194, 52, 195, 176, 177, 51, 178, 61, 62, 64, 680, 201, 202, 203, 412, 197, 198, 199, 681, 308, 309, 310, 682, 424, 425, 426, 683, 419, 420, 421, 422, 106, 59, 107, 196, 423, 828, 829, 830, 831, 832, 833, 840, 841, 842, 843, 846, 847, 848, 849, 850, 851, 855, 856, 857] (by decide +kernel) (by decide +kernel)
set_option maxRecDepth 20000 in
theorem gL_law_X7_copyOf : GoodIn wsL_law (wsV RL 65 RX7 yX7_copyOf wsX7_copyOf) := goodIn_app (goodIn_of _ (by decide +kernel)) ggL_law_X7_copyOf
set_option maxRecDepth 20000 in
theorem ggL_law_X8_copyOf : GoodIn wsL_law wsX8_copyOf := goodIn_r _ [687, 232, 511, 362, 363, 364, 5, 365, 85, 238, 239, 240, 278, 279, 280, 281, 435, 436, 437, 438, 834, 835, 836, 837, 838, 839] (by decide +kernel) (by decide +kernel)
set_option maxRecDepth 20000 in
theorem gL_law_X8_copyOf : GoodIn wsL_law (wsV RL 68 RX8 yX8_copyOf wsX8_copyOf) := goodIn_app (goodIn_of _ (by decide +kernel)) ggL_law_X8_copyOf
set_option maxRecDepth 20000 in
theorem ggL_law_X7_holdOf : GoodIn wsL_law wsX7_holdOf := goodIn_r _ [691, 15, 94, 485, 524, 312, 313, 38, 314, 140, 315, 215, 216, 217, 69, 175, 176, 177, 51, 178, 61, 62, 64, 692, 317, 318, 319, 693, 496, 497, 498, 694, 184, 185, 186, 695, 180, 181, 182, 696, 697, 698, 699, 700, 701, 702, 14, 703, 39, 35, 529, 530, 531, 532, 306, 197, 198, 34, 199, 52, 195, 704, 705, 706, 707, 708, 495, 171, 172, 173, 174, 709, 710, 711, 712, 179, 713, 714, 715, 716, 31, 717, 718, 719, 720, 721, 722, 723, 126, 724, 725, 726, 727, 728, 729, 730, 731, 732, 733, 58, 59, 60, 191, 192, 193, 194, 196, 423, 424, 425, 426, 553, 828, 829, 830, 831, 832, 833, 840, 841, 842, 843, 852, 853, 854, 855, 856, 857, 850, 851, 846, 847, 848, 849] (by decide +kernel) (by decide +kernel)
set_option maxRecDepth 20000 in
theorem gL_law_X7_holdOf : GoodIn wsL_law (wsV RL 69 RX7 yX7_holdOf wsX7_holdOf) := goodIn_app (goodIn_of _ (by decide +kernel)) ggL_law_X7_holdOf
set_option maxRecDepth 20000 in
theorem ggL_law_X8_holdOf : GoodIn wsL_law wsX8_holdOf := goodIn_r _ [737, 232, 511, 374, 375, 376, 5, 377, 85, 266, 267, 268, 269, 537, 538, 539, 540, 278, 279, 280, 281, 738, 739, 740, 741, 262, 263, 264, 265, 270, 271, 272, 273, 742, 743, 744, 745, 746, 747, 748, 749, 750, 834, 835, 836, 837, 838, 839] (by decide +kernel) (by decide +kernel)
set_option maxRecDepth 20000 in
theorem gL_law_X8_holdOf : GoodIn wsL_law (wsV RL 72 RX8 yX8_holdOf wsX8_holdOf) := goodIn_app (goodIn_of _ (by decide +kernel)) ggL_law_X8_holdOf
set_option maxRecDepth 20000 in
theorem ggL_law_X7_titleOf : GoodIn wsL_law wsX7_titleOf := goodIn_r _ [754, 94, 15, 485, 96, 97, 2, 98, 486, 487, 488, 34, 489, 126, 191, 192, 193, 194, 52, 195, 176, 177, 51, 178, 61, 62, 64, 646, 647, 648, 649, 196, 197, 198, 199, 448, 449, 450, 38, 451, 140, 171, 172, 173, 174, 69, 175, 755, 168, 169, 170, 179, 180, 181, 182, 756, 215, 216, 217, 757, 758, 759, 760, 761, 58, 59, 60, 762, 697, 698, 699, 828, 829, 830, 831, 832, 833, 840, 841, 842, 843, 846, 847, 848, 849, 850, 851, 855, 856, 857, 852, 853, 854] (by decide +kernel) (by decide +kernel)
set_option maxRecDepth 20000 in
theorem gL_law_X7_titleOf : GoodIn wsL_law (wsV RL 73 RX7 yX7_titleOf wsX7_titleOf) := goodIn_app (goodIn_of _ (by decide +kernel)) ggL_law_X7_titleOf
set_option maxRecDepth 20000 in
theorem ggL_law_X8_titleOf : GoodIn wsL_law wsX8_titleOf := goodIn_r _ [766, 232, 511, 234, 235, 5, 236, 237, 238, 239, 240, 258, 259, 260, 261, 85, 262, 263, 264, 265, 266, 267, 268, 269, 270, 271, 272, 273, 767, 768, 769, 770, 278, 279, 280, 281, 461, 462, 463, 464, 771, 772, 773, 774, 834, 835, 836, 837, 838, 839] (by decide +kernel) (by decide +kernel)
set_option maxRecDepth 20000 in
theorem gL_law_X8_titleOf : GoodIn wsL_law (wsV RL 76 RX8 yX8_titleOf wsX8_titleOf) := goodIn_app (goodIn_of _ (by decide +kernel)) ggL_law_X8_titleOf
set_option maxRecDepth 20000 in
theorem ggL_law_X7_readerOf : GoodIn wsL_law wsX7_readerOf := goodIn_r _ [778, 94, 15, 485, 96, 97, 2, 98, 320, 321, 322, 34, 323, 126, 324, 325, 326, 327, 196, 197, 198, 199, 52, 195, 176, 177, 51, 178, 61, 62, 64, 328, 308, 309, 310, 779, 780, 781, 38, 782, 140, 494, 317, 318, 319, 69, 175, 783, 784, 785, 786, 733, 58, 59, 60, 423, 424, 425, 426, 787, 788, 789, 790, 791, 419, 420, 421, 422, 106, 107, 828, 829, 830, 831, 832, 833, 840, 841, 842, 843, 846, 847, 848, 849, 850, 851, 855, 856, 857, 852, 853, 854] (by decide +kernel) (by decide +kernel)
set_option maxRecDepth 20000 in
theorem gL_law_X7_readerOf : GoodIn wsL_law (wsV RL 77 RX7 yX7_readerOf wsX7_readerOf) := goodIn_app (goodIn_of _ (by decide +kernel)) ggL_law_X7_readerOf
set_option maxRecDepth 20000 in
theorem ggL_law_X8_readerOf : GoodIn wsL_law wsX8_readerOf := goodIn_r _ [795, 232, 511, 366, 367, 5, 368, 369, 238, 239, 240, 378, 379, 380, 381, 85, 278, 279, 280, 281, 796, 797, 798, 799, 266, 267, 268, 269, 800, 801, 802, 803, 401, 402, 403, 804, 805, 806, 807, 435, 436, 437, 438, 834, 835, 836, 837, 838, 839] (by decide +kernel) (by decide +kernel)
set_option maxRecDepth 20000 in
theorem gL_law_X8_readerOf : GoodIn wsL_law (wsV RL 80 RX8 yX8_readerOf wsX8_readerOf) := goodIn_app (goodIn_of _ (by decide +kernel)) ggL_law_X8_readerOf
set_option maxRecDepth 20000 in
theorem ggL_law_X7_keep : GoodIn wsL_law wsX7_keep := goodIn_r _ [811, 94, 20, 15, 104, 96, 97, 2, 98, 108, 109, 110, 18, 111, 77, 76, 13, 14, 25, 26, 27, 10, 11, 28, 29, 30, 31, 32, 33, 34, 35, 36, 37, 38, 39, 40, 41, 42, 43, 44, 45, 46, 47, 48, 49, 50, 51, 52, 53, 54, 55, 56, 57, 58, 59, 60, 61, 62, 63, 64, 65, 66, 67, 68, 69, 70, 112, 113, 114, 115, 116, 117, 118, 119, 120, 121, 122, 123, 124, 125, 126, 127, 128, 129, 130, 131, 106, 107, 132, 133, 134, 135, 136, 137, 138, 139, 140, 141, 142, 828, 829, 830, 831, 832, 833, 840, 841, 842, 843, 846, 847, 848, 849, 844, 850, 851, 852, 853, 854, 855, 856, 857] (by decide +kernel) (by decide +kernel)
set_option maxRecDepth 20000 in
theorem gL_law_X7_keep : GoodIn wsL_law (wsV RL 81 RX7 yX7_keep wsX7_keep) := goodIn_app (goodIn_of _ (by decide +kernel)) ggL_law_X7_keep
set_option maxRecDepth 20000 in
theorem ggL_law_X8_keep : GoodIn wsL_law wsX8_keep := goodIn_r _ [815, 232, 87, 85, 89, 249, 238, 239, 5, 240, 834, 835, 836, 837, 838, 839] (by decide +kernel) (by decide +kernel)
set_option maxRecDepth 20000 in
theorem gL_law_X8_keep : GoodIn wsL_law (wsV RL 84 RX8 yX8_keep wsX8_keep) := goodIn_app (goodIn_of _ (by decide +kernel)) ggL_law_X8_keep
set_option maxRecDepth 20000 in
theorem ggL_law_X7_goBack : GoodIn wsL_law wsX7_goBack := goodIn_r _ [819, 94, 20, 297, 15, 104, 96, 97, 2, 98, 820, 821, 822, 18, 823, 77, 634, 635, 636, 637, 112, 113, 114, 14, 115, 31, 35, 39, 116, 117, 118, 119, 30, 120, 121, 43, 44, 45, 122, 123, 124, 34, 125, 126, 52, 127, 128, 129, 51, 130, 64, 131, 106, 59, 107, 132, 133, 134, 135, 136, 137, 138, 38, 139, 140, 141, 69, 142, 828, 829, 830, 831, 832, 833, 840, 841, 842, 843, 846, 847, 848, 849, 844, 850, 851, 855, 856, 857, 852, 853, 854] (by decide +kernel) (by decide +kernel)
set_option maxRecDepth 20000 in
theorem gL_law_X7_goBack : GoodIn wsL_law (wsV RL 85 RX7 yX7_goBack wsX7_goBack) := goodIn_app (goodIn_of _ (by decide +kernel)) ggL_law_X7_goBack
set_option maxRecDepth 20000 in
theorem ggL_law_X8_goBack : GoodIn wsL_law wsX8_goBack := goodIn_r _ [827, 232, 89, 361, 85, 87, 249, 238, 239, 5, 240, 834, 835, 836, 837, 838, 839] (by decide +kernel) (by decide +kernel)
set_option maxRecDepth 20000 in
theorem gL_law_X8_goBack : GoodIn wsL_law (wsV RL 88 RX8 yX8_goBack wsX8_goBack) := goodIn_app (goodIn_of _ (by decide +kernel)) ggL_law_X8_goBack
theorem dL_law_0 : decode cL_law 0 = .ok (.new 7, 3) := by decide +kernel
theorem dL_law_3 : decode cL_law 3 = .ok (.dup, 1) := by decide +kernel
theorem dL_law_4 : decode cL_law 4 = .ok (.invokespecial 9, 3) := by decide +kernel
theorem dL_law_7 : decode cL_law 7 = .ok (.astore_n 1, 1) := by decide +kernel
theorem dL_law_8 : decode cL_law 8 = .ok (.new 10, 3) := by decide +kernel
theorem dL_law_11 : decode cL_law 11 = .ok (.dup, 1) := by decide +kernel
theorem dL_law_12 : decode cL_law 12 = .ok (.invokespecial 12, 3) := by decide +kernel
theorem dL_law_15 : decode cL_law 15 = .ok (.astore_n 2, 1) := by decide +kernel
theorem dL_law_16 : decode cL_law 16 = .ok (.iconst 0, 1) := by decide +kernel
theorem dL_law_17 : decode cL_law 17 = .ok (.istore_n 3, 1) := by decide +kernel
theorem dL_law_18 : decode cL_law 18 = .ok (.iload_n 3, 1) := by decide +kernel
theorem dL_law_19 : decode cL_law 19 = .ok (.aload_n 0, 1) := by decide +kernel
theorem dL_law_20 : decode cL_law 20 = .ok (.arraylength, 1) := by decide +kernel
theorem dL_law_21 : decode cL_law 21 = .ok (.iconst 5, 1) := by decide +kernel
theorem dL_law_22 : decode cL_law 22 = .ok (.isub, 1) := by decide +kernel
theorem dL_law_23 : decode cL_law 23 = .ok (.if_icmp .gt 627, 3) := by decide +kernel
theorem dL_law_26 : decode cL_law 26 = .ok (.aload_n 0, 1) := by decide +kernel
theorem dL_law_27 : decode cL_law 27 = .ok (.iload_n 3, 1) := by decide +kernel
theorem dL_law_28 : decode cL_law 28 = .ok (.iaload, 1) := by decide +kernel
theorem dL_law_29 : decode cL_law 29 = .ok (.bipush 31, 2) := by decide +kernel
theorem dL_law_31 : decode cL_law 31 = .ok (.iand, 1) := by decide +kernel
theorem dL_law_32 : decode cL_law 32 = .ok (.tableswitch 612 0 17 #[88, 121, 154, 187, 210, 233, 286, 309, 332, 365, 398, 411, 434, 467, 500, 533, 566, 589], 88) := by decide +kernel
theorem dL_law_120 : decode cL_law 120 = .ok (.aload_n 1, 1) := by decide +kernel
theorem dL_law_121 : decode cL_law 121 = .ok (.aload_n 0, 1) := by decide +kernel
theorem dL_law_122 : decode cL_law 122 = .ok (.iload_n 3, 1) := by decide +kernel
theorem dL_law_123 : decode cL_law 123 = .ok (.iconst 1, 1) := by decide +kernel
theorem dL_law_124 : decode cL_law 124 = .ok (.iadd, 1) := by decide +kernel
theorem dL_law_125 : decode cL_law 125 = .ok (.iaload, 1) := by decide +kernel
theorem dL_law_126 : decode cL_law 126 = .ok (.aload_n 0, 1) := by decide +kernel
theorem dL_law_127 : decode cL_law 127 = .ok (.iload_n 3, 1) := by decide +kernel
theorem dL_law_128 : decode cL_law 128 = .ok (.iconst 2, 1) := by decide +kernel
theorem dL_law_129 : decode cL_law 129 = .ok (.iadd, 1) := by decide +kernel
theorem dL_law_130 : decode cL_law 130 = .ok (.iaload, 1) := by decide +kernel
theorem dL_law_131 : decode cL_law 131 = .ok (.invokevirtual 13, 3) := by decide +kernel
theorem dL_law_134 : decode cL_law 134 = .ok (.aload_n 2, 1) := by decide +kernel
theorem dL_law_135 : decode cL_law 135 = .ok (.aload_n 0, 1) := by decide +kernel
theorem dL_law_136 : decode cL_law 136 = .ok (.iload_n 3, 1) := by decide +kernel
theorem dL_law_137 : decode cL_law 137 = .ok (.iconst 1, 1) := by decide +kernel
theorem dL_law_138 : decode cL_law 138 = .ok (.iadd, 1) := by decide +kernel
theorem dL_law_139 : decode cL_law 139 = .ok (.iaload, 1) := by decide +kernel
theorem dL_law_140 : decode cL_law 140 = .ok (.aload_n 0, 1) := by decide +kernel
theorem dL_law_141 : decode cL_law 141 = .ok (.iload_n 3, 1) := by decide +kernel
theorem dL_law_142 : decode cL_law 142 = .ok (.iconst 2, 1) := by decide +kernel
theorem dL_law_143 : decode cL_law 143 = .ok (.iadd, 1) := by decide +kernel
theorem dL_law_144 : decode cL_law 144 = .ok (.iaload, 1) := by decide +kernel
theorem dL_law_145 : decode cL_law 145 = .ok (.invokevirtual 17, 3) := by decide +kernel
theorem dL_law_148 : decode cL_law 148 = .ok (.if_icmp .eq 496, 3) := by decide +kernel
theorem dL_law_151 : decode cL_law 151 = .ok (.iconst 0, 1) := by decide +kernel
theorem dL_law_152 : decode cL_law 152 = .ok (.ireturn, 1) := by decide +kernel
theorem dL_law_153 : decode cL_law 153 = .ok (.aload_n 1, 1) := by decide +kernel
theorem dL_law_154 : decode cL_law 154 = .ok (.aload_n 0, 1) := by decide +kernel
theorem dL_law_155 : decode cL_law 155 = .ok (.iload_n 3, 1) := by decide +kernel
theorem dL_law_156 : decode cL_law 156 = .ok (.iconst 1, 1) := by decide +kernel
theorem dL_law_157 : decode cL_law 157 = .ok (.iadd, 1) := by decide +kernel
theorem dL_law_158 : decode cL_law 158 = .ok (.iaload, 1) := by decide +kernel
theorem dL_law_159 : decode cL_law 159 = .ok (.aload_n 0, 1) := by decide +kernel
theorem dL_law_160 : decode cL_law 160 = .ok (.iload_n 3, 1) := by decide +kernel
theorem dL_law_161 : decode cL_law 161 = .ok (.iconst 2, 1) := by decide +kernel
theorem dL_law_162 : decode cL_law 162 = .ok (.iadd, 1) := by decide +kernel
theorem dL_law_163 : decode cL_law 163 = .ok (.iaload, 1) := by decide +kernel
theorem dL_law_164 : decode cL_law 164 = .ok (.invokevirtual 18, 3) := by decide +kernel
theorem dL_law_167 : decode cL_law 167 = .ok (.aload_n 2, 1) := by decide +kernel
theorem dL_law_168 : decode cL_law 168 = .ok (.aload_n 0, 1) := by decide +kernel
theorem dL_law_169 : decode cL_law 169 = .ok (.iload_n 3, 1) := by decide +kernel
theorem dL_law_170 : decode cL_law 170 = .ok (.iconst 1, 1) := by decide +kernel
theorem dL_law_171 : decode cL_law 171 = .ok (.iadd, 1) := by decide +kernel
theorem dL_law_172 : decode cL_law 172 = .ok (.iaload, 1) := by decide +kernel
theorem dL_law_173 : decode cL_law 173 = .ok (.aload_n 0, 1) := by decide +kernel
theorem dL_law_174 : decode cL_law 174 = .ok (.iload_n 3, 1) := by decide +kernel
theorem dL_law_175 : decode cL_law 175 = .ok (.iconst 2, 1) := by decide +kernel
theorem dL_law_176 : decode cL_law 176 = .ok (.iadd, 1) := by decide +kernel
theorem dL_law_177 : decode cL_law 177 = .ok (.iaload, 1) := by decide +kernel
theorem dL_law_178 : decode cL_law 178 = .ok (.invokevirtual 21, 3) := by decide +kernel
theorem dL_law_181 : decode cL_law 181 = .ok (.if_icmp .eq 463, 3) := by decide +kernel
theorem dL_law_184 : decode cL_law 184 = .ok (.iconst 0, 1) := by decide +kernel
theorem dL_law_185 : decode cL_law 185 = .ok (.ireturn, 1) := by decide +kernel
theorem dL_law_186 : decode cL_law 186 = .ok (.aload_n 1, 1) := by decide +kernel
theorem dL_law_187 : decode cL_law 187 = .ok (.aload_n 0, 1) := by decide +kernel
theorem dL_law_188 : decode cL_law 188 = .ok (.iload_n 3, 1) := by decide +kernel
theorem dL_law_189 : decode cL_law 189 = .ok (.iconst 1, 1) := by decide +kernel
theorem dL_law_190 : decode cL_law 190 = .ok (.iadd, 1) := by decide +kernel
theorem dL_law_191 : decode cL_law 191 = .ok (.iaload, 1) := by decide +kernel
theorem dL_law_192 : decode cL_law 192 = .ok (.aload_n 0, 1) := by decide +kernel
theorem dL_law_193 : decode cL_law 193 = .ok (.iload_n 3, 1) := by decide +kernel
theorem dL_law_194 : decode cL_law 194 = .ok (.iconst 2, 1) := by decide +kernel
theorem dL_law_195 : decode cL_law 195 = .ok (.iadd, 1) := by decide +kernel
theorem dL_law_196 : decode cL_law 196 = .ok (.iaload, 1) := by decide +kernel
theorem dL_law_197 : decode cL_law 197 = .ok (.invokevirtual 22, 3) := by decide +kernel
theorem dL_law_200 : decode cL_law 200 = .ok (.aload_n 2, 1) := by decide +kernel
theorem dL_law_201 : decode cL_law 201 = .ok (.aload_n 0, 1) := by decide +kernel
theorem dL_law_202 : decode cL_law 202 = .ok (.iload_n 3, 1) := by decide +kernel
theorem dL_law_203 : decode cL_law 203 = .ok (.iconst 1, 1) := by decide +kernel
theorem dL_law_204 : decode cL_law 204 = .ok (.iadd, 1) := by decide +kernel
theorem dL_law_205 : decode cL_law 205 = .ok (.iaload, 1) := by decide +kernel
theorem dL_law_206 : decode cL_law 206 = .ok (.aload_n 0, 1) := by decide +kernel
theorem dL_law_207 : decode cL_law 207 = .ok (.iload_n 3, 1) := by decide +kernel
theorem dL_law_208 : decode cL_law 208 = .ok (.iconst 2, 1) := by decide +kernel
theorem dL_law_209 : decode cL_law 209 = .ok (.iadd, 1) := by decide +kernel
theorem dL_law_210 : decode cL_law 210 = .ok (.iaload, 1) := by decide +kernel
theorem dL_law_211 : decode cL_law 211 = .ok (.invokevirtual 25, 3) := by decide +kernel
theorem dL_law_214 : decode cL_law 214 = .ok (.if_icmp .eq 430, 3) := by decide +kernel
theorem dL_law_217 : decode cL_law 217 = .ok (.iconst 0, 1) := by decide +kernel
theorem dL_law_218 : decode cL_law 218 = .ok (.ireturn, 1) := by decide +kernel
theorem dL_law_219 : decode cL_law 219 = .ok (.aload_n 1, 1) := by decide +kernel
theorem dL_law_220 : decode cL_law 220 = .ok (.aload_n 0, 1) := by decide +kernel
theorem dL_law_221 : decode cL_law 221 = .ok (.iload_n 3, 1) := by decide +kernel
theorem dL_law_222 : decode cL_law 222 = .ok (.iconst 1, 1) := by decide +kernel
theorem dL_law_223 : decode cL_law 223 = .ok (.iadd, 1) := by decide +kernel
theorem dL_law_224 : decode cL_law 224 = .ok (.iaload, 1) := by decide +kernel
theorem dL_law_225 : decode cL_law 225 = .ok (.invokevirtual 26, 3) := by decide +kernel
theorem dL_law_228 : decode cL_law 228 = .ok (.aload_n 2, 1) := by decide +kernel
theorem dL_law_229 : decode cL_law 229 = .ok (.aload_n 0, 1) := by decide +kernel
theorem dL_law_230 : decode cL_law 230 = .ok (.iload_n 3, 1) := by decide +kernel
theorem dL_law_231 : decode cL_law 231 = .ok (.iconst 1, 1) := by decide +kernel
theorem dL_law_232 : decode cL_law 232 = .ok (.iadd, 1) := by decide +kernel
theorem dL_law_233 : decode cL_law 233 = .ok (.iaload, 1) := by decide +kernel
theorem dL_law_234 : decode cL_law 234 = .ok (.invokevirtual 30, 3) := by decide +kernel
theorem dL_law_237 : decode cL_law 237 = .ok (.if_icmp .eq 407, 3) := by decide +kernel
theorem dL_law_240 : decode cL_law 240 = .ok (.iconst 0, 1) := by decide +kernel
theorem dL_law_241 : decode cL_law 241 = .ok (.ireturn, 1) := by decide +kernel
theorem dL_law_242 : decode cL_law 242 = .ok (.aload_n 1, 1) := by decide +kernel
theorem dL_law_243 : decode cL_law 243 = .ok (.aload_n 0, 1) := by decide +kernel
theorem dL_law_244 : decode cL_law 244 = .ok (.iload_n 3, 1) := by decide +kernel
theorem dL_law_245 : decode cL_law 245 = .ok (.iconst 1, 1) := by decide +kernel
theorem dL_law_246 : decode cL_law 246 = .ok (.iadd, 1) := by decide +kernel
theorem dL_law_247 : decode cL_law 247 = .ok (.iaload, 1) := by decide +kernel
theorem dL_law_248 : decode cL_law 248 = .ok (.invokevirtual 31, 3) := by decide +kernel
theorem dL_law_251 : decode cL_law 251 = .ok (.aload_n 2, 1) := by decide +kernel
theorem dL_law_252 : decode cL_law 252 = .ok (.aload_n 0, 1) := by decide +kernel
theorem dL_law_253 : decode cL_law 253 = .ok (.iload_n 3, 1) := by decide +kernel
theorem dL_law_254 : decode cL_law 254 = .ok (.iconst 1, 1) := by decide +kernel
theorem dL_law_255 : decode cL_law 255 = .ok (.iadd, 1) := by decide +kernel
theorem dL_law_256 : decode cL_law 256 = .ok (.iaload, 1) := by decide +kernel
theorem dL_law_257 : decode cL_law 257 = .ok (.invokevirtual 34, 3) := by decide +kernel
theorem dL_law_260 : decode cL_law 260 = .ok (.if_icmp .eq 384, 3) := by decide +kernel
theorem dL_law_263 : decode cL_law 263 = .ok (.iconst 0, 1) := by decide +kernel
theorem dL_law_264 : decode cL_law 264 = .ok (.ireturn, 1) := by decide +kernel
theorem dL_law_265 : decode cL_law 265 = .ok (.aload_n 1, 1) := by decide +kernel
theorem dL_law_266 : decode cL_law 266 = .ok (.aload_n 0, 1) := by decide +kernel
theorem dL_law_267 : decode cL_law 267 = .ok (.iload_n 3, 1) := by decide +kernel
theorem dL_law_268 : decode cL_law 268 = .ok (.iconst 1, 1) := by decide +kernel
theorem dL_law_269 : decode cL_law 269 = .ok (.iadd, 1) := by decide +kernel
theorem dL_law_270 : decode cL_law 270 = .ok (.iaload, 1) := by decide +kernel
theorem dL_law_271 : decode cL_law 271 = .ok (.aload_n 0, 1) := by decide +kernel
theorem dL_law_272 : decode cL_law 272 = .ok (.iload_n 3, 1) := by decide +kernel
theorem dL_law_273 : decode cL_law 273 = .ok (.iconst 2, 1) := by decide +kernel
theorem dL_law_274 : decode cL_law 274 = .ok (.iadd, 1) := by decide +kernel
theorem dL_law_275 : decode cL_law 275 = .ok (.iaload, 1) := by decide +kernel
theorem dL_law_276 : decode cL_law 276 = .ok (.aload_n 0, 1) := by decide +kernel
theorem dL_law_277 : decode cL_law 277 = .ok (.iload_n 3, 1) := by decide +kernel
theorem dL_law_278 : decode cL_law 278 = .ok (.iconst 3, 1) := by decide +kernel
theorem dL_law_279 : decode cL_law 279 = .ok (.iadd, 1) := by decide +kernel
theorem dL_law_280 : decode cL_law 280 = .ok (.iaload, 1) := by decide +kernel
theorem dL_law_281 : decode cL_law 281 = .ok (.aload_n 0, 1) := by decide +kernel
theorem dL_law_282 : decode cL_law 282 = .ok (.iload_n 3, 1) := by decide +kernel
theorem dL_law_283 : decode cL_law 283 = .ok (.iconst 4, 1) := by decide +kernel
theorem dL_law_284 : decode cL_law 284 = .ok (.iadd, 1) := by decide +kernel
theorem dL_law_285 : decode cL_law 285 = .ok (.iaload, 1) := by decide +kernel
theorem dL_law_286 : decode cL_law 286 = .ok (.invokevirtual 35, 3) := by decide +kernel
theorem dL_law_289 : decode cL_law 289 = .ok (.aload_n 2, 1) := by decide +kernel
theorem dL_law_290 : decode cL_law 290 = .ok (.aload_n 0, 1) := by decide +kernel
theorem dL_law_291 : decode cL_law 291 = .ok (.iload_n 3, 1) := by decide +kernel
theorem dL_law_292 : decode cL_law 292 = .ok (.iconst 1, 1) := by decide +kernel
theorem dL_law_293 : decode cL_law 293 = .ok (.iadd, 1) := by decide +kernel
theorem dL_law_294 : decode cL_law 294 = .ok (.iaload, 1) := by decide +kernel
theorem dL_law_295 : decode cL_law 295 = .ok (.aload_n 0, 1) := by decide +kernel
theorem dL_law_296 : decode cL_law 296 = .ok (.iload_n 3, 1) := by decide +kernel
theorem dL_law_297 : decode cL_law 297 = .ok (.iconst 2, 1) := by decide +kernel
theorem dL_law_298 : decode cL_law 298 = .ok (.iadd, 1) := by decide +kernel
theorem dL_law_299 : decode cL_law 299 = .ok (.iaload, 1) := by decide +kernel
theorem dL_law_300 : decode cL_law 300 = .ok (.aload_n 0, 1) := by decide +kernel
theorem dL_law_301 : decode cL_law 301 = .ok (.iload_n 3, 1) := by decide +kernel
theorem dL_law_302 : decode cL_law 302 = .ok (.iconst 3, 1) := by decide +kernel
theorem dL_law_303 : decode cL_law 303 = .ok (.iadd, 1) := by decide +kernel
theorem dL_law_304 : decode cL_law 304 = .ok (.iaload, 1) := by decide +kernel
theorem dL_law_305 : decode cL_law 305 = .ok (.aload_n 0, 1) := by decide +kernel
theorem dL_law_306 : decode cL_law 306 = .ok (.iload_n 3, 1) := by decide +kernel
theorem dL_law_307 : decode cL_law 307 = .ok (.iconst 4, 1) := by decide +kernel
theorem dL_law_308 : decode cL_law 308 = .ok (.iadd, 1) := by decide +kernel
theorem dL_law_309 : decode cL_law 309 = .ok (.iaload, 1) := by decide +kernel
theorem dL_law_310 : decode cL_law 310 = .ok (.invokevirtual 39, 3) := by decide +kernel
theorem dL_law_313 : decode cL_law 313 = .ok (.if_icmp .eq 331, 3) := by decide +kernel
theorem dL_law_316 : decode cL_law 316 = .ok (.iconst 0, 1) := by decide +kernel
theorem dL_law_317 : decode cL_law 317 = .ok (.ireturn, 1) := by decide +kernel
theorem dL_law_318 : decode cL_law 318 = .ok (.aload_n 1, 1) := by decide +kernel
theorem dL_law_319 : decode cL_law 319 = .ok (.aload_n 0, 1) := by decide +kernel
theorem dL_law_320 : decode cL_law 320 = .ok (.iload_n 3, 1) := by decide +kernel
theorem dL_law_321 : decode cL_law 321 = .ok (.iconst 1, 1) := by decide +kernel
theorem dL_law_322 : decode cL_law 322 = .ok (.iadd, 1) := by decide +kernel
theorem dL_law_323 : decode cL_law 323 = .ok (.iaload, 1) := by decide +kernel
theorem dL_law_324 : decode cL_law 324 = .ok (.invokevirtual 40, 3) := by decide +kernel
theorem dL_law_327 : decode cL_law 327 = .ok (.aload_n 2, 1) := by decide +kernel
theorem dL_law_328 : decode cL_law 328 = .ok (.aload_n 0, 1) := by decide +kernel
theorem dL_law_329 : decode cL_law 329 = .ok (.iload_n 3, 1) := by decide +kernel
theorem dL_law_330 : decode cL_law 330 = .ok (.iconst 1, 1) := by decide +kernel
theorem dL_law_331 : decode cL_law 331 = .ok (.iadd, 1) := by decide +kernel
theorem dL_law_332 : decode cL_law 332 = .ok (.iaload, 1) := by decide +kernel
theorem dL_law_333 : decode cL_law 333 = .ok (.invokevirtual 43, 3) := by decide +kernel
theorem dL_law_336 : decode cL_law 336 = .ok (.if_icmp .eq 308, 3) := by decide +kernel
theorem dL_law_339 : decode cL_law 339 = .ok (.iconst 0, 1) := by decide +kernel
theorem dL_law_340 : decode cL_law 340 = .ok (.ireturn, 1) := by decide +kernel
theorem dL_law_341 : decode cL_law 341 = .ok (.aload_n 1, 1) := by decide +kernel
theorem dL_law_342 : decode cL_law 342 = .ok (.aload_n 0, 1) := by decide +kernel
theorem dL_law_343 : decode cL_law 343 = .ok (.iload_n 3, 1) := by decide +kernel
theorem dL_law_344 : decode cL_law 344 = .ok (.iconst 1, 1) := by decide +kernel
theorem dL_law_345 : decode cL_law 345 = .ok (.iadd, 1) := by decide +kernel
theorem dL_law_346 : decode cL_law 346 = .ok (.iaload, 1) := by decide +kernel
theorem dL_law_347 : decode cL_law 347 = .ok (.invokevirtual 44, 3) := by decide +kernel
theorem dL_law_350 : decode cL_law 350 = .ok (.aload_n 2, 1) := by decide +kernel
theorem dL_law_351 : decode cL_law 351 = .ok (.aload_n 0, 1) := by decide +kernel
theorem dL_law_352 : decode cL_law 352 = .ok (.iload_n 3, 1) := by decide +kernel
theorem dL_law_353 : decode cL_law 353 = .ok (.iconst 1, 1) := by decide +kernel
theorem dL_law_354 : decode cL_law 354 = .ok (.iadd, 1) := by decide +kernel
theorem dL_law_355 : decode cL_law 355 = .ok (.iaload, 1) := by decide +kernel
theorem dL_law_356 : decode cL_law 356 = .ok (.invokevirtual 47, 3) := by decide +kernel
theorem dL_law_359 : decode cL_law 359 = .ok (.if_icmp .eq 285, 3) := by decide +kernel
theorem dL_law_362 : decode cL_law 362 = .ok (.iconst 0, 1) := by decide +kernel
theorem dL_law_363 : decode cL_law 363 = .ok (.ireturn, 1) := by decide +kernel
theorem dL_law_364 : decode cL_law 364 = .ok (.aload_n 1, 1) := by decide +kernel
theorem dL_law_365 : decode cL_law 365 = .ok (.aload_n 0, 1) := by decide +kernel
theorem dL_law_366 : decode cL_law 366 = .ok (.iload_n 3, 1) := by decide +kernel
theorem dL_law_367 : decode cL_law 367 = .ok (.iconst 1, 1) := by decide +kernel
theorem dL_law_368 : decode cL_law 368 = .ok (.iadd, 1) := by decide +kernel
theorem dL_law_369 : decode cL_law 369 = .ok (.iaload, 1) := by decide +kernel
theorem dL_law_370 : decode cL_law 370 = .ok (.aload_n 0, 1) := by decide +kernel
theorem dL_law_371 : decode cL_law 371 = .ok (.iload_n 3, 1) := by decide +kernel
theorem dL_law_372 : decode cL_law 372 = .ok (.iconst 2, 1) := by decide +kernel
theorem dL_law_373 : decode cL_law 373 = .ok (.iadd, 1) := by decide +kernel
theorem dL_law_374 : decode cL_law 374 = .ok (.iaload, 1) := by decide +kernel
theorem dL_law_375 : decode cL_law 375 = .ok (.invokevirtual 48, 3) := by decide +kernel
theorem dL_law_378 : decode cL_law 378 = .ok (.aload_n 2, 1) := by decide +kernel
theorem dL_law_379 : decode cL_law 379 = .ok (.aload_n 0, 1) := by decide +kernel
theorem dL_law_380 : decode cL_law 380 = .ok (.iload_n 3, 1) := by decide +kernel
theorem dL_law_381 : decode cL_law 381 = .ok (.iconst 1, 1) := by decide +kernel
theorem dL_law_382 : decode cL_law 382 = .ok (.iadd, 1) := by decide +kernel
theorem dL_law_383 : decode cL_law 383 = .ok (.iaload, 1) := by decide +kernel
theorem dL_law_384 : decode cL_law 384 = .ok (.aload_n 0, 1) := by decide +kernel
theorem dL_law_385 : decode cL_law 385 = .ok (.iload_n 3, 1) := by decide +kernel
theorem dL_law_386 : decode cL_law 386 = .ok (.iconst 2, 1) := by decide +kernel
theorem dL_law_387 : decode cL_law 387 = .ok (.iadd, 1) := by decide +kernel
theorem dL_law_388 : decode cL_law 388 = .ok (.iaload, 1) := by decide +kernel
theorem dL_law_389 : decode cL_law 389 = .ok (.invokevirtual 51, 3) := by decide +kernel
theorem dL_law_392 : decode cL_law 392 = .ok (.if_icmp .eq 252, 3) := by decide +kernel
theorem dL_law_395 : decode cL_law 395 = .ok (.iconst 0, 1) := by decide +kernel
theorem dL_law_396 : decode cL_law 396 = .ok (.ireturn, 1) := by decide +kernel
theorem dL_law_397 : decode cL_law 397 = .ok (.aload_n 1, 1) := by decide +kernel
theorem dL_law_398 : decode cL_law 398 = .ok (.aload_n 0, 1) := by decide +kernel
theorem dL_law_399 : decode cL_law 399 = .ok (.iload_n 3, 1) := by decide +kernel
theorem dL_law_400 : decode cL_law 400 = .ok (.iconst 1, 1) := by decide +kernel
theorem dL_law_401 : decode cL_law 401 = .ok (.iadd, 1) := by decide +kernel
theorem dL_law_402 : decode cL_law 402 = .ok (.iaload, 1) := by decide +kernel
theorem dL_law_403 : decode cL_law 403 = .ok (.aload_n 0, 1) := by decide +kernel
theorem dL_law_404 : decode cL_law 404 = .ok (.iload_n 3, 1) := by decide +kernel
theorem dL_law_405 : decode cL_law 405 = .ok (.iconst 2, 1) := by decide +kernel
theorem dL_law_406 : decode cL_law 406 = .ok (.iadd, 1) := by decide +kernel
theorem dL_law_407 : decode cL_law 407 = .ok (.iaload, 1) := by decide +kernel
theorem dL_law_408 : decode cL_law 408 = .ok (.invokevirtual 52, 3) := by decide +kernel
theorem dL_law_411 : decode cL_law 411 = .ok (.aload_n 2, 1) := by decide +kernel
theorem dL_law_412 : decode cL_law 412 = .ok (.aload_n 0, 1) := by decide +kernel
theorem dL_law_413 : decode cL_law 413 = .ok (.iload_n 3, 1) := by decide +kernel
theorem dL_law_414 : decode cL_law 414 = .ok (.iconst 1, 1) := by decide +kernel
theorem dL_law_415 : decode cL_law 415 = .ok (.iadd, 1) := by decide +kernel
theorem dL_law_416 : decode cL_law 416 = .ok (.iaload, 1) := by decide +kernel
theorem dL_law_417 : decode cL_law 417 = .ok (.aload_n 0, 1) := by decide +kernel
theorem dL_law_418 : decode cL_law 418 = .ok (.iload_n 3, 1) := by decide +kernel
theorem dL_law_419 : decode cL_law 419 = .ok (.iconst 2, 1) := by decide +kernel
theorem dL_law_420 : decode cL_law 420 = .ok (.iadd, 1) := by decide +kernel
theorem dL_law_421 : decode cL_law 421 = .ok (.iaload, 1) := by decide +kernel
theorem dL_law_422 : decode cL_law 422 = .ok (.invokevirtual 55, 3) := by decide +kernel
theorem dL_law_425 : decode cL_law 425 = .ok (.if_icmp .eq 219, 3) := by decide +kernel
theorem dL_law_428 : decode cL_law 428 = .ok (.iconst 0, 1) := by decide +kernel
theorem dL_law_429 : decode cL_law 429 = .ok (.ireturn, 1) := by decide +kernel
theorem dL_law_430 : decode cL_law 430 = .ok (.aload_n 1, 1) := by decide +kernel
theorem dL_law_431 : decode cL_law 431 = .ok (.invokevirtual 56, 3) := by decide +kernel
theorem dL_law_434 : decode cL_law 434 = .ok (.aload_n 2, 1) := by decide +kernel
theorem dL_law_435 : decode cL_law 435 = .ok (.invokevirtual 60, 3) := by decide +kernel
theorem dL_law_438 : decode cL_law 438 = .ok (.if_icmp .eq 206, 3) := by decide +kernel
theorem dL_law_441 : decode cL_law 441 = .ok (.iconst 0, 1) := by decide +kernel
theorem dL_law_442 : decode cL_law 442 = .ok (.ireturn, 1) := by decide +kernel
theorem dL_law_443 : decode cL_law 443 = .ok (.aload_n 1, 1) := by decide +kernel
theorem dL_law_444 : decode cL_law 444 = .ok (.aload_n 0, 1) := by decide +kernel
theorem dL_law_445 : decode cL_law 445 = .ok (.iload_n 3, 1) := by decide +kernel
theorem dL_law_446 : decode cL_law 446 = .ok (.iconst 1, 1) := by decide +kernel
theorem dL_law_447 : decode cL_law 447 = .ok (.iadd, 1) := by decide +kernel
theorem dL_law_448 : decode cL_law 448 = .ok (.iaload, 1) := by decide +kernel
theorem dL_law_449 : decode cL_law 449 = .ok (.invokevirtual 61, 3) := by decide +kernel
theorem dL_law_452 : decode cL_law 452 = .ok (.aload_n 2, 1) := by decide +kernel
theorem dL_law_453 : decode cL_law 453 = .ok (.aload_n 0, 1) := by decide +kernel
theorem dL_law_454 : decode cL_law 454 = .ok (.iload_n 3, 1) := by decide +kernel
theorem dL_law_455 : decode cL_law 455 = .ok (.iconst 1, 1) := by decide +kernel
theorem dL_law_456 : decode cL_law 456 = .ok (.iadd, 1) := by decide +kernel
theorem dL_law_457 : decode cL_law 457 = .ok (.iaload, 1) := by decide +kernel
theorem dL_law_458 : decode cL_law 458 = .ok (.invokevirtual 64, 3) := by decide +kernel
theorem dL_law_461 : decode cL_law 461 = .ok (.if_icmp .eq 183, 3) := by decide +kernel
theorem dL_law_464 : decode cL_law 464 = .ok (.iconst 0, 1) := by decide +kernel
theorem dL_law_465 : decode cL_law 465 = .ok (.ireturn, 1) := by decide +kernel
theorem dL_law_466 : decode cL_law 466 = .ok (.aload_n 1, 1) := by decide +kernel
theorem dL_law_467 : decode cL_law 467 = .ok (.aload_n 0, 1) := by decide +kernel
theorem dL_law_468 : decode cL_law 468 = .ok (.iload_n 3, 1) := by decide +kernel
theorem dL_law_469 : decode cL_law 469 = .ok (.iconst 1, 1) := by decide +kernel
theorem dL_law_470 : decode cL_law 470 = .ok (.iadd, 1) := by decide +kernel
theorem dL_law_471 : decode cL_law 471 = .ok (.iaload, 1) := by decide +kernel
theorem dL_law_472 : decode cL_law 472 = .ok (.aload_n 0, 1) := by decide +kernel
theorem dL_law_473 : decode cL_law 473 = .ok (.iload_n 3, 1) := by decide +kernel
theorem dL_law_474 : decode cL_law 474 = .ok (.iconst 2, 1) := by decide +kernel
theorem dL_law_475 : decode cL_law 475 = .ok (.iadd, 1) := by decide +kernel
theorem dL_law_476 : decode cL_law 476 = .ok (.iaload, 1) := by decide +kernel
theorem dL_law_477 : decode cL_law 477 = .ok (.invokevirtual 65, 3) := by decide +kernel
theorem dL_law_480 : decode cL_law 480 = .ok (.aload_n 2, 1) := by decide +kernel
theorem dL_law_481 : decode cL_law 481 = .ok (.aload_n 0, 1) := by decide +kernel
theorem dL_law_482 : decode cL_law 482 = .ok (.iload_n 3, 1) := by decide +kernel
theorem dL_law_483 : decode cL_law 483 = .ok (.iconst 1, 1) := by decide +kernel
theorem dL_law_484 : decode cL_law 484 = .ok (.iadd, 1) := by decide +kernel
theorem dL_law_485 : decode cL_law 485 = .ok (.iaload, 1) := by decide +kernel
theorem dL_law_486 : decode cL_law 486 = .ok (.aload_n 0, 1) := by decide +kernel
theorem dL_law_487 : decode cL_law 487 = .ok (.iload_n 3, 1) := by decide +kernel
theorem dL_law_488 : decode cL_law 488 = .ok (.iconst 2, 1) := by decide +kernel
theorem dL_law_489 : decode cL_law 489 = .ok (.iadd, 1) := by decide +kernel
theorem dL_law_490 : decode cL_law 490 = .ok (.iaload, 1) := by decide +kernel
theorem dL_law_491 : decode cL_law 491 = .ok (.invokevirtual 68, 3) := by decide +kernel
theorem dL_law_494 : decode cL_law 494 = .ok (.if_icmp .eq 150, 3) := by decide +kernel
theorem dL_law_497 : decode cL_law 497 = .ok (.iconst 0, 1) := by decide +kernel
theorem dL_law_498 : decode cL_law 498 = .ok (.ireturn, 1) := by decide +kernel
theorem dL_law_499 : decode cL_law 499 = .ok (.aload_n 1, 1) := by decide +kernel
theorem dL_law_500 : decode cL_law 500 = .ok (.aload_n 0, 1) := by decide +kernel
theorem dL_law_501 : decode cL_law 501 = .ok (.iload_n 3, 1) := by decide +kernel
theorem dL_law_502 : decode cL_law 502 = .ok (.iconst 1, 1) := by decide +kernel
theorem dL_law_503 : decode cL_law 503 = .ok (.iadd, 1) := by decide +kernel
theorem dL_law_504 : decode cL_law 504 = .ok (.iaload, 1) := by decide +kernel
theorem dL_law_505 : decode cL_law 505 = .ok (.aload_n 0, 1) := by decide +kernel
theorem dL_law_506 : decode cL_law 506 = .ok (.iload_n 3, 1) := by decide +kernel
theorem dL_law_507 : decode cL_law 507 = .ok (.iconst 2, 1) := by decide +kernel
theorem dL_law_508 : decode cL_law 508 = .ok (.iadd, 1) := by decide +kernel
theorem dL_law_509 : decode cL_law 509 = .ok (.iaload, 1) := by decide +kernel
theorem dL_law_510 : decode cL_law 510 = .ok (.invokevirtual 69, 3) := by decide +kernel
theorem dL_law_513 : decode cL_law 513 = .ok (.aload_n 2, 1) := by decide +kernel
theorem dL_law_514 : decode cL_law 514 = .ok (.aload_n 0, 1) := by decide +kernel
theorem dL_law_515 : decode cL_law 515 = .ok (.iload_n 3, 1) := by decide +kernel
theorem dL_law_516 : decode cL_law 516 = .ok (.iconst 1, 1) := by decide +kernel
theorem dL_law_517 : decode cL_law 517 = .ok (.iadd, 1) := by decide +kernel
theorem dL_law_518 : decode cL_law 518 = .ok (.iaload, 1) := by decide +kernel
theorem dL_law_519 : decode cL_law 519 = .ok (.aload_n 0, 1) := by decide +kernel
theorem dL_law_520 : decode cL_law 520 = .ok (.iload_n 3, 1) := by decide +kernel
theorem dL_law_521 : decode cL_law 521 = .ok (.iconst 2, 1) := by decide +kernel
theorem dL_law_522 : decode cL_law 522 = .ok (.iadd, 1) := by decide +kernel
theorem dL_law_523 : decode cL_law 523 = .ok (.iaload, 1) := by decide +kernel
theorem dL_law_524 : decode cL_law 524 = .ok (.invokevirtual 72, 3) := by decide +kernel
theorem dL_law_527 : decode cL_law 527 = .ok (.if_icmp .eq 117, 3) := by decide +kernel
theorem dL_law_530 : decode cL_law 530 = .ok (.iconst 0, 1) := by decide +kernel
theorem dL_law_531 : decode cL_law 531 = .ok (.ireturn, 1) := by decide +kernel
theorem dL_law_532 : decode cL_law 532 = .ok (.aload_n 1, 1) := by decide +kernel
theorem dL_law_533 : decode cL_law 533 = .ok (.aload_n 0, 1) := by decide +kernel
theorem dL_law_534 : decode cL_law 534 = .ok (.iload_n 3, 1) := by decide +kernel
theorem dL_law_535 : decode cL_law 535 = .ok (.iconst 1, 1) := by decide +kernel
theorem dL_law_536 : decode cL_law 536 = .ok (.iadd, 1) := by decide +kernel
theorem dL_law_537 : decode cL_law 537 = .ok (.iaload, 1) := by decide +kernel
theorem dL_law_538 : decode cL_law 538 = .ok (.aload_n 0, 1) := by decide +kernel
theorem dL_law_539 : decode cL_law 539 = .ok (.iload_n 3, 1) := by decide +kernel
theorem dL_law_540 : decode cL_law 540 = .ok (.iconst 2, 1) := by decide +kernel
theorem dL_law_541 : decode cL_law 541 = .ok (.iadd, 1) := by decide +kernel
theorem dL_law_542 : decode cL_law 542 = .ok (.iaload, 1) := by decide +kernel
theorem dL_law_543 : decode cL_law 543 = .ok (.invokevirtual 73, 3) := by decide +kernel
theorem dL_law_546 : decode cL_law 546 = .ok (.aload_n 2, 1) := by decide +kernel
theorem dL_law_547 : decode cL_law 547 = .ok (.aload_n 0, 1) := by decide +kernel
theorem dL_law_548 : decode cL_law 548 = .ok (.iload_n 3, 1) := by decide +kernel
theorem dL_law_549 : decode cL_law 549 = .ok (.iconst 1, 1) := by decide +kernel
theorem dL_law_550 : decode cL_law 550 = .ok (.iadd, 1) := by decide +kernel
theorem dL_law_551 : decode cL_law 551 = .ok (.iaload, 1) := by decide +kernel
theorem dL_law_552 : decode cL_law 552 = .ok (.aload_n 0, 1) := by decide +kernel
theorem dL_law_553 : decode cL_law 553 = .ok (.iload_n 3, 1) := by decide +kernel
theorem dL_law_554 : decode cL_law 554 = .ok (.iconst 2, 1) := by decide +kernel
theorem dL_law_555 : decode cL_law 555 = .ok (.iadd, 1) := by decide +kernel
theorem dL_law_556 : decode cL_law 556 = .ok (.iaload, 1) := by decide +kernel
theorem dL_law_557 : decode cL_law 557 = .ok (.invokevirtual 76, 3) := by decide +kernel
end
section
theorem dL_law_560 : decode cL_law 560 = .ok (.if_icmp .eq 84, 3) := by decide +kernel
theorem dL_law_563 : decode cL_law 563 = .ok (.iconst 0, 1) := by decide +kernel
theorem dL_law_564 : decode cL_law 564 = .ok (.ireturn, 1) := by decide +kernel
theorem dL_law_565 : decode cL_law 565 = .ok (.aload_n 1, 1) := by decide +kernel
theorem dL_law_566 : decode cL_law 566 = .ok (.aload_n 0, 1) := by decide +kernel
theorem dL_law_567 : decode cL_law 567 = .ok (.iload_n 3, 1) := by decide +kernel
theorem dL_law_568 : decode cL_law 568 = .ok (.iconst 1, 1) := by decide +kernel
theorem dL_law_569 : decode cL_law 569 = .ok (.iadd, 1) := by decide +kernel
theorem dL_law_570 : decode cL_law 570 = .ok (.iaload, 1) := by decide +kernel
theorem dL_law_571 : decode cL_law 571 = .ok (.aload_n 0, 1) := by decide +kernel
theorem dL_law_572 : decode cL_law 572 = .ok (.iload_n 3, 1) := by decide +kernel
theorem dL_law_573 : decode cL_law 573 = .ok (.iconst 2, 1) := by decide +kernel
theorem dL_law_574 : decode cL_law 574 = .ok (.iadd, 1) := by decide +kernel
theorem dL_law_575 : decode cL_law 575 = .ok (.iaload, 1) := by decide +kernel
theorem dL_law_576 : decode cL_law 576 = .ok (.invokevirtual 77, 3) := by decide +kernel
theorem dL_law_579 : decode cL_law 579 = .ok (.aload_n 2, 1) := by decide +kernel
theorem dL_law_580 : decode cL_law 580 = .ok (.aload_n 0, 1) := by decide +kernel
theorem dL_law_581 : decode cL_law 581 = .ok (.iload_n 3, 1) := by decide +kernel
theorem dL_law_582 : decode cL_law 582 = .ok (.iconst 1, 1) := by decide +kernel
theorem dL_law_583 : decode cL_law 583 = .ok (.iadd, 1) := by decide +kernel
theorem dL_law_584 : decode cL_law 584 = .ok (.iaload, 1) := by decide +kernel
theorem dL_law_585 : decode cL_law 585 = .ok (.aload_n 0, 1) := by decide +kernel
theorem dL_law_586 : decode cL_law 586 = .ok (.iload_n 3, 1) := by decide +kernel
theorem dL_law_587 : decode cL_law 587 = .ok (.iconst 2, 1) := by decide +kernel
theorem dL_law_588 : decode cL_law 588 = .ok (.iadd, 1) := by decide +kernel
theorem dL_law_589 : decode cL_law 589 = .ok (.iaload, 1) := by decide +kernel
theorem dL_law_590 : decode cL_law 590 = .ok (.invokevirtual 80, 3) := by decide +kernel
theorem dL_law_593 : decode cL_law 593 = .ok (.if_icmp .eq 51, 3) := by decide +kernel
theorem dL_law_596 : decode cL_law 596 = .ok (.iconst 0, 1) := by decide +kernel
theorem dL_law_597 : decode cL_law 597 = .ok (.ireturn, 1) := by decide +kernel
theorem dL_law_598 : decode cL_law 598 = .ok (.aload_n 1, 1) := by decide +kernel
theorem dL_law_599 : decode cL_law 599 = .ok (.aload_n 0, 1) := by decide +kernel
theorem dL_law_600 : decode cL_law 600 = .ok (.iload_n 3, 1) := by decide +kernel
theorem dL_law_601 : decode cL_law 601 = .ok (.iconst 1, 1) := by decide +kernel
theorem dL_law_602 : decode cL_law 602 = .ok (.iadd, 1) := by decide +kernel
theorem dL_law_603 : decode cL_law 603 = .ok (.iaload, 1) := by decide +kernel
theorem dL_law_604 : decode cL_law 604 = .ok (.invokevirtual 81, 3) := by decide +kernel
theorem dL_law_607 : decode cL_law 607 = .ok (.aload_n 2, 1) := by decide +kernel
theorem dL_law_608 : decode cL_law 608 = .ok (.aload_n 0, 1) := by decide +kernel
theorem dL_law_609 : decode cL_law 609 = .ok (.iload_n 3, 1) := by decide +kernel
theorem dL_law_610 : decode cL_law 610 = .ok (.iconst 1, 1) := by decide +kernel
theorem dL_law_611 : decode cL_law 611 = .ok (.iadd, 1) := by decide +kernel
theorem dL_law_612 : decode cL_law 612 = .ok (.iaload, 1) := by decide +kernel
theorem dL_law_613 : decode cL_law 613 = .ok (.invokevirtual 84, 3) := by decide +kernel
theorem dL_law_616 : decode cL_law 616 = .ok (.if_icmp .eq 28, 3) := by decide +kernel
theorem dL_law_619 : decode cL_law 619 = .ok (.iconst 0, 1) := by decide +kernel
theorem dL_law_620 : decode cL_law 620 = .ok (.ireturn, 1) := by decide +kernel
theorem dL_law_621 : decode cL_law 621 = .ok (.aload_n 1, 1) := by decide +kernel
theorem dL_law_622 : decode cL_law 622 = .ok (.aload_n 0, 1) := by decide +kernel
theorem dL_law_623 : decode cL_law 623 = .ok (.iload_n 3, 1) := by decide +kernel
theorem dL_law_624 : decode cL_law 624 = .ok (.iconst 1, 1) := by decide +kernel
theorem dL_law_625 : decode cL_law 625 = .ok (.iadd, 1) := by decide +kernel
theorem dL_law_626 : decode cL_law 626 = .ok (.iaload, 1) := by decide +kernel
theorem dL_law_627 : decode cL_law 627 = .ok (.invokevirtual 85, 3) := by decide +kernel
theorem dL_law_630 : decode cL_law 630 = .ok (.aload_n 2, 1) := by decide +kernel
theorem dL_law_631 : decode cL_law 631 = .ok (.aload_n 0, 1) := by decide +kernel
theorem dL_law_632 : decode cL_law 632 = .ok (.iload_n 3, 1) := by decide +kernel
theorem dL_law_633 : decode cL_law 633 = .ok (.iconst 1, 1) := by decide +kernel
theorem dL_law_634 : decode cL_law 634 = .ok (.iadd, 1) := by decide +kernel
theorem dL_law_635 : decode cL_law 635 = .ok (.iaload, 1) := by decide +kernel
theorem dL_law_636 : decode cL_law 636 = .ok (.invokevirtual 88, 3) := by decide +kernel
theorem dL_law_639 : decode cL_law 639 = .ok (.if_icmp .eq 5, 3) := by decide +kernel
theorem dL_law_642 : decode cL_law 642 = .ok (.iconst 0, 1) := by decide +kernel
theorem dL_law_643 : decode cL_law 643 = .ok (.ireturn, 1) := by decide +kernel
theorem dL_law_644 : decode cL_law 644 = .ok (.iinc 3 5, 3) := by decide +kernel
theorem dL_law_647 : decode cL_law 647 = .ok (.goto (-629), 3) := by decide +kernel
theorem dL_law_650 : decode cL_law 650 = .ok (.iconst 1, 1) := by decide +kernel
theorem dL_law_651 : decode cL_law 651 = .ok (.ireturn, 1) := by decide +kernel
end
section
/-! ===== one form for all contracts: the world before, the world behind, the links among nest mates ===== -/
abbrev tyL : Type := List (ClassId × FieldType)
abbrev rk (k c s : Nat) : Room := { frames := k, cells := c, slots := s, locals := 30 * k }
def nwL : List Cond := [.fieldLinkNest "LoanHouse$House" 70 "LoanHouse$Calendar" "now" "I" "LoanHouse", .fieldLinkNest "LoanHouse" 115 "LoanHouse$Calendar" "now" "I" "LoanHouse", .fieldLinkNest "LoanHouse" 160 "LoanHouse$Calendar" "term" "I" "LoanHouse", .fieldLinkNest "LoanHouse" 163 "LoanHouse$Calendar" "patience" "I" "LoanHouse", .fieldLinkNest "LoanHouse" 166 "LoanHouse$Calendar" "closed" "I" "LoanHouse", .fieldLinkNest "LoanHouse" 44 "LoanHouse$Copies" "count" "I" "LoanHouse", .fieldLinkNest "LoanHouse$House" 98 "LoanHouse$Copies" "count" "I" "LoanHouse", .fieldLinkNest "LoanHouse$House" 92 "LoanHouse$Holds" "count" "I" "LoanHouse", .fieldLinkNest "LoanHouse" 172 "LoanHouse$Holds" "count" "I" "LoanHouse", .fieldLinkNest "LoanHouse" 111 "LoanHouse$House" "calendar" "LLoanHouse$Calendar;" "LoanHouse", .fieldLinkNest "LoanHouse" 40 "LoanHouse$House" "copies" "LLoanHouse$Copies;" "LoanHouse", .fieldLinkNest "LoanHouse" 78 "LoanHouse$House" "holds" "LLoanHouse$Holds;" "LoanHouse", .fieldLinkNest "LoanHouse" 177 "LoanHouse$House" "trips" "I" "LoanHouse",
  .methodLinkNest "LoanHouse" 9 ⟨"LoanHouse$House", "<init>", "()V"⟩ "LoanHouse", .methodLinkNest "LoanHouse$House" 11 ⟨"LoanHouse$Calendar", "<init>", "()V"⟩ "LoanHouse", .methodLinkNest "LoanHouse$House" 20 ⟨"LoanHouse$Copies", "<init>", "()V"⟩ "LoanHouse", .methodLinkNest "LoanHouse$House" 27 ⟨"LoanHouse$Holds", "<init>", "()V"⟩ "LoanHouse", .methodLinkNest "LoanHouse" 30 ⟨"LoanHouse$Lots", "<init>", "()V"⟩ "LoanHouse", .methodLinkNest "LoanHouse$Pictures" 21 ⟨"LoanHouse", "isBelow", "(II)Z"⟩ "LoanHouse", .methodLinkNest "LoanHouse$Pictures" 27 ⟨"LoanHouse$House", "<init>", "()V"⟩ "LoanHouse", .methodLinkNest "LoanHouse$Copies" 64 ⟨"LoanHouse", "way", "(II)I"⟩ "LoanHouse", .methodLinkNest "LoanHouse$Holds" 39 ⟨"LoanHouse", "isBelow", "(II)Z"⟩ "LoanHouse", .methodLinkNest "LoanHouse$House" 121 ⟨"LoanHouse", "way", "(II)I"⟩ "LoanHouse"]
def isNw : Cond → Bool
  | .fieldLinkNest _ _ _ _ _ _ => true
  | .methodLinkNest _ _ _ _ => true
  | _ => false
theorem nwL_all : nwL.all isNw = true := by decide +kernel
theorem nw_warm {w : Cond} {s U : State} (h : isNw w = true) (hW : s.WarmedH U.vm) (hZ : va_Nw w s) : va_Nw w U := by
  cases w <;> first | (exact va_Nw.warmF hW hZ) | (exact va_Nw.warmM hW hZ) | (simp [isNw] at h; done)
theorem nw_same {w : Cond} {s U : State} (h : isNw w = true) (hvm : s.vm = U.vm) (hZ : va_Nw w s) : va_Nw w U := by
  cases w <;> first | (exact va_Nw.same rfl hvm hZ) | (simp [isNw] at h; done)
def nW (U : State) : Prop := (∀ w ∈ nwL, va_Nw w U) ∧ va_AO "LoanHouse$House" U
theorem nW.warm {s U : State} (h : nW s) (hW : s.WarmedH U.vm) : nW U := ⟨fun w hw => nw_warm (List.all_eq_true.mp nwL_all w hw) hW (h.1 w hw), va_AO.moved hW.alike h.2⟩
theorem nW.same {s U : State} (h : nW s) (hvm : s.vm = U.vm) : nW U := ⟨fun w hw => nw_same (List.all_eq_true.mp nwL_all w hw) hvm (h.1 w hw), va_AO.moved (by rw [hvm]; exact Vm.Alike.refl U.vm) h.2⟩
theorem nW.at {s : State} (h : nW s) (k : Nat) {w : Cond} (hk : nwL[k]? = some w) : va_Nw w s := h.1 w (List.mem_of_getElem? hk)
def mP (D : va_G) (tys : tyL) (sz : Nat) (ws : va_W) : State → Prop := fun U => U.heap.size = sz ∧ va_P D vwCl ws U.heap ∧ va_K D vwCl tys U ∧ va_D (fun _ => True) ws ∧ nW U
def mB {S : Type} (D : va_G) (A : Nat → Prop) (T1 : S → tyL) (W1 : S → va_W) : S → State → Prop := fun u t => va_P D vwCl (W1 u) t.heap ∧ va_K D vwCl (T1 u) t ∧ va_D A (W1 u)
abbrev mI (l : Launch) (y : MethodName) (ws : List Cond) (rm : Room) (D : va_G) (av : List Value) (tys : tyL) (sz : Nat) (w0 : va_W) {S : Type} (post : Int32 → S → Prop) (T1 : S → tyL) (W1 : S → va_W) : Prop :=
  Met l y ws rm (va_Pc av (mP D tys sz w0)) (va_Qi post (mB D (va_A w0 sz) T1 W1) (va_A w0 sz)) rm.cells rm.slots (va_A w0 sz)
abbrev mV (l : Launch) (y : MethodName) (ws : List Cond) (rm : Room) (D : va_G) (av : List Value) (tys : tyL) (sz : Nat) (w0 : va_W) {S : Type} (post : S → Prop) (T1 : S → tyL) (W1 : S → va_W) : Prop :=
  Met l y ws rm (va_Pc av (mP D tys sz w0)) (va_Qv post (mB D (va_A w0 sz) T1 W1) (va_A w0 sz)) rm.cells rm.slots (va_A w0 sz)
theorem mP_blind {av : List Value} {D : va_G} {tys : tyL} {sz : Nat} {ws : va_W} : FrameBlind (va_Pc av (mP D tys sz ws)) := fun a U g mk q => by
  obtain ⟨q0, q1, qP, qK, qD, qN⟩ := q
  exact ⟨q0, q1, qP, va_K.moved (u := U) (U := U.calling g mk a) (Vm.Alike.refl U.vm) qK, qD, qN.same (U := U.calling g mk a) rfl⟩
theorem m_at {ws w : va_W} {is : List Nat} (hs : is.map (fun i => ws[i]?) = w.map some) {k : Nat} {q : Nat × va_E} (hq : w[k]? = some q) : ∃ i, is[k]? = some i ∧ ws[i]? = some q := by
  have h1 : (is.map (fun i => ws[i]?))[k]? = some (some q) := by rw [hs, List.getElem?_map, hq]; rfl
  rw [List.getElem?_map] at h1
  cases hi : is[k]? with
  | none => rw [hi] at h1; cases h1
  | some i => rw [hi] at h1; exact ⟨i, rfl, Option.some.inj h1⟩
theorem m_to {ws w : va_W} {is : List Nat} (hs : is.map (fun i => ws[i]?) = w.map some) {k i : Nat} {q : Nat × va_E} (hi : is[k]? = some i) (hq : ws[i]? = some q) : w[k]? = some q := by
  have h1 : (w.map some)[k]? = some (some q) := by rw [← hs, List.getElem?_map, hi]; exact congrArg some hq
  rw [List.getElem?_map] at h1
  cases hw : w[k]? with
  | none => rw [hw] at h1; cases h1
  | some x => rw [hw] at h1; exact Option.some.inj h1
theorem m_P {D : va_G} {ws w : va_W} {H : Heap} (hP : va_P D vwCl ws H) {is : List Nat} (hs : is.map (fun i => ws[i]?) = w.map some) : va_P D vwCl w H := fun k q hq => by
  obtain ⟨i, -, h2⟩ := m_at hs hq
  exact hP i q h2
theorem m_pre {D : va_G} {s : State} {tys tysc : tyL} {ws wc : va_W} {A : Nat → Prop} {H : Heap} (av : List Value) (hN : nW s) (hK : va_K D vwCl tys s) (hP : va_P D vwCl ws H) (hD : va_D A ws) (isT : List Nat) (hT : isT.filterMap (fun i => tys[i]?) = tysc) (isC : List Nat) (hC : isC.map (fun i => ws[i]?) = wc.map some) (hn : va_nd isC = true) :
    ∀ U : State, U.heap = H → s.WarmedH U.vm → va_Pc av (mP D tysc H.size wc) av.toArray U := fun U hU hW =>
  ⟨rfl, by rw [hU], by rw [hU]; exact m_P hP hC, va_K.moved hW.alike (hK.sub isT hT), (hD.sub isC hn hC).weaken (fun _ _ _ _ => trivial), hN.warm hW⟩
section KK
variable {p : Program} {l : Launch} {e : Env} {R : Room} {s : State} {m : MethodId} {args : Array Value} {below : List Frame} {meth : Method} {c : Code} {H : Heap} {locs : List Loc} {cells slots : Nat} {Q : State → Prop}
variable {pc : Nat} {ls : Array Slot} {rest st0 : List Value} {a : Array Value} {A : Nat → Prop} {H0 : Heap} {mc ms : Nat} {D : va_G} {tys : tyL} {ws wc wr : va_W}
/-- a call that answers an int: the rest of the world and what came back -/
theorem k_i {S : Type} {post : Int32 → S → Prop} {T1 : S → tyL} {W1 : S → va_W} (hr : va_Run p l e R s m args below meth c H locs cells slots mc ms (F0 m pc ls st0) rest (va_Qi post (mB D (va_A wc H.size) T1 W1) (va_A wc H.size) a) (va_A wc H.size)) (hP : va_P D vwCl ws H) (hD : va_D A ws) (hS : va_S A H0 H locs) (hA : ∀ q, H0.size ≤ q → A q) (isC isR : List Nat) (hC : isC.map (fun i => ws[i]?) = wc.map some) (hR : isR.map (fun i => ws[i]?) = wr.map some) (hn : va_nd isR = true) (hdis : ∀ i ∈ isR, i ∉ isC)
    (kk : ∀ (r : Int32) (u : S) (H1 : Heap) (locs1 : List Loc), post r u → va_K D vwCl (T1 u) s → va_P D vwCl (wr ++ W1 u) H1 → va_D A (wr ++ W1 u) → va_S A H0 H1 locs1 → W p l e R s m args below meth c H1 locs1 (cells + mc) (slots + ms) Q (F0 m (pc + 3) ls (.int r :: rest))) : W p l e R s m args below meth c H locs cells slots Q (F0 m pc ls st0) := by
  have hF := va_free (wc := wc) hD hS hA isC hC
  refine va_calli hr hS (fun q _ h => hF q h) hF (fun r u t H1 locs1 ht hvm hw hB hz1 hk1 hS1 => ?_)
  obtain ⟨hP1, hK1, hD1⟩ := hB
  rw [ht] at hP1
  obtain ⟨hP2, hD2⟩ := va_join (wr := wr) (w1 := W1 u) hP hD isC isR hC hR hn hdis hk1 hF hP1 hD1
  exact kk r u H1 locs1 hw (va_K.moved hvm.symm hK1) hP2 hD2 hS1
theorem k_v {S : Type} {post : S → Prop} {T1 : S → tyL} {W1 : S → va_W} (hr : va_Run p l e R s m args below meth c H locs cells slots mc ms (F0 m pc ls st0) rest (va_Qv post (mB D (va_A wc H.size) T1 W1) (va_A wc H.size) a) (va_A wc H.size)) (hP : va_P D vwCl ws H) (hD : va_D A ws) (hS : va_S A H0 H locs) (hA : ∀ q, H0.size ≤ q → A q) (isC isR : List Nat) (hC : isC.map (fun i => ws[i]?) = wc.map some) (hR : isR.map (fun i => ws[i]?) = wr.map some) (hn : va_nd isR = true) (hdis : ∀ i ∈ isR, i ∉ isC)
    (kk : ∀ (u : S) (H1 : Heap) (locs1 : List Loc), post u → va_K D vwCl (T1 u) s → va_P D vwCl (wr ++ W1 u) H1 → va_D A (wr ++ W1 u) → va_S A H0 H1 locs1 → W p l e R s m args below meth c H1 locs1 (cells + mc) (slots + ms) Q (F0 m (pc + 3) ls rest)) : W p l e R s m args below meth c H locs cells slots Q (F0 m pc ls st0) := by
  have hF := va_free (wc := wc) hD hS hA isC hC
  refine va_callv hr hS (fun q _ h => hF q h) hF (fun u t H1 locs1 ht hvm hw hB hz1 hk1 hS1 => ?_)
  obtain ⟨hP1, hK1, hD1⟩ := hB
  rw [ht] at hP1
  obtain ⟨hP2, hD2⟩ := va_join (wr := wr) (w1 := W1 u) hP hD isC isR hC hR hn hdis hk1 hF hP1 hD1
  exact kk u H1 locs1 hw (va_K.moved hvm.symm hK1) hP2 hD2 hS1
theorem m_kept {H1 : Heap} (hP : va_P D vwCl ws H) (hD : va_D A ws) (isC : List Nat) (hC : isC.map (fun i => ws[i]?) = wc.map some) (hk : ∀ q : Nat, q < H.size → ¬ va_A wc H.size q → H1[q]? = H[q]?) (hP1 : va_P D vwCl wc H1) : va_P D vwCl ws H1 := fun k q hq => by
  by_cases hkC : k ∈ isC
  · obtain ⟨j, hj⟩ := List.mem_iff_getElem?.mp hkC
    exact hP1 j q (m_to hC hj hq)
  · have hl := (hP k q hq).lt
    refine (hP k q hq).kept (hk q.1 hl (fun h => ?_))
    rcases h with ⟨k2, e2, h⟩ | h
    · obtain ⟨i, h3, h4⟩ := m_at hC h
      have hij := hD.1 k i q (q.1, e2) hq h4 rfl
      subst hij
      exact hkC (List.mem_of_getElem? h3)
    · omega
/-- a call that changes nothing of the world -/
theorem k_pi {S : Type} {post : Int32 → S → Prop} {T1 : S → tyL} (hr : va_Run p l e R s m args below meth c H locs cells slots 0 0 (F0 m pc ls st0) rest (va_Qi post (mB D (va_A wc H.size) T1 (fun _ => wc)) (va_A wc H.size) a) (va_A wc H.size)) (hP : va_P D vwCl ws H) (hD : va_D A ws) (hS : va_S A H0 H locs) (hA : ∀ q, H0.size ≤ q → A q) (isC : List Nat) (hC : isC.map (fun i => ws[i]?) = wc.map some)
    (kk : ∀ (r : Int32) (u : S) (H1 : Heap) (locs1 : List Loc), post r u → va_P D vwCl ws H1 → va_S A H0 H1 locs1 → W p l e R s m args below meth c H1 locs1 cells slots Q (F0 m (pc + 3) ls (.int r :: rest))) : W p l e R s m args below meth c H locs cells slots Q (F0 m pc ls st0) := by
  have hF := va_free (wc := wc) hD hS hA isC hC
  refine va_calli hr hS (fun q _ h => hF q h) hF (fun r u t H1 locs1 ht hvm hw hB hz1 hk1 hS1 => ?_)
  obtain ⟨hP1, hK1, hD1⟩ := hB
  rw [ht] at hP1
  exact kk r u H1 locs1 hw (m_kept hP hD isC hC hk1 hP1) hS1
theorem k_pv {S : Type} {post : S → Prop} {T1 : S → tyL} (hr : va_Run p l e R s m args below meth c H locs cells slots 0 0 (F0 m pc ls st0) rest (va_Qv post (mB D (va_A wc H.size) T1 (fun _ => wc)) (va_A wc H.size) a) (va_A wc H.size)) (hP : va_P D vwCl ws H) (hD : va_D A ws) (hS : va_S A H0 H locs) (hA : ∀ q, H0.size ≤ q → A q) (isC : List Nat) (hC : isC.map (fun i => ws[i]?) = wc.map some)
    (kk : ∀ (u : S) (H1 : Heap) (locs1 : List Loc), post u → va_P D vwCl ws H1 → va_S A H0 H1 locs1 → W p l e R s m args below meth c H1 locs1 cells slots Q (F0 m (pc + 3) ls rest)) : W p l e R s m args below meth c H locs cells slots Q (F0 m pc ls st0) := by
  have hF := va_free (wc := wc) hD hS hA isC hC
  refine va_callv hr hS (fun q _ h => hF q h) hF (fun u t H1 locs1 ht hvm hw hB hz1 hk1 hS1 => ?_)
  obtain ⟨hP1, hK1, hD1⟩ := hB
  rw [ht] at hP1
  exact kk u H1 locs1 hw (m_kept hP hD isC hC hk1 hP1) hS1
end KK
/-- a method's walk: from its entry to a return -/
theorem mI_of {l : Launch} {y : MethodName} {ws ws' : List Cond} {rm : Room} {D : va_G} {av : List Value} {tys : tyL} {sz : Nat} {w0 : va_W} {S : Type} {post : Int32 → S → Prop} {T1 : S → tyL} {W1 : S → va_W} {cc : ByteArray} {maxL : Nat} {ty : FieldType} (hy : plainName y.cls = true) (hw : ws = Cond.code y cc maxL (some ty) :: ws') (hlen : (lg_sl av).length ≤ maxL)
    (body : ∀ (p : Program) (e : Env) (s : State) (m : MethodId) (below : List Frame) (meth : Method) (c : Code) (A : Nat → Prop) (Q : State → Prop), p.tables.exec = Jvm.exec → c.code = cc → c.maxLocals = maxL → (∀ w ∈ ws, w.before av.toArray s = true) → s.vm.findClass y.cls = some m.cls → nW s → (∀ q, s.heap.size ≤ q → A q) → va_K D vwCl tys s → va_P D vwCl w0 s.heap → va_D A w0 → va_S A s.heap s.heap [] →
      (∀ (v : Int32) (u : S) {H : Heap} {locs : List Loc} {cells slots : Nat} {ls : Array Slot} {pc : Nat}, narrow ty (.int v) = .int v → post v u → va_P D vwCl (W1 u) H → va_K D vwCl (T1 u) s → va_D A (W1 u) → va_S A s.heap H locs → cells ≤ rm.cells → slots ≤ rm.slots → decode cc pc = .ok (.ireturn, 1) → W p l e rm s m av.toArray below meth c H locs cells slots Q (F0 m pc ls [.int v])) →
      ∀ ls : Array Slot, lv_has ls maxL (lv_args 0 av) → W p l e rm s m av.toArray below meth c s.heap [] 0 0 Q (F0 m 0 ls [])) :
    mI l y ws rm D av tys sz w0 post T1 W1 := by
  refine Met.ofW (cc := cc) (maxL := maxL) (ret := some ty) hy hw ?_
  intro p e s m args below meth c s₁ B hml hv
  obtain ⟨rfl, hsz, hP, hK, hD0, hN⟩ := hv
  subst hsz
  have hD := hD0.self (sz := s.heap.size)
  have hl := lv_entry av (n := maxL) hlen
  have hlocks := B.notSynchronized
  rw [lg_entry_eq]
  refine body p e s m below meth c (va_A w0 s.heap.size) _ B.exec B.bytes hml (atoms_spec (ws := ws) B.pre) (findClass_of_methodNamed B.named) hN (fun q h => Or.inr h) hK hP hD va_S.rf ?_ _ hl
  intro v u H locs cells slots ls pc hnar hpost hP1 hK1 hD1 hS hc hs hdg
  refine W.widen (k := rm.cells) (n := rm.slots) hc hs ?_
  exact W.zret (v := v) B.exec B.bytes B.returns hnar (fun t ht hW => ⟨⟨v, u, rfl, hpost, by rw [ht]; exact hP1, va_K.moved hW.alike hK1, hD1⟩, hS.F ht⟩) hS.2.2 hdg
theorem mV_of {l : Launch} {y : MethodName} {ws ws' : List Cond} {rm : Room} {D : va_G} {av : List Value} {tys : tyL} {sz : Nat} {w0 : va_W} {S : Type} {post : S → Prop} {T1 : S → tyL} {W1 : S → va_W} {cc : ByteArray} {maxL : Nat} (hy : plainName y.cls = true) (hw : ws = Cond.code y cc maxL none :: ws') (hlen : (lg_sl av).length ≤ maxL)
    (body : ∀ (p : Program) (e : Env) (s : State) (m : MethodId) (below : List Frame) (meth : Method) (c : Code) (A : Nat → Prop) (Q : State → Prop), p.tables.exec = Jvm.exec → c.code = cc → c.maxLocals = maxL → (∀ w ∈ ws, w.before av.toArray s = true) → s.vm.findClass y.cls = some m.cls → nW s → (∀ q, s.heap.size ≤ q → A q) → va_K D vwCl tys s → va_P D vwCl w0 s.heap → va_D A w0 → va_S A s.heap s.heap [] → meth.name = y.name →
      (∀ (u : S) {H : Heap} {locs : List Loc} {cells slots : Nat} {ls : Array Slot} {pc : Nat}, post u → va_P D vwCl (W1 u) H → va_K D vwCl (T1 u) s → va_D A (W1 u) → va_S A s.heap H locs → cells ≤ rm.cells → slots ≤ rm.slots → decode cc pc = .ok (.return_, 1) → W p l e rm s m av.toArray below meth c H locs cells slots Q (F0 m pc ls [])) →
      ∀ ls : Array Slot, lv_has ls maxL (lv_args 0 av) → W p l e rm s m av.toArray below meth c s.heap [] 0 0 Q (F0 m 0 ls [])) :
    mV l y ws rm D av tys sz w0 post T1 W1 := by
  refine Met.ofW (cc := cc) (maxL := maxL) (ret := none) hy hw ?_
  intro p e s m args below meth c s₁ B hml hv
  obtain ⟨rfl, hsz, hP, hK, hD0, hN⟩ := hv
  subst hsz
  have hD := hD0.self (sz := s.heap.size)
  have hl := lv_entry av (n := maxL) hlen
  have hlocks := B.notSynchronized
  rw [lg_entry_eq]
  refine body p e s m below meth c (va_A w0 s.heap.size) _ B.exec B.bytes hml (atoms_spec (ws := ws) B.pre) (findClass_of_methodNamed B.named) hN (fun q h => Or.inr h) hK hP hD va_S.rf (name_of_methodNamed B.named B.method).1 ?_ _ hl
  intro u H locs cells slots ls pc hpost hP1 hK1 hD1 hS hc hs hdg
  refine W.widen (k := rm.cells) (n := rm.slots) hc hs ?_
  exact W.vret B.exec B.bytes B.returns (fun t ht hW => ⟨⟨u, rfl, hpost, by rw [ht]; exact hP1, va_K.moved hW.alike hK1, hD1⟩, hS.F ht⟩) hS.2.2 hdg
theorem sw_split {P : Prop} (x : Int32) (n : Nat) (hn : n < 2 ^ 31) (hin : ∀ k, k < n → x = nI k → P) (hout : x.toInt < 0 ∨ (n : Int) ≤ x.toInt → P) : P := by
  rcases pk_ix x hn with h | h | ⟨j, hj, hx⟩
  · exact hout (Or.inl (by have := Int32.lt_iff_toInt_lt.mp h; simpa using this))
  · exact hout (Or.inr (by have := Int32.le_iff_toInt_le.mp h; rw [nI_toInt hn] at this; exact this))
  · exact hin j hj hx
end
section
/-! ===== plain facts ===== -/
theorem vi_ok {i : Int32} {n : Nat} (h : (decide (0 ≤ i) && decide (i.toNatClampNeg < n)) = true) : vp_in i n := by
  have h1 := (Bool.and_eq_true_iff.mp h)
  have h2 : (0 : Int32) ≤ i := of_decide_eq_true h1.1
  have h3 : i.toNatClampNeg < n := of_decide_eq_true h1.2
  intro hh
  rcases hh with hh | hh
  · have a := Int32.lt_iff_toInt_lt.mp hh
    have b := Int32.le_iff_toInt_le.mp h2
    omega
  · omega
/-- a number that is neither below 0 nor n or above -/
theorem ix_of {x : Int32} {n : Nat} (hn : n < 2 ^ 31) (h0 : ¬ x < 0) (h1 : ¬ nI n ≤ x) : ∃ j : Nat, j < n ∧ x = nI j := by
  rcases pk_ix x hn with h | h | h
  · exact absurd h h0
  · exact absurd h h1
  · exact h
theorem i_not_le {x y : Int32} (h : x < y) : ¬ y ≤ x := by
  intro h2
  have a := Int32.lt_iff_toInt_lt.mp h
  have b := Int32.le_iff_toInt_le.mp h2
  omega
theorem gi_ok {row col x y : Int32} {R C n : Nat} (hn : R * C ≤ n) (hb : n < 2 ^ 31) (hR : R < 2 ^ 31) (hC : C < 2 ^ 31) (h0 : ¬ row < 0) (h1 : ¬ nI R ≤ row) (h2 : ¬ col < 0) (h3 : col < nI C) (ex : x = row * nI C) (ey : y = x + col) : vp_in y n := by
  obtain ⟨i, hi, rfl⟩ := ix_of hR h0 h1
  obtain ⟨j, hj, rfl⟩ := ix_of hC h2 (i_not_le h3)
  have e : y = nI (i * C + j) := by rw [ey, ex, pk_mul, nI_add]
  rw [e]
  refine vp_in_nI ?_ hb
  have h4 : (i + 1) * C ≤ R * C := Nat.mul_le_mul_right C hi
  have h5 : (i + 1) * C = i * C + C := Nat.succ_mul i C
  omega
theorem ib_1 {x : Int32} (h : ¬ x < 0) : 0 ≤ x := by
  rw [Int32.le_iff_toInt_le]; rw [Int32.lt_iff_toInt_lt] at h; omega
theorem ib_2 {x b : Int32} (h : ¬ b ≤ x) : x < b := by
  rw [Int32.lt_iff_toInt_lt]; rw [Int32.le_iff_toInt_le] at h; omega
theorem ib_3 {x b : Int32} (h : x < 0) : ¬ (0 ≤ x ∧ x < b) := by
  rw [Int32.lt_iff_toInt_lt] at h; rw [Int32.le_iff_toInt_le]; omega
theorem ib_4 {x b : Int32} (h : b ≤ x) : ¬ (0 ≤ x ∧ x < b) := by
  rw [Int32.le_iff_toInt_le] at h; rw [Int32.lt_iff_toInt_lt, Int32.le_iff_toInt_le]; omega
theorem lt_of_nle {i c : Nat} (h : ¬ nI c ≤ nI i) (hi : i ≤ c) (hc : c ≤ 12) : i < c := by
  rcases Nat.lt_or_ge i c with q | q
  · exact q
  · exact absurd (nI_le q (by omega)) h
def p_set (w v : Int32) : Prop := (w = 0 ∧ 1 ≤ v ∧ v ≤ 60) ∨ (w = 1 ∧ 1 ≤ v ∧ v ≤ 20) ∨ (w = 2 ∧ 0 ≤ v ∧ v ≤ 127)
theorem n_le {a b : Int32} (h : ¬ b < a) : a ≤ b := by
  rw [Int32.le_iff_toInt_le]; rw [Int32.lt_iff_toInt_lt] at h; omega
theorem ps_0 {v : Int32} (h1 : ¬ v < 1) (h2 : ¬ 60 < v) : p_set (nI 0) v := Or.inl ⟨rfl, n_le h1, n_le h2⟩
theorem ps_1 {v : Int32} (h1 : ¬ v < 1) (h2 : ¬ 20 < v) : p_set (nI 1) v := Or.inr (Or.inl ⟨rfl, n_le h1, n_le h2⟩)
theorem ps_2 {v : Int32} (h1 : ¬ v < 0) (h2 : ¬ 127 < v) : p_set (nI 2) v := Or.inr (Or.inr ⟨rfl, n_le h1, n_le h2⟩)
theorem n_lt {a b : Int32} (h : a < b) : ¬ b ≤ a := by
  rw [Int32.le_iff_toInt_le]; rw [Int32.lt_iff_toInt_lt] at h; omega
theorem ps_0a {v : Int32} (h : v < 1) : ¬ p_set (nI 0) v := fun q => by
  rcases q with ⟨_, q, _⟩ | ⟨e, _⟩ | ⟨e, _⟩
  · exact n_lt h q
  · exact absurd e (by decide)
  · exact absurd e (by decide)
theorem ps_0b {v : Int32} (h : 60 < v) : ¬ p_set (nI 0) v := fun q => by
  rcases q with ⟨_, _, q⟩ | ⟨e, _⟩ | ⟨e, _⟩
  · exact n_lt h q
  · exact absurd e (by decide)
  · exact absurd e (by decide)
theorem ps_1a {v : Int32} (h : v < 1) : ¬ p_set (nI 1) v := fun q => by
  rcases q with ⟨e, _⟩ | ⟨_, q, _⟩ | ⟨e, _⟩
  · exact absurd e (by decide)
  · exact n_lt h q
  · exact absurd e (by decide)
theorem ps_1b {v : Int32} (h : 20 < v) : ¬ p_set (nI 1) v := fun q => by
  rcases q with ⟨e, _⟩ | ⟨_, _, q⟩ | ⟨e, _⟩
  · exact absurd e (by decide)
  · exact n_lt h q
  · exact absurd e (by decide)
theorem ps_2a {v : Int32} (h : v < 0) : ¬ p_set (nI 2) v := fun q => by
  rcases q with ⟨e, _⟩ | ⟨e, _⟩ | ⟨_, q, _⟩
  · exact absurd e (by decide)
  · exact absurd e (by decide)
  · exact n_lt h q
theorem ps_2b {v : Int32} (h : 127 < v) : ¬ p_set (nI 2) v := fun q => by
  rcases q with ⟨e, _⟩ | ⟨e, _⟩ | ⟨_, _, q⟩
  · exact absurd e (by decide)
  · exact absurd e (by decide)
  · exact n_lt h q
theorem ps_out {w v : Int32} (h : w.toInt < 0 ∨ ((3 : Nat) : Int) ≤ w.toInt) : ¬ p_set w v := fun q => by
  rcases q with ⟨e, _⟩ | ⟨e, _⟩ | ⟨e, _⟩ <;> (subst e; revert h; decide)
def nxN (y : Nat) : Nat := y * 16807 % 2147483647
theorem nxN_lt (y : Nat) : nxN y < 2147483647 := Nat.mod_lt _ (by decide)
theorem lN_ne0 {b : Nat} (h0 : 0 < b) (h : b < 2 ^ 31) : ¬ lN b = 0 := fun e => by
  have := (lN_eq (a := b) (b := 0) h (by decide)).mp e
  omega
theorem in_of {i n : Int32} {N : Nat} (h : 0 ≤ i ∧ i < n) (hn : n = nI N := by rfl) (hN : N < 2 ^ 31 := by decide) : vp_in i N := by
  subst hn
  obtain ⟨j, hj, rfl⟩ := ix_of hN (fun q => n_lt q h.1) (n_lt h.2)
  exact vp_in_nI hj hN
abbrev ok (x b : Int32) : Prop := 0 ≤ x ∧ x < b
def q2 (C : Prop) (v w r : Int32) : Prop := (C ∧ r = v) ∨ (¬ C ∧ r = w)
theorem q2_eq {C : Prop} {v w r r' : Int32} (h : q2 C v w r) (h' : q2 C v w r') : r = r' := by
  rcases h with ⟨a, e⟩ | ⟨a, e⟩ <;> rcases h' with ⟨b, e'⟩ | ⟨b, e'⟩
  · rw [e, e']
  · exact absurd a b
  · exact absurd b a
  · rw [e, e']
def a_told (w : Int32) : Int32 := if w = 1 then 14 else if w = 2 then 3 else if w = 3 then 64 else if 0 ≤ w ∧ w < 16 then 0 else -1000000002
def a_title (w : Int32) : Int32 := if w = 3 then -1 else if 0 ≤ w ∧ w < 5 then 0 else -1000000002
def a_reader (t w : Int32) : Int32 := if w = 4 then t - t / 4 * 4 else if 0 ≤ w ∧ w < 5 then 0 else -1000000002
theorem out_rng {w n : Int32} {N : Nat} (hn : n.toInt = N) (h : w.toInt < 0 ∨ (N : Int) ≤ w.toInt) : ¬ (0 ≤ w ∧ w < n) := fun q => by
  have a := Int32.le_iff_toInt_le.mp q.1
  have b := Int32.lt_iff_toInt_lt.mp q.2
  have z : (0 : Int32).toInt = 0 := by decide
  omega
theorem told_out {w : Int32} (h : w.toInt < 0 ∨ ((16 : Nat) : Int) ≤ w.toInt) : -1000000002 = a_told w := by
  have h0 := out_rng (n := 16) (N := 16) (by decide) h
  have h1 : ¬ w = 1 := fun e => by subst e; revert h; decide
  have h2 : ¬ w = 2 := fun e => by subst e; revert h; decide
  have h3 : ¬ w = 3 := fun e => by subst e; revert h; decide
  rw [a_told, if_neg h1, if_neg h2, if_neg h3, if_neg h0]
theorem title_out {w : Int32} (h : w.toInt < 0 ∨ ((5 : Nat) : Int) ≤ w.toInt) : -1000000002 = a_title w := by
  have h0 := out_rng (n := 5) (N := 5) (by decide) h
  have h3 : ¬ w = 3 := fun e => by subst e; revert h; decide
  rw [a_title, if_neg h3, if_neg h0]
theorem reader_out {t w : Int32} (h : w.toInt < 0 ∨ ((5 : Nat) : Int) ≤ w.toInt) : -1000000002 = a_reader t w := by
  have h0 := out_rng (n := 5) (N := 5) (by decide) h
  have h3 : ¬ w = 4 := fun e => by subst e; revert h; decide
  rw [a_reader, if_neg h3, if_neg h0]
theorem reader_4 (t : Int32) : a_reader t (nI 4) = t - t / 4 * 4 := if_pos (by decide)
theorem reader_0 (t : Int32) (k : Nat) (h1 : ¬ nI k = 4) (h2 : 0 ≤ nI k ∧ nI k < 5) : a_reader t (nI k) = 0 := by rw [a_reader, if_neg h1, if_pos h2]
theorem lt12 {hc : Nat} (h : nI hc < 12) (hh : hc ≤ 12 := by assumption) : hc < 12 := by
  rcases Nat.lt_or_ge hc 12 with q | q
  · exact q
  · exact absurd h (nI_nlt (b := 12) q (by omega))
theorem ge12 {hc : Nat} (h : ¬ nI hc < 12) : 12 ≤ hc := by
  rcases Nat.lt_or_ge hc 12 with q | q
  · exact absurd (nI_lt (b := 12) q (by decide)) h
  · exact q
theorem i_between {v a b : Int32} {x y : Nat} (ha : a.toInt = x) (hb : b.toInt = y) (h1 : ¬ v < a) (h2 : v ≤ b) (hy : y < 2 ^ 31) : ∃ k : Nat, x ≤ k ∧ k ≤ y ∧ v = nI k := by
  have z : (0 : Int32).toInt = 0 := by decide
  obtain ⟨j, hj, e⟩ := nI_of2 (x := v) (M := b) (n := y) hb (fun q => h1 (by rw [Int32.lt_iff_toInt_lt] at q ⊢; omega)) h2
  refine ⟨j, ?_, hj, e⟩
  rw [Int32.lt_iff_toInt_lt, e, nI_toInt (by omega)] at h1
  omega
theorem nn_of {v : Int32} (h1 : ¬ v < 1) (h2 : v ≤ 30) : ∃ k : Nat, 1 ≤ k ∧ k ≤ 30 ∧ v = nI k := i_between (x := 1) (y := 30) (by decide) (by decide) h1 h2 (by decide)
theorem dn_of {v : Int32} (h1 : ¬ v < 1) (h2 : ¬ 20 < v) : ∃ k : Nat, 1 ≤ k ∧ k ≤ 20 ∧ v = nI k := i_between (x := 1) (y := 20) (by decide) (by decide) h1 (n_le h2) (by decide)
theorem ds_of {v : Int32} (h1 : ¬ v < 1) (h2 : v ≤ 999999) : ∃ k : Nat, 1 ≤ k ∧ k ≤ 999999 ∧ v = nI k := i_between (x := 1) (y := 999999) (by decide) (by decide) h1 h2 (by decide)
theorem lt_of_nle30 {i c : Nat} (h : ¬ nI c ≤ nI i) (hi : i ≤ c) (hc : c ≤ 30) : i < c := by
  rcases Nat.lt_or_ge i c with q | q
  · exact q
  · exact absurd (nI_le q (by omega)) h
def p_dr (v w : Int32) : Prop := 1 ≤ v ∧ v ≤ 20 ∧ 1 ≤ w ∧ w ≤ 999999
theorem dr_ok {a b : Nat} (h1 : 1 ≤ a) (h2 : a ≤ 20) (h3 : 1 ≤ b) (h4 : b ≤ 999999) : p_dr (nI a) (nI b) := ⟨nI_le (a := 1) h1 (by omega), nI_le (b := 20) h2 (by decide), nI_le (a := 1) h3 (by omega), nI_le (b := 999999) h4 (by decide)⟩
theorem m4 (n : Nat) : n % 4 = 0 ∨ n % 4 = 1 ∨ n % 4 = 2 ∨ n % 4 = 3 := by omega
def drN : Nat → Nat → Nat → Nat
  | 0, _, d => d
  | k + 1, y, d => if nxN y % 4 = 0 then drN k (nxN (nxN (nxN (nxN (nxN y))))) d else if nxN y % 4 = 3 then drN k (nxN y) (d + 1) else drN k (nxN y) d
theorem dr_s {k i : Nat} (h : i < k) : k - i = (k - (i + 1)) + 1 := by omega
theorem dr_0 {k i y d V : Nat} (hm : nxN y % 4 = 0) (h : i < k) (hV : drN (k - i) y d = V) : drN (k - (i + 1)) (nxN (nxN (nxN (nxN (nxN y))))) d = V := by rw [dr_s h, drN, if_pos hm] at hV; exact hV
theorem dr_1 {k i y d V : Nat} (hm : nxN y % 4 = 1) (h : i < k) (hV : drN (k - i) y d = V) : drN (k - (i + 1)) (nxN y) d = V := by rw [dr_s h, drN, if_neg (by omega), if_neg (by omega)] at hV; exact hV
theorem dr_2 {k i y d V : Nat} (hm : nxN y % 4 = 2) (h : i < k) (hV : drN (k - i) y d = V) : drN (k - (i + 1)) (nxN y) d = V := by rw [dr_s h, drN, if_neg (by omega), if_neg (by omega)] at hV; exact hV
theorem dr_3 {k i y d V : Nat} (hm : nxN y % 4 = 3) (h : i < k) (hV : drN (k - i) y d = V) : drN (k - (i + 1)) (nxN y) (d + 1) = V := by rw [dr_s h, drN, if_neg (by omega), if_pos hm] at hV; exact hV
theorem in_1 {v lo : Int64} (h : ¬ lg_cmp v lo < 0) : lo ≤ v := by
  rw [lg_cmp_lt, Int64.lt_iff_toInt_lt] at h; rw [Int64.le_iff_toInt_le]; omega
theorem in_2 {v hi : Int64} (h : ¬ 0 < lg_cmp v hi) : v ≤ hi := by
  rw [lg_cmp_gt, Int64.lt_iff_toInt_lt] at h; rw [Int64.le_iff_toInt_le]; omega
theorem in_3 {v lo hi : Int64} (h : lg_cmp v lo < 0) : ¬ (lo ≤ v ∧ v ≤ hi) := by
  rw [lg_cmp_lt, Int64.lt_iff_toInt_lt] at h; rw [Int64.le_iff_toInt_le]; omega
theorem in_4 {v lo hi : Int64} (h : 0 < lg_cmp v hi) : ¬ (lo ≤ v ∧ v ≤ hi) := by
  rw [lg_cmp_gt, Int64.lt_iff_toInt_lt] at h; rw [Int64.le_iff_toInt_le, Int64.le_iff_toInt_le]; omega
theorem l_rng {v a b : Int32} {A B : Int64} (ha : A.toInt = a.toInt) (hb : B.toInt = b.toInt) : (A ≤ v.toInt64 ∧ v.toInt64 ≤ B) ↔ (a ≤ v ∧ v ≤ b) := by
  rw [Int64.le_iff_toInt_le, Int64.le_iff_toInt_le, Int32.le_iff_toInt_le, Int32.le_iff_toInt_le, Int32.toInt_toInt64]; omega
theorem l_ok {t b : Int32} {n : Int64} (hn : n.toInt + 1 = b.toInt) : (0 ≤ t.toInt64 ∧ t.toInt64 ≤ n) ↔ ok t b := by
  have z : (0 : Int32).toInt = 0 := by decide
  have z' : (0 : Int64).toInt = 0 := by decide
  rw [Int64.le_iff_toInt_le, Int64.le_iff_toInt_le, ok, Int32.le_iff_toInt_le, Int32.lt_iff_toInt_lt, Int32.toInt_toInt64]; omega
theorem not_in_m1 {x : Int64} : ¬ (0 ≤ x ∧ x ≤ -1) := by
  have z' : (0 : Int64).toInt = 0 := by decide
  have z1 : (-1 : Int64).toInt = -1 := by decide
  rw [Int64.le_iff_toInt_le, Int64.le_iff_toInt_le]; omega
def mF (f : Nat → Int32) (hc d : Nat) : Prop := f 0 = nI d ∧ f 4 = 0 ∧ f 5 = nI hc
def st0 (f : Nat → Int32) : Prop := f 0 = 0 ∧ f 1 = 14 ∧ f 2 = 3 ∧ f 3 = 64 ∧ f 4 = 0 ∧ f 5 = 0 ∧ f 6 = 0 ∧ f 7 = 0
theorem lt_of_nleN {i : Nat} (h : ¬ 172 ≤ nI i) (hi : i ≤ 172) : i < 172 := by
  rcases Nat.lt_or_ge i 172 with q | q
  · exact q
  · exact absurd (nI_le (a := 172) q (by omega)) h
theorem i_between2 {v a b : Int32} {x y : Nat} (ha : a.toInt = x) (hb : b.toInt = y) (h : a ≤ v ∧ v ≤ b) (hy : y < 2 ^ 31) : ∃ k : Nat, x ≤ k ∧ k ≤ y ∧ v = nI k := i_between ha hb (fun q => n_lt q h.1) h.2 hy
theorem nn_of2 {v : Int32} (h : 1 ≤ v ∧ v ≤ 30) : ∃ k : Nat, 1 ≤ k ∧ k ≤ 30 ∧ v = nI k := i_between2 (x := 1) (y := 30) (by decide) (by decide) h (by decide)
theorem w3_of {v : Int32} (h : 0 ≤ v ∧ v ≤ 2) : ∃ k : Nat, k < 3 ∧ v = nI k := by
  obtain ⟨k, -, h2, e⟩ := i_between2 (x := 0) (y := 2) (by decide) (by decide) h (by decide)
  exact ⟨k, by omega, e⟩
theorem w2_of {v : Int32} (h : 0 ≤ v ∧ v ≤ 1) : ∃ k : Nat, k < 2 ∧ v = nI k := by
  obtain ⟨k, -, h2, e⟩ := i_between2 (x := 0) (y := 1) (by decide) (by decide) h (by decide)
  exact ⟨k, by omega, e⟩
theorem ok2 {i : Int32} (h : ok i 2) : 0 ≤ i ∧ i ≤ 1 := by
  have z : (1 : Int32).toInt = 1 := by decide
  have z2 : (2 : Int32).toInt = 2 := by decide
  have a := Int32.lt_iff_toInt_lt.mp h.2
  exact ⟨h.1, by rw [Int32.le_iff_toInt_le]; omega⟩
theorem ok2r {i : Int32} (h : 0 ≤ i ∧ i ≤ 1) : ok i 2 := by
  have z : (1 : Int32).toInt = 1 := by decide
  have z2 : (2 : Int32).toInt = 2 := by decide
  have a := Int32.le_iff_toInt_le.mp h.2
  exact ⟨h.1, by rw [Int32.lt_iff_toInt_lt]; omega⟩
theorem ps_rng {w v : Int32} (h : p_set w v) : 0 ≤ w ∧ w ≤ 2 := by
  rcases h with ⟨e, _⟩ | ⟨e, _⟩ | ⟨e, _⟩ <;> (subst e; decide)
theorem psx_0 {v : Int32} (h : p_set (nI 0) v) : 1 ≤ v ∧ v ≤ 60 := by
  rcases h with ⟨_, q⟩ | ⟨e, _⟩ | ⟨e, _⟩
  · exact q
  · exact absurd e (by decide)
  · exact absurd e (by decide)
theorem psx_1 {v : Int32} (h : p_set (nI 1) v) : 1 ≤ v ∧ v ≤ 20 := by
  rcases h with ⟨e, _⟩ | ⟨_, q⟩ | ⟨e, _⟩
  · exact absurd e (by decide)
  · exact q
  · exact absurd e (by decide)
theorem psx_2 {v : Int32} (h : p_set (nI 2) v) : 0 ≤ v ∧ v ≤ 127 := by
  rcases h with ⟨e, _⟩ | ⟨e, _⟩ | ⟨_, q⟩
  · exact absurd e (by decide)
  · exact absurd e (by decide)
  · exact q
end
